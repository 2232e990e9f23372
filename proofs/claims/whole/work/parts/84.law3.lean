set_option maxHeartbeats 4000000 in
set_option maxRecDepth 100000 in
theorem law_width {p : Program} {l : Launch} {e : Env} {s : State} {m : MethodId} {below : List Frame} {meth : Method} {c : Code} {b L : Nat} {xs : Nat → Int32} {D : va_G} {cy : Nat → ClassId} {sa : Nat → Nat} (hlt : l.stackTraces = false) (C : LX p s m meth c b L xs D cy sa) (hLb : L ≤ 2560) {q h o : Nat} {adM : Nat → Nat} {cells slots i : Nat} {Q : State → Prop} {H : Heap} {locs : List Loc} {ls : Array Slot} (hc : cells + 10 ≤ 601024) (hs : slots + 300 ≤ 7293034) (hi : i + 5 ≤ L) (hI : LI D cy s q h o adM H locs) (hl : lv_has ls 8 [(0, .ref b), (1, .ref q), (2, .ref h), (3, .ref o), (4, .int (nI i))])
    (kk : ∀ (H : Heap) (locs : List Loc) (ls : Array Slot), LI D cy s q h o adM H locs → lv_has ls 8 [(0, .ref b), (1, .ref q), (2, .ref h), (3, .ref o), (4, .int (nI i))] → W p l e room_1 s m #[Value.ref b] below meth c H locs (cells + 10) (slots + 300) Q (F0 m 1893 ls [])) : W p l e room_1 s m #[Value.ref b] below meth c H locs cells slots Q (F0 m 281 ls []) := by
  obtain ⟨⟨hx, hb, hr, hml, hown, hts0, hX, hbl, hlocks, hgv⟩, hK, hN, hXE, hZ, hC⟩ := C
  have hown : s.vm.findClass RL = some m.cls := hown
  have hts : ∀ w ∈ wsL_law, w.before #[Value.ref b] s = true := fun w hw => hts0 w (wsL_law_in w hw)
  have hA : ∀ z : Nat, s.heap.size ≤ z → (fun z : Nat => s.heap.size ≤ z) z := fun _ h => h
  have hbA : ¬ (fun z : Nat => s.heap.size ≤ z) b := Nat.not_le.mpr hbl
  obtain ⟨Y, w, f, I, F, hYW, hY, hM, hP, hD, hS⟩ := hI
  refine lv_aload_n hx hb dL_law_281 rfl (lv_at hl 1 rfl) ?_
  refine g_sc5 hx hb hX hbl hbA hS 1 (by decide) hi hLb (lv_at hl 0 rfl) (lv_at hl 4 rfl) dL_law_282 dL_law_283 dL_law_285 dL_law_286 dL_law_287 ?_
  refine g_sc5 hx hb hX hbl hbA hS 2 (by decide) hi hLb (lv_at hl 0 rfl) (lv_at hl 4 rfl) dL_law_288 dL_law_289 dL_law_291 dL_law_292 dL_law_293 ?_
  refine g_sc5 hx hb hX hbl hbA hS 3 (by decide) hi hLb (lv_at hl 0 rfl) (lv_at hl 4 rfl) dL_law_294 dL_law_295 dL_law_297 dL_law_298 dL_law_299 ?_
  refine lv_aload_n hx hb dL_law_300 rfl (lv_at hl 3 rfl) ?_
  have hPh := fr_P1 hP
  have hDh := fr_D1 hD
  have hFh := w_free hDh hS hA
  refine va_calli (vx_runSW (As := [.ref q, .int (xs (i + 1)), .int (xs (i + 2)), .int (xs (i + 3)), .ref o]) (rest := []) ⟨hx, hb, hml, hown, hts⟩ (c_L_width l hlt D cy H.size sa q o w Y hYW hY f (xs (i + 1)) (xs (i + 2)) (xs (i + 3))) (vx_cwSW 5 hts gL_law_L_width rfl rfl rfl (by decide +kernel) ⟨Nat.le_of_ble_eq_true rfl, Nat.le_of_ble_eq_true rfl⟩) ⟨wL_blind, wL_pre hPh hK hDh hN hXE hZ hS hA hC⟩ rfl rfl hl.1 rfl (lv_room (Nat.le_of_ble_eq_true rfl)) dL_law_301 ⟨(by show _ ≤ 601024; omega), (by show _ ≤ 7293034; omega)⟩) hS (fun q _ h => hFh q h) hFh (fun r u t9 H locs ht hvm hw hB hz1 hk1 hS => ?_)
  obtain ⟨hP1, hK1, hD1⟩ := hB
  rw [ht] at hP1
  obtain ⟨hP, hD⟩ := fr_J hP hD hk1 hFh hP1 hD1
  refine W.widen (k := cells + 10) (n := slots + 300) (by omega) (by omega) ?_
  refine lv_istore (lv' := [(5, .int r), (0, .ref b), (1, .ref q), (2, .ref h), (3, .ref o), (4, .int (nI i))]) hx hb dL_law_304 hl (by decide) rfl (fun ls hl => ?_)
  refine lv_aload_n hx hb dL_law_306 rfl (lv_at hl 3 rfl) ?_
  refine g_sc5 hx hb hX hbl hbA hS 1 (by decide) hi hLb (lv_at hl 1 rfl) (lv_at hl 5 rfl) dL_law_307 dL_law_308 dL_law_310 dL_law_311 dL_law_312 ?_
  refine g_sc5 hx hb hX hbl hbA hS 2 (by decide) hi hLb (lv_at hl 1 rfl) (lv_at hl 5 rfl) dL_law_313 dL_law_314 dL_law_316 dL_law_317 dL_law_318 ?_
  refine g_sc5 hx hb hX hbl hbA hS 3 (by decide) hi hLb (lv_at hl 1 rfl) (lv_at hl 5 rfl) dL_law_319 dL_law_320 dL_law_322 dL_law_323 dL_law_324 ?_
  have hPm := fr_P2 hP
  have hDm := fr_D2 hD
  have hFm := w_free hDm hS hA
  refine va_calli (va_runV (As := [.int (xs (i + 1)), .int (xs (i + 2)), .int (xs (i + 3))]) (rest := []) ⟨hx, hb, hml, hown, hts⟩ (c_X5_width l D cy H.size h adM I F Y hM hY (xs (i + 1)) (xs (i + 2)) (xs (i + 3))) (cwV 3 hts gL_law_X5_width rfl rfl rfl (by decide +kernel) ⟨Nat.le_of_ble_eq_true rfl, Nat.le_of_ble_eq_true rfl⟩) ⟨wB_blind, va_recv hK hPm (ci := 5) (q0 := 0) rfl rfl, wB_pre hPm hK hDm⟩ rfl rfl hl.1 rfl (lv_room (Nat.le_of_ble_eq_true rfl)) dL_law_325 ⟨(by show _ ≤ 601024; omega), (by show _ ≤ 7293034; omega)⟩) hS (fun q _ h => hFm q h) hFm (fun r2 u2 t9 H locs ht hvm hw2 hB hz1 hk1 hS => ?_)
  obtain ⟨hP2, hK2, hD2⟩ := hB
  rw [ht] at hP2
  obtain ⟨hP, hD⟩ := fr_J (fr_sP hP) (fr_sD hD) hk1 hFm hP2 hD2
  have hP := fr_sP hP
  have hD := fr_sD hD
  refine lv_istore (lv' := [(6, .int r2), (5, .int r), (0, .ref b), (1, .ref q), (2, .ref h), (3, .ref o), (4, .int (nI i))]) hx hb dL_law_328 hl (by decide) rfl (fun ls hl => ?_)
  refine lv_aload_n hx hb dL_law_330 rfl (lv_at hl 4 rfl) ?_
  refine vp_callSi (va_Run.run (va_runV (As := []) (rest := []) ⟨hx, hb, hml, hown, hts⟩ (c_X5_thrown l D cy h adM u2.1 u2.2) (cwV 0 hts gL_law_X5_thrown rfl rfl rfl (by decide +kernel) ⟨Nat.le_of_ble_eq_true rfl, Nat.le_of_ble_eq_true rfl⟩) ⟨rB_blind, va_recv hK (fr_P2 hP) (ci := 5) (q0 := 0) rfl rfl, (rB_pre (fr_P2 hP) hK)⟩ rfl rfl hl.1 rfl (lv_room (Nat.le_of_ble_eq_true rfl)) dL_law_331 ⟨(by show _ ≤ 601024; omega), (by show _ ≤ 7293034; omega)⟩)) (fun r3 hr3 => ?_)
  refine lv_iload hx hb dL_law_334 (lv_at hl 1 rfl) ?_
  have he : r3 = r := hr3.trans (hw2.1.trans hw.1.symm)
  refine lv_icmp_eq (tgt := 341) hx hb dL_law_336 (by decide) (fun _ => ?_) (fun c1 => absurd he c1)
  have hI2 : LI D cy s q h o adM H locs := ⟨(sp_width Y (xs (i + 1)) (xs (i + 2)) (xs (i + 3))).2.2, u.1, u.2, u2.1, u2.2, hw.2.2, WF_width hY _ _ _, hw2.2.2, hP, hD, hS⟩
  refine lv_iload hx hb dL_law_341 (lv_at hl 1 rfl) ?_
  refine lv_if_ne (tgt := 358) hx hb dL_law_343 (by decide) (fun _ => ?_) (fun c2 => ?_)
  · exact lv_goto (tgt := 1893) hx hb dL_law_358 (by decide) (kk _ _ _ hI2 (lv_sub hl [2, 3, 4, 5, 6] rfl))
  have h0 : (sp_width Y (xs (i + 1)) (xs (i + 2)) (xs (i + 3))).1 = 0 := c_zero hw.1 (sb_width) (by decide) c2
  refine lv_aload_n hx hb dL_law_346 rfl (lv_at hl 5 rfl) ?_
  refine lv_iconst (v := 0) hx hb dL_law_347 (by decide) ?_
  refine va_lald hx hb hK hP u.1.length 2 (fr_L (fr_get _ _)) rfl (i := 0) (by unfold vp_in; decide) dL_law_348 ?_
  refine lv_iload hx hb dL_law_349 (lv_at hl 0 rfl) ?_
  refine lv_i2l (v := r2.toInt64) hx hb dL_law_351 rfl ?_
  refine W.lcmp hx hb dL_law_352 ?_
  refine g_top (y := 0) (by rw [show u.2 (0 : Int32).toNatClampNeg = _ from hw.2.1 h0, hw2.2.1 h0]; exact lc_self _) ?_
  refine lv_if_eq (tgt := 358) hx hb dL_law_353 (by decide) (fun _ => ?_) (fun c3 => absurd rfl c3)
  exact lv_goto (tgt := 1893) hx hb dL_law_358 (by decide) (kk _ _ _ hI2 (lv_sub hl [2, 3, 4, 5, 6] rfl))
set_option maxHeartbeats 4000000 in
set_option maxRecDepth 100000 in
theorem law_holds {p : Program} {l : Launch} {e : Env} {s : State} {m : MethodId} {below : List Frame} {meth : Method} {c : Code} {b L : Nat} {xs : Nat → Int32} {D : va_G} {cy : Nat → ClassId} {sa : Nat → Nat} (hlt : l.stackTraces = false) (C : LX p s m meth c b L xs D cy sa) (hLb : L ≤ 2560) {q h o : Nat} {adM : Nat → Nat} {cells slots i : Nat} {Q : State → Prop} {H : Heap} {locs : List Loc} {ls : Array Slot} (hc : cells + 10 ≤ 601024) (hs : slots + 300 ≤ 7293034) (hi : i + 5 ≤ L) (hI : LI D cy s q h o adM H locs) (hl : lv_has ls 8 [(0, .ref b), (1, .ref q), (2, .ref h), (3, .ref o), (4, .int (nI i))])
    (kk : ∀ (H : Heap) (locs : List Loc) (ls : Array Slot), LI D cy s q h o adM H locs → lv_has ls 8 [(0, .ref b), (1, .ref q), (2, .ref h), (3, .ref o), (4, .int (nI i))] → W p l e room_1 s m #[Value.ref b] below meth c H locs (cells + 10) (slots + 300) Q (F0 m 1893 ls [])) : W p l e room_1 s m #[Value.ref b] below meth c H locs cells slots Q (F0 m 361 ls []) := by
  obtain ⟨⟨hx, hb, hr, hml, hown, hts0, hX, hbl, hlocks, hgv⟩, hK, hN, hXE, hZ, hC⟩ := C
  have hown : s.vm.findClass RL = some m.cls := hown
  have hts : ∀ w ∈ wsL_law, w.before #[Value.ref b] s = true := fun w hw => hts0 w (wsL_law_in w hw)
  have hA : ∀ z : Nat, s.heap.size ≤ z → (fun z : Nat => s.heap.size ≤ z) z := fun _ h => h
  have hbA : ¬ (fun z : Nat => s.heap.size ≤ z) b := Nat.not_le.mpr hbl
  obtain ⟨Y, w, f, I, F, hYW, hY, hM, hP, hD, hS⟩ := hI
  refine lv_aload_n hx hb dL_law_361 rfl (lv_at hl 1 rfl) ?_
  refine g_sc5 hx hb hX hbl hbA hS 1 (by decide) hi hLb (lv_at hl 0 rfl) (lv_at hl 4 rfl) dL_law_362 dL_law_363 dL_law_365 dL_law_366 dL_law_367 ?_
  refine g_sc5 hx hb hX hbl hbA hS 2 (by decide) hi hLb (lv_at hl 0 rfl) (lv_at hl 4 rfl) dL_law_368 dL_law_369 dL_law_371 dL_law_372 dL_law_373 ?_
  refine lv_aload_n hx hb dL_law_374 rfl (lv_at hl 3 rfl) ?_
  have hPh := fr_P1 hP
  have hDh := fr_D1 hD
  have hFh := w_free hDh hS hA
  refine va_calli (vx_runSW (As := [.ref q, .int (xs (i + 1)), .int (xs (i + 2)), .ref o]) (rest := []) ⟨hx, hb, hml, hown, hts⟩ (c_L_holds l hlt D cy H.size sa q o w Y hYW hY f (xs (i + 1)) (xs (i + 2))) (vx_cwSW 4 hts gL_law_L_holds rfl rfl rfl (by decide +kernel) ⟨Nat.le_of_ble_eq_true rfl, Nat.le_of_ble_eq_true rfl⟩) ⟨wL_blind, wL_pre hPh hK hDh hN hXE hZ hS hA hC⟩ rfl rfl hl.1 rfl (lv_room (Nat.le_of_ble_eq_true rfl)) dL_law_375 ⟨(by show _ ≤ 601024; omega), (by show _ ≤ 7293034; omega)⟩) hS (fun q _ h => hFh q h) hFh (fun r u t9 H locs ht hvm hw hB hz1 hk1 hS => ?_)
  obtain ⟨hP1, hK1, hD1⟩ := hB
  rw [ht] at hP1
  obtain ⟨hP, hD⟩ := fr_J hP hD hk1 hFh hP1 hD1
  refine W.widen (k := cells + 10) (n := slots + 300) (by omega) (by omega) ?_
  refine lv_istore (lv' := [(5, .int r), (0, .ref b), (1, .ref q), (2, .ref h), (3, .ref o), (4, .int (nI i))]) hx hb dL_law_378 hl (by decide) rfl (fun ls hl => ?_)
  refine lv_aload_n hx hb dL_law_380 rfl (lv_at hl 3 rfl) ?_
  refine g_sc5 hx hb hX hbl hbA hS 1 (by decide) hi hLb (lv_at hl 1 rfl) (lv_at hl 5 rfl) dL_law_381 dL_law_382 dL_law_384 dL_law_385 dL_law_386 ?_
  refine g_sc5 hx hb hX hbl hbA hS 2 (by decide) hi hLb (lv_at hl 1 rfl) (lv_at hl 5 rfl) dL_law_387 dL_law_388 dL_law_390 dL_law_391 dL_law_392 ?_
  have hPm := fr_P2 hP
  have hDm := fr_D2 hD
  have hFm := w_free hDm hS hA
  refine va_calli (va_runV (As := [.int (xs (i + 1)), .int (xs (i + 2))]) (rest := []) ⟨hx, hb, hml, hown, hts⟩ (c_X5_holds l D cy H.size h adM I F Y hM hY (xs (i + 1)) (xs (i + 2))) (cwV 2 hts gL_law_X5_holds rfl rfl rfl (by decide +kernel) ⟨Nat.le_of_ble_eq_true rfl, Nat.le_of_ble_eq_true rfl⟩) ⟨wB_blind, va_recv hK hPm (ci := 5) (q0 := 0) rfl rfl, wB_pre hPm hK hDm⟩ rfl rfl hl.1 rfl (lv_room (Nat.le_of_ble_eq_true rfl)) dL_law_393 ⟨(by show _ ≤ 601024; omega), (by show _ ≤ 7293034; omega)⟩) hS (fun q _ h => hFm q h) hFm (fun r2 u2 t9 H locs ht hvm hw2 hB hz1 hk1 hS => ?_)
  obtain ⟨hP2, hK2, hD2⟩ := hB
  rw [ht] at hP2
  obtain ⟨hP, hD⟩ := fr_J (fr_sP hP) (fr_sD hD) hk1 hFm hP2 hD2
  have hP := fr_sP hP
  have hD := fr_sD hD
  refine lv_istore (lv' := [(6, .int r2), (5, .int r), (0, .ref b), (1, .ref q), (2, .ref h), (3, .ref o), (4, .int (nI i))]) hx hb dL_law_396 hl (by decide) rfl (fun ls hl => ?_)
  refine lv_aload_n hx hb dL_law_398 rfl (lv_at hl 4 rfl) ?_
  refine vp_callSi (va_Run.run (va_runV (As := []) (rest := []) ⟨hx, hb, hml, hown, hts⟩ (c_X5_thrown l D cy h adM u2.1 u2.2) (cwV 0 hts gL_law_X5_thrown rfl rfl rfl (by decide +kernel) ⟨Nat.le_of_ble_eq_true rfl, Nat.le_of_ble_eq_true rfl⟩) ⟨rB_blind, va_recv hK (fr_P2 hP) (ci := 5) (q0 := 0) rfl rfl, (rB_pre (fr_P2 hP) hK)⟩ rfl rfl hl.1 rfl (lv_room (Nat.le_of_ble_eq_true rfl)) dL_law_399 ⟨(by show _ ≤ 601024; omega), (by show _ ≤ 7293034; omega)⟩)) (fun r3 hr3 => ?_)
  refine lv_iload hx hb dL_law_402 (lv_at hl 1 rfl) ?_
  have he : r3 = r := hr3.trans (hw2.1.trans hw.1.symm)
  refine lv_icmp_eq (tgt := 409) hx hb dL_law_404 (by decide) (fun _ => ?_) (fun c1 => absurd he c1)
  have hI2 : LI D cy s q h o adM H locs := ⟨(sp_holds Y (xs (i + 1)) (xs (i + 2))).2.2, u.1, u.2, u2.1, u2.2, hw.2.2, WF_holds hY _ _, hw2.2.2, hP, hD, hS⟩
  refine lv_iload hx hb dL_law_409 (lv_at hl 1 rfl) ?_
  refine lv_if_ne (tgt := 426) hx hb dL_law_411 (by decide) (fun _ => ?_) (fun c2 => ?_)
  · exact lv_goto (tgt := 1893) hx hb dL_law_426 (by decide) (kk _ _ _ hI2 (lv_sub hl [2, 3, 4, 5, 6] rfl))
  have h0 : (sp_holds Y (xs (i + 1)) (xs (i + 2))).1 = 0 := c_zero hw.1 (sb_holds) (by decide) c2
  refine lv_aload_n hx hb dL_law_414 rfl (lv_at hl 5 rfl) ?_
  refine lv_iconst (v := 0) hx hb dL_law_415 (by decide) ?_
  refine va_lald hx hb hK hP u.1.length 2 (fr_L (fr_get _ _)) rfl (i := 0) (by unfold vp_in; decide) dL_law_416 ?_
  refine lv_iload hx hb dL_law_417 (lv_at hl 0 rfl) ?_
  refine lv_i2l (v := r2.toInt64) hx hb dL_law_419 rfl ?_
  refine W.lcmp hx hb dL_law_420 ?_
  refine g_top (y := 0) (by rw [show u.2 (0 : Int32).toNatClampNeg = _ from hw.2.1 h0, hw2.2.1 h0]; exact lc_self _) ?_
  refine lv_if_eq (tgt := 426) hx hb dL_law_421 (by decide) (fun _ => ?_) (fun c3 => absurd rfl c3)
  exact lv_goto (tgt := 1893) hx hb dL_law_426 (by decide) (kk _ _ _ hI2 (lv_sub hl [2, 3, 4, 5, 6] rfl))
set_option maxHeartbeats 4000000 in
set_option maxRecDepth 100000 in
theorem law_level {p : Program} {l : Launch} {e : Env} {s : State} {m : MethodId} {below : List Frame} {meth : Method} {c : Code} {b L : Nat} {xs : Nat → Int32} {D : va_G} {cy : Nat → ClassId} {sa : Nat → Nat} (hlt : l.stackTraces = false) (C : LX p s m meth c b L xs D cy sa) (hLb : L ≤ 2560) {q h o : Nat} {adM : Nat → Nat} {cells slots i : Nat} {Q : State → Prop} {H : Heap} {locs : List Loc} {ls : Array Slot} (hc : cells + 10 ≤ 601024) (hs : slots + 300 ≤ 7293034) (hi : i + 5 ≤ L) (hI : LI D cy s q h o adM H locs) (hl : lv_has ls 8 [(0, .ref b), (1, .ref q), (2, .ref h), (3, .ref o), (4, .int (nI i))])
    (kk : ∀ (H : Heap) (locs : List Loc) (ls : Array Slot), LI D cy s q h o adM H locs → lv_has ls 8 [(0, .ref b), (1, .ref q), (2, .ref h), (3, .ref o), (4, .int (nI i))] → W p l e room_1 s m #[Value.ref b] below meth c H locs (cells + 10) (slots + 300) Q (F0 m 1893 ls [])) : W p l e room_1 s m #[Value.ref b] below meth c H locs cells slots Q (F0 m 429 ls []) := by
  obtain ⟨⟨hx, hb, hr, hml, hown, hts0, hX, hbl, hlocks, hgv⟩, hK, hN, hXE, hZ, hC⟩ := C
  have hown : s.vm.findClass RL = some m.cls := hown
  have hts : ∀ w ∈ wsL_law, w.before #[Value.ref b] s = true := fun w hw => hts0 w (wsL_law_in w hw)
  have hA : ∀ z : Nat, s.heap.size ≤ z → (fun z : Nat => s.heap.size ≤ z) z := fun _ h => h
  have hbA : ¬ (fun z : Nat => s.heap.size ≤ z) b := Nat.not_le.mpr hbl
  obtain ⟨Y, w, f, I, F, hYW, hY, hM, hP, hD, hS⟩ := hI
  refine lv_aload_n hx hb dL_law_429 rfl (lv_at hl 1 rfl) ?_
  refine g_sc5 hx hb hX hbl hbA hS 1 (by decide) hi hLb (lv_at hl 0 rfl) (lv_at hl 4 rfl) dL_law_430 dL_law_431 dL_law_433 dL_law_434 dL_law_435 ?_
  refine g_sc5 hx hb hX hbl hbA hS 2 (by decide) hi hLb (lv_at hl 0 rfl) (lv_at hl 4 rfl) dL_law_436 dL_law_437 dL_law_439 dL_law_440 dL_law_441 ?_
  refine lv_aload_n hx hb dL_law_442 rfl (lv_at hl 3 rfl) ?_
  have hPh := fr_P1 hP
  have hDh := fr_D1 hD
  have hFh := w_free hDh hS hA
  refine va_calli (vx_runSW (As := [.ref q, .int (xs (i + 1)), .int (xs (i + 2)), .ref o]) (rest := []) ⟨hx, hb, hml, hown, hts⟩ (c_L_level l hlt D cy H.size sa q o w Y hYW hY f (xs (i + 1)) (xs (i + 2))) (vx_cwSW 4 hts gL_law_L_level rfl rfl rfl (by decide +kernel) ⟨Nat.le_of_ble_eq_true rfl, Nat.le_of_ble_eq_true rfl⟩) ⟨wL_blind, wL_pre hPh hK hDh hN hXE hZ hS hA hC⟩ rfl rfl hl.1 rfl (lv_room (Nat.le_of_ble_eq_true rfl)) dL_law_443 ⟨(by show _ ≤ 601024; omega), (by show _ ≤ 7293034; omega)⟩) hS (fun q _ h => hFh q h) hFh (fun r u t9 H locs ht hvm hw hB hz1 hk1 hS => ?_)
  obtain ⟨hP1, hK1, hD1⟩ := hB
  rw [ht] at hP1
  obtain ⟨hP, hD⟩ := fr_J hP hD hk1 hFh hP1 hD1
  refine W.widen (k := cells + 10) (n := slots + 300) (by omega) (by omega) ?_
  refine lv_istore (lv' := [(5, .int r), (0, .ref b), (1, .ref q), (2, .ref h), (3, .ref o), (4, .int (nI i))]) hx hb dL_law_446 hl (by decide) rfl (fun ls hl => ?_)
  refine lv_aload_n hx hb dL_law_448 rfl (lv_at hl 3 rfl) ?_
  refine g_sc5 hx hb hX hbl hbA hS 1 (by decide) hi hLb (lv_at hl 1 rfl) (lv_at hl 5 rfl) dL_law_449 dL_law_450 dL_law_452 dL_law_453 dL_law_454 ?_
  refine g_sc5 hx hb hX hbl hbA hS 2 (by decide) hi hLb (lv_at hl 1 rfl) (lv_at hl 5 rfl) dL_law_455 dL_law_456 dL_law_458 dL_law_459 dL_law_460 ?_
  have hPm := fr_P2 hP
  have hDm := fr_D2 hD
  have hFm := w_free hDm hS hA
  refine va_calli (va_runV (As := [.int (xs (i + 1)), .int (xs (i + 2))]) (rest := []) ⟨hx, hb, hml, hown, hts⟩ (c_X5_level l D cy H.size h adM I F Y hM hY (xs (i + 1)) (xs (i + 2))) (cwV 2 hts gL_law_X5_level rfl rfl rfl (by decide +kernel) ⟨Nat.le_of_ble_eq_true rfl, Nat.le_of_ble_eq_true rfl⟩) ⟨wB_blind, va_recv hK hPm (ci := 5) (q0 := 0) rfl rfl, wB_pre hPm hK hDm⟩ rfl rfl hl.1 rfl (lv_room (Nat.le_of_ble_eq_true rfl)) dL_law_461 ⟨(by show _ ≤ 601024; omega), (by show _ ≤ 7293034; omega)⟩) hS (fun q _ h => hFm q h) hFm (fun r2 u2 t9 H locs ht hvm hw2 hB hz1 hk1 hS => ?_)
  obtain ⟨hP2, hK2, hD2⟩ := hB
  rw [ht] at hP2
  obtain ⟨hP, hD⟩ := fr_J (fr_sP hP) (fr_sD hD) hk1 hFm hP2 hD2
  have hP := fr_sP hP
  have hD := fr_sD hD
  refine lv_istore (lv' := [(6, .int r2), (5, .int r), (0, .ref b), (1, .ref q), (2, .ref h), (3, .ref o), (4, .int (nI i))]) hx hb dL_law_464 hl (by decide) rfl (fun ls hl => ?_)
  refine lv_aload_n hx hb dL_law_466 rfl (lv_at hl 4 rfl) ?_
  refine vp_callSi (va_Run.run (va_runV (As := []) (rest := []) ⟨hx, hb, hml, hown, hts⟩ (c_X5_thrown l D cy h adM u2.1 u2.2) (cwV 0 hts gL_law_X5_thrown rfl rfl rfl (by decide +kernel) ⟨Nat.le_of_ble_eq_true rfl, Nat.le_of_ble_eq_true rfl⟩) ⟨rB_blind, va_recv hK (fr_P2 hP) (ci := 5) (q0 := 0) rfl rfl, (rB_pre (fr_P2 hP) hK)⟩ rfl rfl hl.1 rfl (lv_room (Nat.le_of_ble_eq_true rfl)) dL_law_467 ⟨(by show _ ≤ 601024; omega), (by show _ ≤ 7293034; omega)⟩)) (fun r3 hr3 => ?_)
  refine lv_iload hx hb dL_law_470 (lv_at hl 1 rfl) ?_
  have he : r3 = r := hr3.trans (hw2.1.trans hw.1.symm)
  refine lv_icmp_eq (tgt := 477) hx hb dL_law_472 (by decide) (fun _ => ?_) (fun c1 => absurd he c1)
  have hI2 : LI D cy s q h o adM H locs := ⟨(sp_level Y (xs (i + 1)) (xs (i + 2))).2.2, u.1, u.2, u2.1, u2.2, hw.2.2, WF_level hY _ _, hw2.2.2, hP, hD, hS⟩
  refine lv_iload hx hb dL_law_477 (lv_at hl 1 rfl) ?_
  refine lv_if_ne (tgt := 494) hx hb dL_law_479 (by decide) (fun _ => ?_) (fun c2 => ?_)
  · exact lv_goto (tgt := 1893) hx hb dL_law_494 (by decide) (kk _ _ _ hI2 (lv_sub hl [2, 3, 4, 5, 6] rfl))
  have h0 : (sp_level Y (xs (i + 1)) (xs (i + 2))).1 = 0 := c_zero hw.1 (sb_level) (by decide) c2
  refine lv_aload_n hx hb dL_law_482 rfl (lv_at hl 5 rfl) ?_
  refine lv_iconst (v := 0) hx hb dL_law_483 (by decide) ?_
  refine va_lald hx hb hK hP u.1.length 2 (fr_L (fr_get _ _)) rfl (i := 0) (by unfold vp_in; decide) dL_law_484 ?_
  refine lv_iload hx hb dL_law_485 (lv_at hl 0 rfl) ?_
  refine lv_i2l (v := r2.toInt64) hx hb dL_law_487 rfl ?_
  refine W.lcmp hx hb dL_law_488 ?_
  refine g_top (y := 0) (by rw [show u.2 (0 : Int32).toNatClampNeg = _ from hw.2.1 h0, hw2.2.1 h0]; exact lc_self _) ?_
  refine lv_if_eq (tgt := 494) hx hb dL_law_489 (by decide) (fun _ => ?_) (fun c3 => absurd rfl c3)
  exact lv_goto (tgt := 1893) hx hb dL_law_494 (by decide) (kk _ _ _ hI2 (lv_sub hl [2, 3, 4, 5, 6] rfl))
set_option maxHeartbeats 4000000 in
set_option maxRecDepth 100000 in
theorem law_head {p : Program} {l : Launch} {e : Env} {s : State} {m : MethodId} {below : List Frame} {meth : Method} {c : Code} {b L : Nat} {xs : Nat → Int32} {D : va_G} {cy : Nat → ClassId} {sa : Nat → Nat} (hlt : l.stackTraces = false) (C : LX p s m meth c b L xs D cy sa) (hLb : L ≤ 2560) {q h o : Nat} {adM : Nat → Nat} {cells slots i : Nat} {Q : State → Prop} {H : Heap} {locs : List Loc} {ls : Array Slot} (hc : cells + 10 ≤ 601024) (hs : slots + 300 ≤ 7293034) (hi : i + 5 ≤ L) (hI : LI D cy s q h o adM H locs) (hl : lv_has ls 8 [(0, .ref b), (1, .ref q), (2, .ref h), (3, .ref o), (4, .int (nI i))])
    (kk : ∀ (H : Heap) (locs : List Loc) (ls : Array Slot), LI D cy s q h o adM H locs → lv_has ls 8 [(0, .ref b), (1, .ref q), (2, .ref h), (3, .ref o), (4, .int (nI i))] → W p l e room_1 s m #[Value.ref b] below meth c H locs (cells + 10) (slots + 300) Q (F0 m 1893 ls [])) : W p l e room_1 s m #[Value.ref b] below meth c H locs cells slots Q (F0 m 497 ls []) := by
  obtain ⟨⟨hx, hb, hr, hml, hown, hts0, hX, hbl, hlocks, hgv⟩, hK, hN, hXE, hZ, hC⟩ := C
  have hown : s.vm.findClass RL = some m.cls := hown
  have hts : ∀ w ∈ wsL_law, w.before #[Value.ref b] s = true := fun w hw => hts0 w (wsL_law_in w hw)
  have hA : ∀ z : Nat, s.heap.size ≤ z → (fun z : Nat => s.heap.size ≤ z) z := fun _ h => h
  have hbA : ¬ (fun z : Nat => s.heap.size ≤ z) b := Nat.not_le.mpr hbl
  obtain ⟨Y, w, f, I, F, hYW, hY, hM, hP, hD, hS⟩ := hI
  refine lv_aload_n hx hb dL_law_497 rfl (lv_at hl 1 rfl) ?_
  refine g_sc5 hx hb hX hbl hbA hS 1 (by decide) hi hLb (lv_at hl 0 rfl) (lv_at hl 4 rfl) dL_law_498 dL_law_499 dL_law_501 dL_law_502 dL_law_503 ?_
  refine lv_aload_n hx hb dL_law_504 rfl (lv_at hl 3 rfl) ?_
  have hPh := fr_P1 hP
  have hDh := fr_D1 hD
  have hFh := w_free hDh hS hA
  refine va_calli (vx_runSW (As := [.ref q, .int (xs (i + 1)), .ref o]) (rest := []) ⟨hx, hb, hml, hown, hts⟩ (c_L_head l hlt D cy H.size sa q o w Y hYW hY f (xs (i + 1))) (vx_cwSW 3 hts gL_law_L_head rfl rfl rfl (by decide +kernel) ⟨Nat.le_of_ble_eq_true rfl, Nat.le_of_ble_eq_true rfl⟩) ⟨wL_blind, wL_pre hPh hK hDh hN hXE hZ hS hA hC⟩ rfl rfl hl.1 rfl (lv_room (Nat.le_of_ble_eq_true rfl)) dL_law_505 ⟨(by show _ ≤ 601024; omega), (by show _ ≤ 7293034; omega)⟩) hS (fun q _ h => hFh q h) hFh (fun r u t9 H locs ht hvm hw hB hz1 hk1 hS => ?_)
  obtain ⟨hP1, hK1, hD1⟩ := hB
  rw [ht] at hP1
  obtain ⟨hP, hD⟩ := fr_J hP hD hk1 hFh hP1 hD1
  refine W.widen (k := cells + 10) (n := slots + 300) (by omega) (by omega) ?_
  refine lv_istore (lv' := [(5, .int r), (0, .ref b), (1, .ref q), (2, .ref h), (3, .ref o), (4, .int (nI i))]) hx hb dL_law_508 hl (by decide) rfl (fun ls hl => ?_)
  refine lv_aload_n hx hb dL_law_510 rfl (lv_at hl 3 rfl) ?_
  refine g_sc5 hx hb hX hbl hbA hS 1 (by decide) hi hLb (lv_at hl 1 rfl) (lv_at hl 5 rfl) dL_law_511 dL_law_512 dL_law_514 dL_law_515 dL_law_516 ?_
  have hPm := fr_P2 hP
  have hDm := fr_D2 hD
  have hFm := w_free hDm hS hA
  refine va_calli (va_runV (As := [.int (xs (i + 1))]) (rest := []) ⟨hx, hb, hml, hown, hts⟩ (c_X5_head l D cy H.size h adM I F Y hM hY (xs (i + 1))) (cwV 1 hts gL_law_X5_head rfl rfl rfl (by decide +kernel) ⟨Nat.le_of_ble_eq_true rfl, Nat.le_of_ble_eq_true rfl⟩) ⟨wB_blind, va_recv hK hPm (ci := 5) (q0 := 0) rfl rfl, wB_pre hPm hK hDm⟩ rfl rfl hl.1 rfl (lv_room (Nat.le_of_ble_eq_true rfl)) dL_law_517 ⟨(by show _ ≤ 601024; omega), (by show _ ≤ 7293034; omega)⟩) hS (fun q _ h => hFm q h) hFm (fun r2 u2 t9 H locs ht hvm hw2 hB hz1 hk1 hS => ?_)
  obtain ⟨hP2, hK2, hD2⟩ := hB
  rw [ht] at hP2
  obtain ⟨hP, hD⟩ := fr_J (fr_sP hP) (fr_sD hD) hk1 hFm hP2 hD2
  have hP := fr_sP hP
  have hD := fr_sD hD
  refine lv_istore (lv' := [(6, .int r2), (5, .int r), (0, .ref b), (1, .ref q), (2, .ref h), (3, .ref o), (4, .int (nI i))]) hx hb dL_law_520 hl (by decide) rfl (fun ls hl => ?_)
  refine lv_aload_n hx hb dL_law_522 rfl (lv_at hl 4 rfl) ?_
  refine vp_callSi (va_Run.run (va_runV (As := []) (rest := []) ⟨hx, hb, hml, hown, hts⟩ (c_X5_thrown l D cy h adM u2.1 u2.2) (cwV 0 hts gL_law_X5_thrown rfl rfl rfl (by decide +kernel) ⟨Nat.le_of_ble_eq_true rfl, Nat.le_of_ble_eq_true rfl⟩) ⟨rB_blind, va_recv hK (fr_P2 hP) (ci := 5) (q0 := 0) rfl rfl, (rB_pre (fr_P2 hP) hK)⟩ rfl rfl hl.1 rfl (lv_room (Nat.le_of_ble_eq_true rfl)) dL_law_523 ⟨(by show _ ≤ 601024; omega), (by show _ ≤ 7293034; omega)⟩)) (fun r3 hr3 => ?_)
  refine lv_iload hx hb dL_law_526 (lv_at hl 1 rfl) ?_
  have he : r3 = r := hr3.trans (hw2.1.trans hw.1.symm)
  refine lv_icmp_eq (tgt := 533) hx hb dL_law_528 (by decide) (fun _ => ?_) (fun c1 => absurd he c1)
  have hI2 : LI D cy s q h o adM H locs := ⟨(sp_head Y (xs (i + 1))).2.2, u.1, u.2, u2.1, u2.2, hw.2.2, WF_head hY _, hw2.2.2, hP, hD, hS⟩
  refine lv_iload hx hb dL_law_533 (lv_at hl 1 rfl) ?_
  refine lv_if_ne (tgt := 550) hx hb dL_law_535 (by decide) (fun _ => ?_) (fun c2 => ?_)
  · exact lv_goto (tgt := 1893) hx hb dL_law_550 (by decide) (kk _ _ _ hI2 (lv_sub hl [2, 3, 4, 5, 6] rfl))
  have h0 : (sp_head Y (xs (i + 1))).1 = 0 := c_zero hw.1 (sb_head) (by decide) c2
  refine lv_aload_n hx hb dL_law_538 rfl (lv_at hl 5 rfl) ?_
  refine lv_iconst (v := 0) hx hb dL_law_539 (by decide) ?_
  refine va_lald hx hb hK hP u.1.length 2 (fr_L (fr_get _ _)) rfl (i := 0) (by unfold vp_in; decide) dL_law_540 ?_
  refine lv_iload hx hb dL_law_541 (lv_at hl 0 rfl) ?_
  refine lv_i2l (v := r2.toInt64) hx hb dL_law_543 rfl ?_
  refine W.lcmp hx hb dL_law_544 ?_
  refine g_top (y := 0) (by rw [show u.2 (0 : Int32).toNatClampNeg = _ from hw.2.1 h0, hw2.2.1 h0]; exact lc_self _) ?_
  refine lv_if_eq (tgt := 550) hx hb dL_law_545 (by decide) (fun _ => ?_) (fun c3 => absurd rfl c3)
  exact lv_goto (tgt := 1893) hx hb dL_law_550 (by decide) (kk _ _ _ hI2 (lv_sub hl [2, 3, 4, 5, 6] rfl))
set_option maxHeartbeats 4000000 in
set_option maxRecDepth 100000 in
theorem law_days {p : Program} {l : Launch} {e : Env} {s : State} {m : MethodId} {below : List Frame} {meth : Method} {c : Code} {b L : Nat} {xs : Nat → Int32} {D : va_G} {cy : Nat → ClassId} {sa : Nat → Nat} (hlt : l.stackTraces = false) (C : LX p s m meth c b L xs D cy sa) (hLb : L ≤ 2560) {q h o : Nat} {adM : Nat → Nat} {cells slots i : Nat} {Q : State → Prop} {H : Heap} {locs : List Loc} {ls : Array Slot} (hc : cells + 10 ≤ 601024) (hs : slots + 300 ≤ 7293034) (hi : i + 5 ≤ L) (hI : LI D cy s q h o adM H locs) (hl : lv_has ls 8 [(0, .ref b), (1, .ref q), (2, .ref h), (3, .ref o), (4, .int (nI i))])
    (kk : ∀ (H : Heap) (locs : List Loc) (ls : Array Slot), LI D cy s q h o adM H locs → lv_has ls 8 [(0, .ref b), (1, .ref q), (2, .ref h), (3, .ref o), (4, .int (nI i))] → W p l e room_1 s m #[Value.ref b] below meth c H locs (cells + 10) (slots + 300) Q (F0 m 1893 ls [])) : W p l e room_1 s m #[Value.ref b] below meth c H locs cells slots Q (F0 m 553 ls []) := by
  obtain ⟨⟨hx, hb, hr, hml, hown, hts0, hX, hbl, hlocks, hgv⟩, hK, hN, hXE, hZ, hC⟩ := C
  have hown : s.vm.findClass RL = some m.cls := hown
  have hts : ∀ w ∈ wsL_law, w.before #[Value.ref b] s = true := fun w hw => hts0 w (wsL_law_in w hw)
  have hA : ∀ z : Nat, s.heap.size ≤ z → (fun z : Nat => s.heap.size ≤ z) z := fun _ h => h
  have hbA : ¬ (fun z : Nat => s.heap.size ≤ z) b := Nat.not_le.mpr hbl
  obtain ⟨Y, w, f, I, F, hYW, hY, hM, hP, hD, hS⟩ := hI
  refine lv_aload_n hx hb dL_law_553 rfl (lv_at hl 1 rfl) ?_
  refine g_sc5 hx hb hX hbl hbA hS 1 (by decide) hi hLb (lv_at hl 0 rfl) (lv_at hl 4 rfl) dL_law_554 dL_law_555 dL_law_557 dL_law_558 dL_law_559 ?_
  refine lv_aload_n hx hb dL_law_560 rfl (lv_at hl 3 rfl) ?_
  have hPh := fr_P1 hP
  have hDh := fr_D1 hD
  have hFh := w_free hDh hS hA
  refine va_calli (vx_runSW (As := [.ref q, .int (xs (i + 1)), .ref o]) (rest := []) ⟨hx, hb, hml, hown, hts⟩ (c_L_days l hlt D cy H.size sa q o w Y hYW hY f (xs (i + 1))) (vx_cwSW 3 hts gL_law_L_days rfl rfl rfl (by decide +kernel) ⟨Nat.le_of_ble_eq_true rfl, Nat.le_of_ble_eq_true rfl⟩) ⟨wL_blind, wL_pre hPh hK hDh hN hXE hZ hS hA hC⟩ rfl rfl hl.1 rfl (lv_room (Nat.le_of_ble_eq_true rfl)) dL_law_561 ⟨(by show _ ≤ 601024; omega), (by show _ ≤ 7293034; omega)⟩) hS (fun q _ h => hFh q h) hFh (fun r u t9 H locs ht hvm hw hB hz1 hk1 hS => ?_)
  obtain ⟨hP1, hK1, hD1⟩ := hB
  rw [ht] at hP1
  obtain ⟨hP, hD⟩ := fr_J hP hD hk1 hFh hP1 hD1
  refine W.widen (k := cells + 10) (n := slots + 300) (by omega) (by omega) ?_
  refine lv_istore (lv' := [(5, .int r), (0, .ref b), (1, .ref q), (2, .ref h), (3, .ref o), (4, .int (nI i))]) hx hb dL_law_564 hl (by decide) rfl (fun ls hl => ?_)
  refine lv_aload_n hx hb dL_law_566 rfl (lv_at hl 3 rfl) ?_
  refine g_sc5 hx hb hX hbl hbA hS 1 (by decide) hi hLb (lv_at hl 1 rfl) (lv_at hl 5 rfl) dL_law_567 dL_law_568 dL_law_570 dL_law_571 dL_law_572 ?_
  have hPm := fr_P2 hP
  have hDm := fr_D2 hD
  have hFm := w_free hDm hS hA
  refine va_calli (va_runV (As := [.int (xs (i + 1))]) (rest := []) ⟨hx, hb, hml, hown, hts⟩ (c_X5_days l D cy H.size h adM I F Y hM hY (xs (i + 1))) (cwV 1 hts gL_law_X5_days rfl rfl rfl (by decide +kernel) ⟨Nat.le_of_ble_eq_true rfl, Nat.le_of_ble_eq_true rfl⟩) ⟨wB_blind, va_recv hK hPm (ci := 5) (q0 := 0) rfl rfl, wB_pre hPm hK hDm⟩ rfl rfl hl.1 rfl (lv_room (Nat.le_of_ble_eq_true rfl)) dL_law_573 ⟨(by show _ ≤ 601024; omega), (by show _ ≤ 7293034; omega)⟩) hS (fun q _ h => hFm q h) hFm (fun r2 u2 t9 H locs ht hvm hw2 hB hz1 hk1 hS => ?_)
  obtain ⟨hP2, hK2, hD2⟩ := hB
  rw [ht] at hP2
  obtain ⟨hP, hD⟩ := fr_J (fr_sP hP) (fr_sD hD) hk1 hFm hP2 hD2
  have hP := fr_sP hP
  have hD := fr_sD hD
  refine lv_istore (lv' := [(6, .int r2), (5, .int r), (0, .ref b), (1, .ref q), (2, .ref h), (3, .ref o), (4, .int (nI i))]) hx hb dL_law_576 hl (by decide) rfl (fun ls hl => ?_)
  refine lv_aload_n hx hb dL_law_578 rfl (lv_at hl 4 rfl) ?_
  refine vp_callSi (va_Run.run (va_runV (As := []) (rest := []) ⟨hx, hb, hml, hown, hts⟩ (c_X5_thrown l D cy h adM u2.1 u2.2) (cwV 0 hts gL_law_X5_thrown rfl rfl rfl (by decide +kernel) ⟨Nat.le_of_ble_eq_true rfl, Nat.le_of_ble_eq_true rfl⟩) ⟨rB_blind, va_recv hK (fr_P2 hP) (ci := 5) (q0 := 0) rfl rfl, (rB_pre (fr_P2 hP) hK)⟩ rfl rfl hl.1 rfl (lv_room (Nat.le_of_ble_eq_true rfl)) dL_law_579 ⟨(by show _ ≤ 601024; omega), (by show _ ≤ 7293034; omega)⟩)) (fun r3 hr3 => ?_)
  refine lv_iload hx hb dL_law_582 (lv_at hl 1 rfl) ?_
  have he : r3 = r := hr3.trans (hw2.1.trans hw.1.symm)
  refine lv_icmp_eq (tgt := 589) hx hb dL_law_584 (by decide) (fun _ => ?_) (fun c1 => absurd he c1)
  have hI2 : LI D cy s q h o adM H locs := ⟨(sp_days Y (xs (i + 1))).2.2, u.1, u.2, u2.1, u2.2, hw.2.2, WF_days hY _, hw2.2.2, hP, hD, hS⟩
  refine lv_iload hx hb dL_law_589 (lv_at hl 1 rfl) ?_
  refine lv_if_ne (tgt := 606) hx hb dL_law_591 (by decide) (fun _ => ?_) (fun c2 => ?_)
  · exact lv_goto (tgt := 1893) hx hb dL_law_606 (by decide) (kk _ _ _ hI2 (lv_sub hl [2, 3, 4, 5, 6] rfl))
  have h0 : (sp_days Y (xs (i + 1))).1 = 0 := c_zero hw.1 (sb_days) (by decide) c2
  refine lv_aload_n hx hb dL_law_594 rfl (lv_at hl 5 rfl) ?_
  refine lv_iconst (v := 0) hx hb dL_law_595 (by decide) ?_
  refine va_lald hx hb hK hP u.1.length 2 (fr_L (fr_get _ _)) rfl (i := 0) (by unfold vp_in; decide) dL_law_596 ?_
  refine lv_iload hx hb dL_law_597 (lv_at hl 0 rfl) ?_
  refine lv_i2l (v := r2.toInt64) hx hb dL_law_599 rfl ?_
  refine W.lcmp hx hb dL_law_600 ?_
  refine g_top (y := 0) (by rw [show u.2 (0 : Int32).toNatClampNeg = _ from hw.2.1 h0, hw2.2.1 h0]; exact lc_self _) ?_
  refine lv_if_eq (tgt := 606) hx hb dL_law_601 (by decide) (fun _ => ?_) (fun c3 => absurd rfl c3)
  exact lv_goto (tgt := 1893) hx hb dL_law_606 (by decide) (kk _ _ _ hI2 (lv_sub hl [2, 3, 4, 5, 6] rfl))
set_option maxHeartbeats 4000000 in
set_option maxRecDepth 100000 in
theorem law_bolt {p : Program} {l : Launch} {e : Env} {s : State} {m : MethodId} {below : List Frame} {meth : Method} {c : Code} {b L : Nat} {xs : Nat → Int32} {D : va_G} {cy : Nat → ClassId} {sa : Nat → Nat} (hlt : l.stackTraces = false) (C : LX p s m meth c b L xs D cy sa) (hLb : L ≤ 2560) {q h o : Nat} {adM : Nat → Nat} {cells slots i : Nat} {Q : State → Prop} {H : Heap} {locs : List Loc} {ls : Array Slot} (hc : cells + 10 ≤ 601024) (hs : slots + 300 ≤ 7293034) (hi : i + 5 ≤ L) (hI : LI D cy s q h o adM H locs) (hl : lv_has ls 8 [(0, .ref b), (1, .ref q), (2, .ref h), (3, .ref o), (4, .int (nI i))])
    (kk : ∀ (H : Heap) (locs : List Loc) (ls : Array Slot), LI D cy s q h o adM H locs → lv_has ls 8 [(0, .ref b), (1, .ref q), (2, .ref h), (3, .ref o), (4, .int (nI i))] → W p l e room_1 s m #[Value.ref b] below meth c H locs (cells + 10) (slots + 300) Q (F0 m 1893 ls [])) : W p l e room_1 s m #[Value.ref b] below meth c H locs cells slots Q (F0 m 609 ls []) := by
  obtain ⟨⟨hx, hb, hr, hml, hown, hts0, hX, hbl, hlocks, hgv⟩, hK, hN, hXE, hZ, hC⟩ := C
  have hown : s.vm.findClass RL = some m.cls := hown
  have hts : ∀ w ∈ wsL_law, w.before #[Value.ref b] s = true := fun w hw => hts0 w (wsL_law_in w hw)
  have hA : ∀ z : Nat, s.heap.size ≤ z → (fun z : Nat => s.heap.size ≤ z) z := fun _ h => h
  have hbA : ¬ (fun z : Nat => s.heap.size ≤ z) b := Nat.not_le.mpr hbl
  obtain ⟨Y, w, f, I, F, hYW, hY, hM, hP, hD, hS⟩ := hI
  obtain ⟨K, ad, E, rfl, rfl, hKR, hR⟩ := hYW
  have hE0 := hR.1.1
  obtain ⟨p1, hp1⟩ := kW_pos (hKR.m (show keyOk Y (0) by unfold keyOk; omega))
  rw [List.append_assoc] at hP hD
  refine lv_aload_n hx hb dL_law_609 rfl (lv_at hl 1 rfl) ?_
  refine g_sc5 hx hb hX hbl hbA hS 1 (by decide) hi hLb (lv_at hl 0 rfl) (lv_at hl 4 rfl) dL_law_610 dL_law_611 dL_law_613 dL_law_614 dL_law_615 ?_
  have hPh := fr_P1 hP
  have hDh := fr_D1 hD
  have hFh := w_free hDh hS hA
  refine va_calli (va_runV (As := [.int (xs (i + 1))]) (rest := []) ⟨hx, hb, hml, hown, hts⟩ (c_X4_bolt l D cy H.size K ad E Y hKR hR hY (xs (i + 1))) (cwV 1 hts gL_law_X4_bolt rfl rfl rfl (by decide +kernel) ⟨Nat.le_of_ble_eq_true rfl, Nat.le_of_ble_eq_true rfl⟩) ⟨wB2_blind, va_recv hK hPh (ci := 4) (q0 := p1) rfl (kW_get hp1 hE0), wB2_pre hPh hK hDh hN⟩ rfl rfl hl.1 rfl (lv_room (Nat.le_of_ble_eq_true rfl)) dL_law_616 ⟨(by show _ ≤ 601024; omega), (by show _ ≤ 7293034; omega)⟩) hS (fun q _ h => hFh q h) hFh (fun r u t9 H locs ht hvm hw hB hz1 hk1 hS => ?_)
  obtain ⟨hP1, hK1, hD1⟩ := hB
  rw [ht] at hP1
  obtain ⟨hP, hD⟩ := fr_J hP hD hk1 hFh hP1 hD1
  rw [← List.append_assoc] at hP hD
  refine W.widen (k := cells + 10) (n := slots + 300) (by omega) (by omega) ?_
  refine lv_aload_n hx hb dL_law_619 rfl (lv_at hl 2 rfl) ?_
  refine g_sc5 hx hb hX hbl hbA hS 1 (by decide) hi hLb (lv_at hl 0 rfl) (lv_at hl 4 rfl) dL_law_620 dL_law_621 dL_law_623 dL_law_624 dL_law_625 ?_
  have hPm := fr_P2 hP
  have hDm := fr_D2 hD
  have hFm := w_free hDm hS hA
  refine va_calli (va_runV (As := [.int (xs (i + 1))]) (rest := [.int r]) ⟨hx, hb, hml, hown, hts⟩ (c_X5_bolt l D cy H.size h adM I F Y hM hY (xs (i + 1))) (cwV 1 hts gL_law_X5_bolt rfl rfl rfl (by decide +kernel) ⟨Nat.le_of_ble_eq_true rfl, Nat.le_of_ble_eq_true rfl⟩) ⟨wB_blind, va_recv hK hPm (ci := 5) (q0 := 0) rfl rfl, wB_pre hPm hK hDm⟩ rfl rfl hl.1 rfl (lv_room (Nat.le_of_ble_eq_true rfl)) dL_law_626 ⟨(by show _ ≤ 601024; omega), (by show _ ≤ 7293034; omega)⟩) hS (fun q _ h => hFm q h) hFm (fun r2 u2 t9 H locs ht hvm hw2 hB hz1 hk1 hS => ?_)
  obtain ⟨hP2, hK2, hD2⟩ := hB
  rw [ht] at hP2
  obtain ⟨hP, hD⟩ := fr_J (fr_sP hP) (fr_sD hD) hk1 hFm hP2 hD2
  have hP := fr_sP hP
  have hD := fr_sD hD
  have hI2 : LI D cy s (ad 0) h o adM H locs := ⟨(sp_bolt Y (xs (i + 1))).2.2, kW u.1 u.2.1 u.2.2, f, u2.1, u2.2, ⟨u.1, u.2.1, u.2.2, rfl, hw.2.2.2.2, hw.2.2.1, hw.2.2.2.1⟩, WF_bolt hY _, hw2.2.2, hP, hD, hS⟩
  have he : r = r2 := hw.2.1.trans (hw2.2.1 hw.1).symm
  exact lv_icmp_eq (tgt := 1893) hx hb dL_law_629 (by decide) (fun _ => kk _ _ _ hI2 (lv_sub hl [0, 1, 2, 3, 4] rfl)) (fun c1 => absurd he c1)
set_option maxHeartbeats 4000000 in
set_option maxRecDepth 100000 in
theorem law_flaw {p : Program} {l : Launch} {e : Env} {s : State} {m : MethodId} {below : List Frame} {meth : Method} {c : Code} {b L : Nat} {xs : Nat → Int32} {D : va_G} {cy : Nat → ClassId} {sa : Nat → Nat} (hlt : l.stackTraces = false) (C : LX p s m meth c b L xs D cy sa) (hLb : L ≤ 2560) {q h o : Nat} {adM : Nat → Nat} {cells slots i : Nat} {Q : State → Prop} {H : Heap} {locs : List Loc} {ls : Array Slot} (hc : cells + 10 ≤ 601024) (hs : slots + 300 ≤ 7293034) (hi : i + 5 ≤ L) (hI : LI D cy s q h o adM H locs) (hl : lv_has ls 8 [(0, .ref b), (1, .ref q), (2, .ref h), (3, .ref o), (4, .int (nI i))])
    (kk : ∀ (H : Heap) (locs : List Loc) (ls : Array Slot), LI D cy s q h o adM H locs → lv_has ls 8 [(0, .ref b), (1, .ref q), (2, .ref h), (3, .ref o), (4, .int (nI i))] → W p l e room_1 s m #[Value.ref b] below meth c H locs (cells + 10) (slots + 300) Q (F0 m 1893 ls [])) : W p l e room_1 s m #[Value.ref b] below meth c H locs cells slots Q (F0 m 634 ls []) := by
  obtain ⟨⟨hx, hb, hr, hml, hown, hts0, hX, hbl, hlocks, hgv⟩, hK, hN, hXE, hZ, hC⟩ := C
  have hown : s.vm.findClass RL = some m.cls := hown
  have hts : ∀ w ∈ wsL_law, w.before #[Value.ref b] s = true := fun w hw => hts0 w (wsL_law_in w hw)
  have hA : ∀ z : Nat, s.heap.size ≤ z → (fun z : Nat => s.heap.size ≤ z) z := fun _ h => h
  have hbA : ¬ (fun z : Nat => s.heap.size ≤ z) b := Nat.not_le.mpr hbl
  obtain ⟨Y, w, f, I, F, hYW, hY, hM, hP, hD, hS⟩ := hI
  refine lv_aload_n hx hb dL_law_634 rfl (lv_at hl 1 rfl) ?_
  refine g_sc5 hx hb hX hbl hbA hS 1 (by decide) hi hLb (lv_at hl 0 rfl) (lv_at hl 4 rfl) dL_law_635 dL_law_636 dL_law_638 dL_law_639 dL_law_640 ?_
  refine g_sc5 hx hb hX hbl hbA hS 2 (by decide) hi hLb (lv_at hl 0 rfl) (lv_at hl 4 rfl) dL_law_641 dL_law_642 dL_law_644 dL_law_645 dL_law_646 ?_
  refine g_sc5 hx hb hX hbl hbA hS 3 (by decide) hi hLb (lv_at hl 0 rfl) (lv_at hl 4 rfl) dL_law_647 dL_law_648 dL_law_650 dL_law_651 dL_law_652 ?_
  refine lv_aload_n hx hb dL_law_653 rfl (lv_at hl 3 rfl) ?_
  have hPh := fr_P1 hP
  have hDh := fr_D1 hD
  have hFh := w_free hDh hS hA
  refine va_calli (vx_runSW (As := [.ref q, .int (xs (i + 1)), .int (xs (i + 2)), .int (xs (i + 3)), .ref o]) (rest := []) ⟨hx, hb, hml, hown, hts⟩ (c_L_flaw l hlt D cy H.size sa q o w Y hYW hY f (xs (i + 1)) (xs (i + 2)) (xs (i + 3))) (vx_cwSW 5 hts gL_law_L_flaw rfl rfl rfl (by decide +kernel) ⟨Nat.le_of_ble_eq_true rfl, Nat.le_of_ble_eq_true rfl⟩) ⟨wL_blind, wL_pre hPh hK hDh hN hXE hZ hS hA hC⟩ rfl rfl hl.1 rfl (lv_room (Nat.le_of_ble_eq_true rfl)) dL_law_654 ⟨(by show _ ≤ 601024; omega), (by show _ ≤ 7293034; omega)⟩) hS (fun q _ h => hFh q h) hFh (fun r u t9 H locs ht hvm hw hB hz1 hk1 hS => ?_)
  obtain ⟨hP1, hK1, hD1⟩ := hB
  rw [ht] at hP1
  obtain ⟨hP, hD⟩ := fr_J hP hD hk1 hFh hP1 hD1
  refine W.widen (k := cells + 10) (n := slots + 300) (by omega) (by omega) ?_
  refine lv_istore (lv' := [(5, .int r), (0, .ref b), (1, .ref q), (2, .ref h), (3, .ref o), (4, .int (nI i))]) hx hb dL_law_657 hl (by decide) rfl (fun ls hl => ?_)
  refine lv_aload_n hx hb dL_law_659 rfl (lv_at hl 3 rfl) ?_
  refine g_sc5 hx hb hX hbl hbA hS 1 (by decide) hi hLb (lv_at hl 1 rfl) (lv_at hl 5 rfl) dL_law_660 dL_law_661 dL_law_663 dL_law_664 dL_law_665 ?_
  refine g_sc5 hx hb hX hbl hbA hS 2 (by decide) hi hLb (lv_at hl 1 rfl) (lv_at hl 5 rfl) dL_law_666 dL_law_667 dL_law_669 dL_law_670 dL_law_671 ?_
  refine g_sc5 hx hb hX hbl hbA hS 3 (by decide) hi hLb (lv_at hl 1 rfl) (lv_at hl 5 rfl) dL_law_672 dL_law_673 dL_law_675 dL_law_676 dL_law_677 ?_
  have hPm := fr_P2 hP
  have hDm := fr_D2 hD
  have hFm := w_free hDm hS hA
  refine va_calli (va_runV (As := [.int (xs (i + 1)), .int (xs (i + 2)), .int (xs (i + 3))]) (rest := []) ⟨hx, hb, hml, hown, hts⟩ (c_X5_flaw l D cy H.size h adM I F Y hM hY (xs (i + 1)) (xs (i + 2)) (xs (i + 3))) (cwV 3 hts gL_law_X5_flaw rfl rfl rfl (by decide +kernel) ⟨Nat.le_of_ble_eq_true rfl, Nat.le_of_ble_eq_true rfl⟩) ⟨wB_blind, va_recv hK hPm (ci := 5) (q0 := 0) rfl rfl, wB_pre hPm hK hDm⟩ rfl rfl hl.1 rfl (lv_room (Nat.le_of_ble_eq_true rfl)) dL_law_678 ⟨(by show _ ≤ 601024; omega), (by show _ ≤ 7293034; omega)⟩) hS (fun q _ h => hFm q h) hFm (fun r2 u2 t9 H locs ht hvm hw2 hB hz1 hk1 hS => ?_)
  obtain ⟨hP2, hK2, hD2⟩ := hB
  rw [ht] at hP2
  obtain ⟨hP, hD⟩ := fr_J (fr_sP hP) (fr_sD hD) hk1 hFm hP2 hD2
  have hP := fr_sP hP
  have hD := fr_sD hD
  refine lv_istore (lv' := [(6, .int r2), (5, .int r), (0, .ref b), (1, .ref q), (2, .ref h), (3, .ref o), (4, .int (nI i))]) hx hb dL_law_681 hl (by decide) rfl (fun ls hl => ?_)
  refine lv_aload_n hx hb dL_law_683 rfl (lv_at hl 4 rfl) ?_
  refine vp_callSi (va_Run.run (va_runV (As := []) (rest := []) ⟨hx, hb, hml, hown, hts⟩ (c_X5_thrown l D cy h adM u2.1 u2.2) (cwV 0 hts gL_law_X5_thrown rfl rfl rfl (by decide +kernel) ⟨Nat.le_of_ble_eq_true rfl, Nat.le_of_ble_eq_true rfl⟩) ⟨rB_blind, va_recv hK (fr_P2 hP) (ci := 5) (q0 := 0) rfl rfl, (rB_pre (fr_P2 hP) hK)⟩ rfl rfl hl.1 rfl (lv_room (Nat.le_of_ble_eq_true rfl)) dL_law_684 ⟨(by show _ ≤ 601024; omega), (by show _ ≤ 7293034; omega)⟩)) (fun r3 hr3 => ?_)
  refine lv_iload hx hb dL_law_687 (lv_at hl 1 rfl) ?_
  have he : r3 = r := hr3.trans (hw2.1.trans hw.1.symm)
  refine lv_icmp_eq (tgt := 694) hx hb dL_law_689 (by decide) (fun _ => ?_) (fun c1 => absurd he c1)
  have hI2 : LI D cy s q h o adM H locs := ⟨(sp_flaw Y (xs (i + 1)) (xs (i + 2)) (xs (i + 3))).2.2, u.1, u.2, u2.1, u2.2, hw.2.2, WF_flaw hY _ _ _, hw2.2.2, hP, hD, hS⟩
  refine lv_iload hx hb dL_law_694 (lv_at hl 1 rfl) ?_
  refine lv_if_ne (tgt := 711) hx hb dL_law_696 (by decide) (fun _ => ?_) (fun c2 => ?_)
  · exact lv_goto (tgt := 1893) hx hb dL_law_711 (by decide) (kk _ _ _ hI2 (lv_sub hl [2, 3, 4, 5, 6] rfl))
  have h0 : (sp_flaw Y (xs (i + 1)) (xs (i + 2)) (xs (i + 3))).1 = 0 := c_zero hw.1 (sb_flaw) (by decide) c2
  refine lv_aload_n hx hb dL_law_699 rfl (lv_at hl 5 rfl) ?_
  refine lv_iconst (v := 0) hx hb dL_law_700 (by decide) ?_
  refine va_lald hx hb hK hP u.1.length 2 (fr_L (fr_get _ _)) rfl (i := 0) (by unfold vp_in; decide) dL_law_701 ?_
  refine lv_iload hx hb dL_law_702 (lv_at hl 0 rfl) ?_
  refine lv_i2l (v := r2.toInt64) hx hb dL_law_704 rfl ?_
  refine W.lcmp hx hb dL_law_705 ?_
  refine g_top (y := 0) (by rw [show u.2 (0 : Int32).toNatClampNeg = _ from hw.2.1 h0, hw2.2.1 h0]; exact lc_self _) ?_
  refine lv_if_eq (tgt := 711) hx hb dL_law_706 (by decide) (fun _ => ?_) (fun c3 => absurd rfl c3)
  exact lv_goto (tgt := 1893) hx hb dL_law_711 (by decide) (kk _ _ _ hI2 (lv_sub hl [2, 3, 4, 5, 6] rfl))
set_option maxHeartbeats 4000000 in
set_option maxRecDepth 100000 in
theorem law_clear {p : Program} {l : Launch} {e : Env} {s : State} {m : MethodId} {below : List Frame} {meth : Method} {c : Code} {b L : Nat} {xs : Nat → Int32} {D : va_G} {cy : Nat → ClassId} {sa : Nat → Nat} (hlt : l.stackTraces = false) (C : LX p s m meth c b L xs D cy sa) (hLb : L ≤ 2560) {q h o : Nat} {adM : Nat → Nat} {cells slots i : Nat} {Q : State → Prop} {H : Heap} {locs : List Loc} {ls : Array Slot} (hc : cells + 10 ≤ 601024) (hs : slots + 300 ≤ 7293034) (hi : i + 5 ≤ L) (hI : LI D cy s q h o adM H locs) (hl : lv_has ls 8 [(0, .ref b), (1, .ref q), (2, .ref h), (3, .ref o), (4, .int (nI i))])
    (kk : ∀ (H : Heap) (locs : List Loc) (ls : Array Slot), LI D cy s q h o adM H locs → lv_has ls 8 [(0, .ref b), (1, .ref q), (2, .ref h), (3, .ref o), (4, .int (nI i))] → W p l e room_1 s m #[Value.ref b] below meth c H locs (cells + 10) (slots + 300) Q (F0 m 1893 ls [])) : W p l e room_1 s m #[Value.ref b] below meth c H locs cells slots Q (F0 m 714 ls []) := by
  obtain ⟨⟨hx, hb, hr, hml, hown, hts0, hX, hbl, hlocks, hgv⟩, hK, hN, hXE, hZ, hC⟩ := C
  have hown : s.vm.findClass RL = some m.cls := hown
  have hts : ∀ w ∈ wsL_law, w.before #[Value.ref b] s = true := fun w hw => hts0 w (wsL_law_in w hw)
  have hA : ∀ z : Nat, s.heap.size ≤ z → (fun z : Nat => s.heap.size ≤ z) z := fun _ h => h
  have hbA : ¬ (fun z : Nat => s.heap.size ≤ z) b := Nat.not_le.mpr hbl
  obtain ⟨Y, w, f, I, F, hYW, hY, hM, hP, hD, hS⟩ := hI
  refine lv_aload_n hx hb dL_law_714 rfl (lv_at hl 1 rfl) ?_
  refine g_sc5 hx hb hX hbl hbA hS 1 (by decide) hi hLb (lv_at hl 0 rfl) (lv_at hl 4 rfl) dL_law_715 dL_law_716 dL_law_718 dL_law_719 dL_law_720 ?_
  refine g_sc5 hx hb hX hbl hbA hS 2 (by decide) hi hLb (lv_at hl 0 rfl) (lv_at hl 4 rfl) dL_law_721 dL_law_722 dL_law_724 dL_law_725 dL_law_726 ?_
  refine g_sc5 hx hb hX hbl hbA hS 3 (by decide) hi hLb (lv_at hl 0 rfl) (lv_at hl 4 rfl) dL_law_727 dL_law_728 dL_law_730 dL_law_731 dL_law_732 ?_
  refine lv_aload_n hx hb dL_law_733 rfl (lv_at hl 3 rfl) ?_
  have hPh := fr_P1 hP
  have hDh := fr_D1 hD
  have hFh := w_free hDh hS hA
  refine va_calli (vx_runSW (As := [.ref q, .int (xs (i + 1)), .int (xs (i + 2)), .int (xs (i + 3)), .ref o]) (rest := []) ⟨hx, hb, hml, hown, hts⟩ (c_L_clear l hlt D cy H.size sa q o w Y hYW hY f (xs (i + 1)) (xs (i + 2)) (xs (i + 3))) (vx_cwSW 5 hts gL_law_L_clear rfl rfl rfl (by decide +kernel) ⟨Nat.le_of_ble_eq_true rfl, Nat.le_of_ble_eq_true rfl⟩) ⟨wL_blind, wL_pre hPh hK hDh hN hXE hZ hS hA hC⟩ rfl rfl hl.1 rfl (lv_room (Nat.le_of_ble_eq_true rfl)) dL_law_734 ⟨(by show _ ≤ 601024; omega), (by show _ ≤ 7293034; omega)⟩) hS (fun q _ h => hFh q h) hFh (fun r u t9 H locs ht hvm hw hB hz1 hk1 hS => ?_)
  obtain ⟨hP1, hK1, hD1⟩ := hB
  rw [ht] at hP1
  obtain ⟨hP, hD⟩ := fr_J hP hD hk1 hFh hP1 hD1
  refine W.widen (k := cells + 10) (n := slots + 300) (by omega) (by omega) ?_
  refine lv_istore (lv' := [(5, .int r), (0, .ref b), (1, .ref q), (2, .ref h), (3, .ref o), (4, .int (nI i))]) hx hb dL_law_737 hl (by decide) rfl (fun ls hl => ?_)
  refine lv_aload_n hx hb dL_law_739 rfl (lv_at hl 3 rfl) ?_
  refine g_sc5 hx hb hX hbl hbA hS 1 (by decide) hi hLb (lv_at hl 1 rfl) (lv_at hl 5 rfl) dL_law_740 dL_law_741 dL_law_743 dL_law_744 dL_law_745 ?_
  refine g_sc5 hx hb hX hbl hbA hS 2 (by decide) hi hLb (lv_at hl 1 rfl) (lv_at hl 5 rfl) dL_law_746 dL_law_747 dL_law_749 dL_law_750 dL_law_751 ?_
  refine g_sc5 hx hb hX hbl hbA hS 3 (by decide) hi hLb (lv_at hl 1 rfl) (lv_at hl 5 rfl) dL_law_752 dL_law_753 dL_law_755 dL_law_756 dL_law_757 ?_
  have hPm := fr_P2 hP
  have hDm := fr_D2 hD
  have hFm := w_free hDm hS hA
  refine va_calli (va_runV (As := [.int (xs (i + 1)), .int (xs (i + 2)), .int (xs (i + 3))]) (rest := []) ⟨hx, hb, hml, hown, hts⟩ (c_X5_clear l D cy H.size h adM I F Y hM hY (xs (i + 1)) (xs (i + 2)) (xs (i + 3))) (cwV 3 hts gL_law_X5_clear rfl rfl rfl (by decide +kernel) ⟨Nat.le_of_ble_eq_true rfl, Nat.le_of_ble_eq_true rfl⟩) ⟨wB_blind, va_recv hK hPm (ci := 5) (q0 := 0) rfl rfl, wB_pre hPm hK hDm⟩ rfl rfl hl.1 rfl (lv_room (Nat.le_of_ble_eq_true rfl)) dL_law_758 ⟨(by show _ ≤ 601024; omega), (by show _ ≤ 7293034; omega)⟩) hS (fun q _ h => hFm q h) hFm (fun r2 u2 t9 H locs ht hvm hw2 hB hz1 hk1 hS => ?_)
  obtain ⟨hP2, hK2, hD2⟩ := hB
  rw [ht] at hP2
  obtain ⟨hP, hD⟩ := fr_J (fr_sP hP) (fr_sD hD) hk1 hFm hP2 hD2
  have hP := fr_sP hP
  have hD := fr_sD hD
  refine lv_istore (lv' := [(6, .int r2), (5, .int r), (0, .ref b), (1, .ref q), (2, .ref h), (3, .ref o), (4, .int (nI i))]) hx hb dL_law_761 hl (by decide) rfl (fun ls hl => ?_)
  refine lv_aload_n hx hb dL_law_763 rfl (lv_at hl 4 rfl) ?_
  refine vp_callSi (va_Run.run (va_runV (As := []) (rest := []) ⟨hx, hb, hml, hown, hts⟩ (c_X5_thrown l D cy h adM u2.1 u2.2) (cwV 0 hts gL_law_X5_thrown rfl rfl rfl (by decide +kernel) ⟨Nat.le_of_ble_eq_true rfl, Nat.le_of_ble_eq_true rfl⟩) ⟨rB_blind, va_recv hK (fr_P2 hP) (ci := 5) (q0 := 0) rfl rfl, (rB_pre (fr_P2 hP) hK)⟩ rfl rfl hl.1 rfl (lv_room (Nat.le_of_ble_eq_true rfl)) dL_law_764 ⟨(by show _ ≤ 601024; omega), (by show _ ≤ 7293034; omega)⟩)) (fun r3 hr3 => ?_)
  refine lv_iload hx hb dL_law_767 (lv_at hl 1 rfl) ?_
  have he : r3 = r := hr3.trans (hw2.1.trans hw.1.symm)
  refine lv_icmp_eq (tgt := 774) hx hb dL_law_769 (by decide) (fun _ => ?_) (fun c1 => absurd he c1)
  have hI2 : LI D cy s q h o adM H locs := ⟨(sp_clear Y (xs (i + 1)) (xs (i + 2)) (xs (i + 3))).2.2, u.1, u.2, u2.1, u2.2, hw.2.2, WF_clear hY _ _ _, hw2.2.2, hP, hD, hS⟩
  refine lv_iload hx hb dL_law_774 (lv_at hl 1 rfl) ?_
  refine lv_if_ne (tgt := 791) hx hb dL_law_776 (by decide) (fun _ => ?_) (fun c2 => ?_)
  · exact lv_goto (tgt := 1893) hx hb dL_law_791 (by decide) (kk _ _ _ hI2 (lv_sub hl [2, 3, 4, 5, 6] rfl))
  have h0 : (sp_clear Y (xs (i + 1)) (xs (i + 2)) (xs (i + 3))).1 = 0 := c_zero hw.1 (sb_clear) (by decide) c2
  refine lv_aload_n hx hb dL_law_779 rfl (lv_at hl 5 rfl) ?_
  refine lv_iconst (v := 0) hx hb dL_law_780 (by decide) ?_
  refine va_lald hx hb hK hP u.1.length 2 (fr_L (fr_get _ _)) rfl (i := 0) (by unfold vp_in; decide) dL_law_781 ?_
  refine lv_iload hx hb dL_law_782 (lv_at hl 0 rfl) ?_
  refine lv_i2l (v := r2.toInt64) hx hb dL_law_784 rfl ?_
  refine W.lcmp hx hb dL_law_785 ?_
  refine g_top (y := 0) (by rw [show u.2 (0 : Int32).toNatClampNeg = _ from hw.2.1 h0, hw2.2.1 h0]; exact lc_self _) ?_
  refine lv_if_eq (tgt := 791) hx hb dL_law_786 (by decide) (fun _ => ?_) (fun c3 => absurd rfl c3)
  exact lv_goto (tgt := 1893) hx hb dL_law_791 (by decide) (kk _ _ _ hI2 (lv_sub hl [2, 3, 4, 5, 6] rfl))
set_option maxHeartbeats 4000000 in
set_option maxRecDepth 100000 in
theorem law_ripe {p : Program} {l : Launch} {e : Env} {s : State} {m : MethodId} {below : List Frame} {meth : Method} {c : Code} {b L : Nat} {xs : Nat → Int32} {D : va_G} {cy : Nat → ClassId} {sa : Nat → Nat} (hlt : l.stackTraces = false) (C : LX p s m meth c b L xs D cy sa) (hLb : L ≤ 2560) {q h o : Nat} {adM : Nat → Nat} {cells slots i : Nat} {Q : State → Prop} {H : Heap} {locs : List Loc} {ls : Array Slot} (hc : cells + 10 ≤ 601024) (hs : slots + 300 ≤ 7293034) (hi : i + 5 ≤ L) (hI : LI D cy s q h o adM H locs) (hl : lv_has ls 8 [(0, .ref b), (1, .ref q), (2, .ref h), (3, .ref o), (4, .int (nI i))])
    (kk : ∀ (H : Heap) (locs : List Loc) (ls : Array Slot), LI D cy s q h o adM H locs → lv_has ls 8 [(0, .ref b), (1, .ref q), (2, .ref h), (3, .ref o), (4, .int (nI i))] → W p l e room_1 s m #[Value.ref b] below meth c H locs (cells + 10) (slots + 300) Q (F0 m 1893 ls [])) : W p l e room_1 s m #[Value.ref b] below meth c H locs cells slots Q (F0 m 794 ls []) := by
  obtain ⟨⟨hx, hb, hr, hml, hown, hts0, hX, hbl, hlocks, hgv⟩, hK, hN, hXE, hZ, hC⟩ := C
  have hown : s.vm.findClass RL = some m.cls := hown
  have hts : ∀ w ∈ wsL_law, w.before #[Value.ref b] s = true := fun w hw => hts0 w (wsL_law_in w hw)
  have hA : ∀ z : Nat, s.heap.size ≤ z → (fun z : Nat => s.heap.size ≤ z) z := fun _ h => h
  have hbA : ¬ (fun z : Nat => s.heap.size ≤ z) b := Nat.not_le.mpr hbl
  obtain ⟨Y, w, f, I, F, hYW, hY, hM, hP, hD, hS⟩ := hI
  refine lv_aload_n hx hb dL_law_794 rfl (lv_at hl 1 rfl) ?_
  refine g_sc5 hx hb hX hbl hbA hS 1 (by decide) hi hLb (lv_at hl 0 rfl) (lv_at hl 4 rfl) dL_law_795 dL_law_796 dL_law_798 dL_law_799 dL_law_800 ?_
  refine lv_aload_n hx hb dL_law_801 rfl (lv_at hl 3 rfl) ?_
  have hPh := fr_P1 hP
  have hDh := fr_D1 hD
  have hFh := w_free hDh hS hA
  refine va_calli (vx_runSW (As := [.ref q, .int (xs (i + 1)), .ref o]) (rest := []) ⟨hx, hb, hml, hown, hts⟩ (c_L_ripe l hlt D cy H.size sa q o w Y hYW hY f (xs (i + 1))) (vx_cwSW 3 hts gL_law_L_ripe rfl rfl rfl (by decide +kernel) ⟨Nat.le_of_ble_eq_true rfl, Nat.le_of_ble_eq_true rfl⟩) ⟨wL_blind, wL_pre hPh hK hDh hN hXE hZ hS hA hC⟩ rfl rfl hl.1 rfl (lv_room (Nat.le_of_ble_eq_true rfl)) dL_law_802 ⟨(by show _ ≤ 601024; omega), (by show _ ≤ 7293034; omega)⟩) hS (fun q _ h => hFh q h) hFh (fun r u t9 H locs ht hvm hw hB hz1 hk1 hS => ?_)
  obtain ⟨hP1, hK1, hD1⟩ := hB
  rw [ht] at hP1
  obtain ⟨hP, hD⟩ := fr_J hP hD hk1 hFh hP1 hD1
  refine W.widen (k := cells + 10) (n := slots + 300) (by omega) (by omega) ?_
  refine lv_istore (lv' := [(5, .int r), (0, .ref b), (1, .ref q), (2, .ref h), (3, .ref o), (4, .int (nI i))]) hx hb dL_law_805 hl (by decide) rfl (fun ls hl => ?_)
  refine lv_aload_n hx hb dL_law_807 rfl (lv_at hl 3 rfl) ?_
  refine g_sc5 hx hb hX hbl hbA hS 1 (by decide) hi hLb (lv_at hl 1 rfl) (lv_at hl 5 rfl) dL_law_808 dL_law_809 dL_law_811 dL_law_812 dL_law_813 ?_
  have hPm := fr_P2 hP
  have hDm := fr_D2 hD
  have hFm := w_free hDm hS hA
  refine va_calli (va_runV (As := [.int (xs (i + 1))]) (rest := []) ⟨hx, hb, hml, hown, hts⟩ (c_X5_ripe l D cy H.size h adM I F Y hM hY (xs (i + 1))) (cwV 1 hts gL_law_X5_ripe rfl rfl rfl (by decide +kernel) ⟨Nat.le_of_ble_eq_true rfl, Nat.le_of_ble_eq_true rfl⟩) ⟨wB_blind, va_recv hK hPm (ci := 5) (q0 := 0) rfl rfl, wB_pre hPm hK hDm⟩ rfl rfl hl.1 rfl (lv_room (Nat.le_of_ble_eq_true rfl)) dL_law_814 ⟨(by show _ ≤ 601024; omega), (by show _ ≤ 7293034; omega)⟩) hS (fun q _ h => hFm q h) hFm (fun r2 u2 t9 H locs ht hvm hw2 hB hz1 hk1 hS => ?_)
  obtain ⟨hP2, hK2, hD2⟩ := hB
  rw [ht] at hP2
  obtain ⟨hP, hD⟩ := fr_J (fr_sP hP) (fr_sD hD) hk1 hFm hP2 hD2
  have hP := fr_sP hP
  have hD := fr_sD hD
  refine lv_istore (lv' := [(6, .int r2), (5, .int r), (0, .ref b), (1, .ref q), (2, .ref h), (3, .ref o), (4, .int (nI i))]) hx hb dL_law_817 hl (by decide) rfl (fun ls hl => ?_)
  refine lv_aload_n hx hb dL_law_819 rfl (lv_at hl 4 rfl) ?_
  refine vp_callSi (va_Run.run (va_runV (As := []) (rest := []) ⟨hx, hb, hml, hown, hts⟩ (c_X5_thrown l D cy h adM u2.1 u2.2) (cwV 0 hts gL_law_X5_thrown rfl rfl rfl (by decide +kernel) ⟨Nat.le_of_ble_eq_true rfl, Nat.le_of_ble_eq_true rfl⟩) ⟨rB_blind, va_recv hK (fr_P2 hP) (ci := 5) (q0 := 0) rfl rfl, (rB_pre (fr_P2 hP) hK)⟩ rfl rfl hl.1 rfl (lv_room (Nat.le_of_ble_eq_true rfl)) dL_law_820 ⟨(by show _ ≤ 601024; omega), (by show _ ≤ 7293034; omega)⟩)) (fun r3 hr3 => ?_)
  refine lv_iload hx hb dL_law_823 (lv_at hl 1 rfl) ?_
  have he : r3 = r := hr3.trans (hw2.1.trans hw.1.symm)
  refine lv_icmp_eq (tgt := 830) hx hb dL_law_825 (by decide) (fun _ => ?_) (fun c1 => absurd he c1)
  have hI2 : LI D cy s q h o adM H locs := ⟨(sp_ripe Y (xs (i + 1))).2.2, u.1, u.2, u2.1, u2.2, hw.2.2, WF_ripe hY _, hw2.2.2, hP, hD, hS⟩
  refine lv_iload hx hb dL_law_830 (lv_at hl 1 rfl) ?_
  refine lv_if_ne (tgt := 854) hx hb dL_law_832 (by decide) (fun _ => ?_) (fun c2 => ?_)
  · exact lv_goto (tgt := 1893) hx hb dL_law_854 (by decide) (kk _ _ _ hI2 (lv_sub hl [2, 3, 4, 5, 6] rfl))
  have h0 : (sp_ripe Y (xs (i + 1))).1 = 0 := c_zero hw.1 (sb_ripe) (by decide) c2
  refine lv_aload_n hx hb dL_law_835 rfl (lv_at hl 5 rfl) ?_
  refine lv_iconst (v := 0) hx hb dL_law_836 (by decide) ?_
  refine va_lald hx hb hK hP u.1.length 2 (fr_L (fr_get _ _)) rfl (i := 0) (by unfold vp_in; decide) dL_law_837 ?_
  refine lv_iload hx hb dL_law_838 (lv_at hl 0 rfl) ?_
  refine g_nzl hx hb dL_law_840 dL_law_843 dL_law_844 dL_law_847 ?_
  refine W.lcmp hx hb dL_law_848 ?_
  refine g_top (y := 0) (by rw [show u.2 (0 : Int32).toNatClampNeg = _ from hw.2.1 h0, hw2.2.1 h0]; exact lc_self _) ?_
  refine lv_if_eq (tgt := 854) hx hb dL_law_849 (by decide) (fun _ => ?_) (fun c3 => absurd rfl c3)
  exact lv_goto (tgt := 1893) hx hb dL_law_854 (by decide) (kk _ _ _ hI2 (lv_sub hl [2, 3, 4, 5, 6] rfl))
set_option maxHeartbeats 4000000 in
set_option maxRecDepth 100000 in
theorem law_fewest {p : Program} {l : Launch} {e : Env} {s : State} {m : MethodId} {below : List Frame} {meth : Method} {c : Code} {b L : Nat} {xs : Nat → Int32} {D : va_G} {cy : Nat → ClassId} {sa : Nat → Nat} (hlt : l.stackTraces = false) (C : LX p s m meth c b L xs D cy sa) (hLb : L ≤ 2560) {q h o : Nat} {adM : Nat → Nat} {cells slots i : Nat} {Q : State → Prop} {H : Heap} {locs : List Loc} {ls : Array Slot} (hc : cells + 10 ≤ 601024) (hs : slots + 300 ≤ 7293034) (hi : i + 5 ≤ L) (hI : LI D cy s q h o adM H locs) (hl : lv_has ls 8 [(0, .ref b), (1, .ref q), (2, .ref h), (3, .ref o), (4, .int (nI i))])
    (kk : ∀ (H : Heap) (locs : List Loc) (ls : Array Slot), LI D cy s q h o adM H locs → lv_has ls 8 [(0, .ref b), (1, .ref q), (2, .ref h), (3, .ref o), (4, .int (nI i))] → W p l e room_1 s m #[Value.ref b] below meth c H locs (cells + 10) (slots + 300) Q (F0 m 1893 ls [])) : W p l e room_1 s m #[Value.ref b] below meth c H locs cells slots Q (F0 m 857 ls []) := by
  obtain ⟨⟨hx, hb, hr, hml, hown, hts0, hX, hbl, hlocks, hgv⟩, hK, hN, hXE, hZ, hC⟩ := C
  have hown : s.vm.findClass RL = some m.cls := hown
  have hts : ∀ w ∈ wsL_law, w.before #[Value.ref b] s = true := fun w hw => hts0 w (wsL_law_in w hw)
  have hA : ∀ z : Nat, s.heap.size ≤ z → (fun z : Nat => s.heap.size ≤ z) z := fun _ h => h
  have hbA : ¬ (fun z : Nat => s.heap.size ≤ z) b := Nat.not_le.mpr hbl
  obtain ⟨Y, w, f, I, F, hYW, hY, hM, hP, hD, hS⟩ := hI
  refine lv_aload_n hx hb dL_law_857 rfl (lv_at hl 1 rfl) ?_
  refine g_sc5 hx hb hX hbl hbA hS 1 (by decide) hi hLb (lv_at hl 0 rfl) (lv_at hl 4 rfl) dL_law_858 dL_law_859 dL_law_861 dL_law_862 dL_law_863 ?_
  refine lv_aload_n hx hb dL_law_864 rfl (lv_at hl 3 rfl) ?_
  have hPh := fr_P1 hP
  have hDh := fr_D1 hD
  have hFh := w_free hDh hS hA
  refine va_calli (vx_runSW (As := [.ref q, .int (xs (i + 1)), .ref o]) (rest := []) ⟨hx, hb, hml, hown, hts⟩ (c_L_fewest l hlt D cy H.size sa q o w Y hYW hY f (xs (i + 1))) (vx_cwSW 3 hts gL_law_L_fewest rfl rfl rfl (by decide +kernel) ⟨Nat.le_of_ble_eq_true rfl, Nat.le_of_ble_eq_true rfl⟩) ⟨wL_blind, wL_pre hPh hK hDh hN hXE hZ hS hA hC⟩ rfl rfl hl.1 rfl (lv_room (Nat.le_of_ble_eq_true rfl)) dL_law_865 ⟨(by show _ ≤ 601024; omega), (by show _ ≤ 7293034; omega)⟩) hS (fun q _ h => hFh q h) hFh (fun r u t9 H locs ht hvm hw hB hz1 hk1 hS => ?_)
  obtain ⟨hP1, hK1, hD1⟩ := hB
  rw [ht] at hP1
  obtain ⟨hP, hD⟩ := fr_J hP hD hk1 hFh hP1 hD1
  refine W.widen (k := cells + 10) (n := slots + 300) (by omega) (by omega) ?_
  refine lv_istore (lv' := [(5, .int r), (0, .ref b), (1, .ref q), (2, .ref h), (3, .ref o), (4, .int (nI i))]) hx hb dL_law_868 hl (by decide) rfl (fun ls hl => ?_)
  refine lv_aload_n hx hb dL_law_870 rfl (lv_at hl 3 rfl) ?_
  refine g_sc5 hx hb hX hbl hbA hS 1 (by decide) hi hLb (lv_at hl 1 rfl) (lv_at hl 5 rfl) dL_law_871 dL_law_872 dL_law_874 dL_law_875 dL_law_876 ?_
  have hPm := fr_P2 hP
  have hDm := fr_D2 hD
  have hFm := w_free hDm hS hA
  refine va_calli (va_runV (As := [.int (xs (i + 1))]) (rest := []) ⟨hx, hb, hml, hown, hts⟩ (c_X5_fewest l D cy H.size h adM I F Y hM hY (xs (i + 1))) (cwV 1 hts gL_law_X5_fewest rfl rfl rfl (by decide +kernel) ⟨Nat.le_of_ble_eq_true rfl, Nat.le_of_ble_eq_true rfl⟩) ⟨wB_blind, va_recv hK hPm (ci := 5) (q0 := 0) rfl rfl, wB_pre hPm hK hDm⟩ rfl rfl hl.1 rfl (lv_room (Nat.le_of_ble_eq_true rfl)) dL_law_877 ⟨(by show _ ≤ 601024; omega), (by show _ ≤ 7293034; omega)⟩) hS (fun q _ h => hFm q h) hFm (fun r2 u2 t9 H locs ht hvm hw2 hB hz1 hk1 hS => ?_)
  obtain ⟨hP2, hK2, hD2⟩ := hB
  rw [ht] at hP2
  obtain ⟨hP, hD⟩ := fr_J (fr_sP hP) (fr_sD hD) hk1 hFm hP2 hD2
  have hP := fr_sP hP
  have hD := fr_sD hD
  refine lv_istore (lv' := [(6, .int r2), (5, .int r), (0, .ref b), (1, .ref q), (2, .ref h), (3, .ref o), (4, .int (nI i))]) hx hb dL_law_880 hl (by decide) rfl (fun ls hl => ?_)
  refine lv_aload_n hx hb dL_law_882 rfl (lv_at hl 4 rfl) ?_
  refine vp_callSi (va_Run.run (va_runV (As := []) (rest := []) ⟨hx, hb, hml, hown, hts⟩ (c_X5_thrown l D cy h adM u2.1 u2.2) (cwV 0 hts gL_law_X5_thrown rfl rfl rfl (by decide +kernel) ⟨Nat.le_of_ble_eq_true rfl, Nat.le_of_ble_eq_true rfl⟩) ⟨rB_blind, va_recv hK (fr_P2 hP) (ci := 5) (q0 := 0) rfl rfl, (rB_pre (fr_P2 hP) hK)⟩ rfl rfl hl.1 rfl (lv_room (Nat.le_of_ble_eq_true rfl)) dL_law_883 ⟨(by show _ ≤ 601024; omega), (by show _ ≤ 7293034; omega)⟩)) (fun r3 hr3 => ?_)
  refine lv_iload hx hb dL_law_886 (lv_at hl 1 rfl) ?_
  have he : r3 = r := hr3.trans (hw2.1.trans hw.1.symm)
  refine lv_icmp_eq (tgt := 893) hx hb dL_law_888 (by decide) (fun _ => ?_) (fun c1 => absurd he c1)
  have hI2 : LI D cy s q h o adM H locs := ⟨(sp_fewest Y (xs (i + 1))).2.2, u.1, u.2, u2.1, u2.2, hw.2.2, WF_fewest hY _, hw2.2.2, hP, hD, hS⟩
  refine lv_iload hx hb dL_law_893 (lv_at hl 1 rfl) ?_
  refine lv_if_ne (tgt := 910) hx hb dL_law_895 (by decide) (fun _ => ?_) (fun c2 => ?_)
  · exact lv_goto (tgt := 1893) hx hb dL_law_910 (by decide) (kk _ _ _ hI2 (lv_sub hl [2, 3, 4, 5, 6] rfl))
  have h0 : (sp_fewest Y (xs (i + 1))).1 = 0 := c_zero hw.1 (sb_fewest) (by decide) c2
  refine lv_aload_n hx hb dL_law_898 rfl (lv_at hl 5 rfl) ?_
  refine lv_iconst (v := 0) hx hb dL_law_899 (by decide) ?_
  refine va_lald hx hb hK hP u.1.length 2 (fr_L (fr_get _ _)) rfl (i := 0) (by unfold vp_in; decide) dL_law_900 ?_
  refine lv_iload hx hb dL_law_901 (lv_at hl 0 rfl) ?_
  refine lv_i2l (v := r2.toInt64) hx hb dL_law_903 rfl ?_
  refine W.lcmp hx hb dL_law_904 ?_
  refine g_top (y := 0) (by rw [show u.2 (0 : Int32).toNatClampNeg = _ from hw.2.1 h0, hw2.2.1 h0]; exact lc_self _) ?_
  refine lv_if_eq (tgt := 910) hx hb dL_law_905 (by decide) (fun _ => ?_) (fun c3 => absurd rfl c3)
  exact lv_goto (tgt := 1893) hx hb dL_law_910 (by decide) (kk _ _ _ hI2 (lv_sub hl [2, 3, 4, 5, 6] rfl))
set_option maxHeartbeats 4000000 in
set_option maxRecDepth 100000 in
theorem law_make {p : Program} {l : Launch} {e : Env} {s : State} {m : MethodId} {below : List Frame} {meth : Method} {c : Code} {b L : Nat} {xs : Nat → Int32} {D : va_G} {cy : Nat → ClassId} {sa : Nat → Nat} (hlt : l.stackTraces = false) (C : LX p s m meth c b L xs D cy sa) (hLb : L ≤ 2560) {q h o : Nat} {adM : Nat → Nat} {cells slots i : Nat} {Q : State → Prop} {H : Heap} {locs : List Loc} {ls : Array Slot} (hc : cells + 10 ≤ 601024) (hs : slots + 300 ≤ 7293034) (hi : i + 5 ≤ L) (hI : LI D cy s q h o adM H locs) (hl : lv_has ls 8 [(0, .ref b), (1, .ref q), (2, .ref h), (3, .ref o), (4, .int (nI i))])
    (kk : ∀ (H : Heap) (locs : List Loc) (ls : Array Slot), LI D cy s q h o adM H locs → lv_has ls 8 [(0, .ref b), (1, .ref q), (2, .ref h), (3, .ref o), (4, .int (nI i))] → W p l e room_1 s m #[Value.ref b] below meth c H locs (cells + 10) (slots + 300) Q (F0 m 1893 ls [])) : W p l e room_1 s m #[Value.ref b] below meth c H locs cells slots Q (F0 m 913 ls []) := by
  obtain ⟨⟨hx, hb, hr, hml, hown, hts0, hX, hbl, hlocks, hgv⟩, hK, hN, hXE, hZ, hC⟩ := C
  have hown : s.vm.findClass RL = some m.cls := hown
  have hts : ∀ w ∈ wsL_law, w.before #[Value.ref b] s = true := fun w hw => hts0 w (wsL_law_in w hw)
  have hA : ∀ z : Nat, s.heap.size ≤ z → (fun z : Nat => s.heap.size ≤ z) z := fun _ h => h
  have hbA : ¬ (fun z : Nat => s.heap.size ≤ z) b := Nat.not_le.mpr hbl
  obtain ⟨Y, w, f, I, F, hYW, hY, hM, hP, hD, hS⟩ := hI
  refine lv_aload_n hx hb dL_law_913 rfl (lv_at hl 1 rfl) ?_
  refine g_sc5 hx hb hX hbl hbA hS 1 (by decide) hi hLb (lv_at hl 0 rfl) (lv_at hl 4 rfl) dL_law_914 dL_law_915 dL_law_917 dL_law_918 dL_law_919 ?_
  refine lv_aload_n hx hb dL_law_920 rfl (lv_at hl 3 rfl) ?_
  have hPh := fr_P1 hP
  have hDh := fr_D1 hD
  have hFh := w_free hDh hS hA
  refine va_calli (vx_runSW (As := [.ref q, .int (xs (i + 1)), .ref o]) (rest := []) ⟨hx, hb, hml, hown, hts⟩ (c_L_make l hlt D cy H.size sa q o w Y hYW hY f (xs (i + 1))) (vx_cwSW 3 hts gL_law_L_make rfl rfl rfl (by decide +kernel) ⟨Nat.le_of_ble_eq_true rfl, Nat.le_of_ble_eq_true rfl⟩) ⟨wL_blind, wL_pre hPh hK hDh hN hXE hZ hS hA hC⟩ rfl rfl hl.1 rfl (lv_room (Nat.le_of_ble_eq_true rfl)) dL_law_921 ⟨(by show _ ≤ 601024; omega), (by show _ ≤ 7293034; omega)⟩) hS (fun q _ h => hFh q h) hFh (fun r u t9 H locs ht hvm hw hB hz1 hk1 hS => ?_)
  obtain ⟨hP1, hK1, hD1⟩ := hB
  rw [ht] at hP1
  obtain ⟨hP, hD⟩ := fr_J hP hD hk1 hFh hP1 hD1
  refine W.widen (k := cells + 10) (n := slots + 300) (by omega) (by omega) ?_
  refine lv_istore (lv' := [(5, .int r), (0, .ref b), (1, .ref q), (2, .ref h), (3, .ref o), (4, .int (nI i))]) hx hb dL_law_924 hl (by decide) rfl (fun ls hl => ?_)
  refine lv_aload_n hx hb dL_law_926 rfl (lv_at hl 3 rfl) ?_
  refine g_sc5 hx hb hX hbl hbA hS 1 (by decide) hi hLb (lv_at hl 1 rfl) (lv_at hl 5 rfl) dL_law_927 dL_law_928 dL_law_930 dL_law_931 dL_law_932 ?_
  have hPm := fr_P2 hP
  have hDm := fr_D2 hD
  have hFm := w_free hDm hS hA
  refine va_calli (va_runV (As := [.int (xs (i + 1))]) (rest := []) ⟨hx, hb, hml, hown, hts⟩ (c_X5_make l D cy H.size h adM I F Y hM hY (xs (i + 1))) (cwV 1 hts gL_law_X5_make rfl rfl rfl (by decide +kernel) ⟨Nat.le_of_ble_eq_true rfl, Nat.le_of_ble_eq_true rfl⟩) ⟨wB_blind, va_recv hK hPm (ci := 5) (q0 := 0) rfl rfl, wB_pre hPm hK hDm⟩ rfl rfl hl.1 rfl (lv_room (Nat.le_of_ble_eq_true rfl)) dL_law_933 ⟨(by show _ ≤ 601024; omega), (by show _ ≤ 7293034; omega)⟩) hS (fun q _ h => hFm q h) hFm (fun r2 u2 t9 H locs ht hvm hw2 hB hz1 hk1 hS => ?_)
  obtain ⟨hP2, hK2, hD2⟩ := hB
  rw [ht] at hP2
  obtain ⟨hP, hD⟩ := fr_J (fr_sP hP) (fr_sD hD) hk1 hFm hP2 hD2
  have hP := fr_sP hP
  have hD := fr_sD hD
  refine lv_istore (lv' := [(6, .int r2), (5, .int r), (0, .ref b), (1, .ref q), (2, .ref h), (3, .ref o), (4, .int (nI i))]) hx hb dL_law_936 hl (by decide) rfl (fun ls hl => ?_)
  refine lv_aload_n hx hb dL_law_938 rfl (lv_at hl 4 rfl) ?_
  refine vp_callSi (va_Run.run (va_runV (As := []) (rest := []) ⟨hx, hb, hml, hown, hts⟩ (c_X5_thrown l D cy h adM u2.1 u2.2) (cwV 0 hts gL_law_X5_thrown rfl rfl rfl (by decide +kernel) ⟨Nat.le_of_ble_eq_true rfl, Nat.le_of_ble_eq_true rfl⟩) ⟨rB_blind, va_recv hK (fr_P2 hP) (ci := 5) (q0 := 0) rfl rfl, (rB_pre (fr_P2 hP) hK)⟩ rfl rfl hl.1 rfl (lv_room (Nat.le_of_ble_eq_true rfl)) dL_law_939 ⟨(by show _ ≤ 601024; omega), (by show _ ≤ 7293034; omega)⟩)) (fun r3 hr3 => ?_)
  refine lv_iload hx hb dL_law_942 (lv_at hl 1 rfl) ?_
  have he : r3 = r := hr3.trans (hw2.1.trans hw.1.symm)
  refine lv_icmp_eq (tgt := 949) hx hb dL_law_944 (by decide) (fun _ => ?_) (fun c1 => absurd he c1)
  have hI2 : LI D cy s q h o adM H locs := ⟨(sp_make Y (xs (i + 1))).2.2, u.1, u.2, u2.1, u2.2, hw.2.2, WF_make hY _, hw2.2.2, hP, hD, hS⟩
  refine lv_iload hx hb dL_law_949 (lv_at hl 1 rfl) ?_
  refine lv_if_ne (tgt := 966) hx hb dL_law_951 (by decide) (fun _ => ?_) (fun c2 => ?_)
  · exact lv_goto (tgt := 1893) hx hb dL_law_966 (by decide) (kk _ _ _ hI2 (lv_sub hl [2, 3, 4, 5, 6] rfl))
  have h0 : (sp_make Y (xs (i + 1))).1 = 0 := c_zero hw.1 (sb_make) (by decide) c2
  refine lv_aload_n hx hb dL_law_954 rfl (lv_at hl 5 rfl) ?_
  refine lv_iconst (v := 0) hx hb dL_law_955 (by decide) ?_
  refine va_lald hx hb hK hP u.1.length 2 (fr_L (fr_get _ _)) rfl (i := 0) (by unfold vp_in; decide) dL_law_956 ?_
  refine lv_iload hx hb dL_law_957 (lv_at hl 0 rfl) ?_
  refine lv_i2l (v := r2.toInt64) hx hb dL_law_959 rfl ?_
  refine W.lcmp hx hb dL_law_960 ?_
  refine g_top (y := 0) (by rw [show u.2 (0 : Int32).toNatClampNeg = _ from hw.2.1 h0, hw2.2.1 h0]; exact lc_self _) ?_
  refine lv_if_eq (tgt := 966) hx hb dL_law_961 (by decide) (fun _ => ?_) (fun c3 => absurd rfl c3)
  exact lv_goto (tgt := 1893) hx hb dL_law_966 (by decide) (kk _ _ _ hI2 (lv_sub hl [2, 3, 4, 5, 6] rfl))
set_option maxHeartbeats 4000000 in
set_option maxRecDepth 100000 in
theorem law_stave {p : Program} {l : Launch} {e : Env} {s : State} {m : MethodId} {below : List Frame} {meth : Method} {c : Code} {b L : Nat} {xs : Nat → Int32} {D : va_G} {cy : Nat → ClassId} {sa : Nat → Nat} (hlt : l.stackTraces = false) (C : LX p s m meth c b L xs D cy sa) (hLb : L ≤ 2560) {q h o : Nat} {adM : Nat → Nat} {cells slots i : Nat} {Q : State → Prop} {H : Heap} {locs : List Loc} {ls : Array Slot} (hc : cells + 10 ≤ 601024) (hs : slots + 300 ≤ 7293034) (hi : i + 5 ≤ L) (hI : LI D cy s q h o adM H locs) (hl : lv_has ls 8 [(0, .ref b), (1, .ref q), (2, .ref h), (3, .ref o), (4, .int (nI i))])
    (kk : ∀ (H : Heap) (locs : List Loc) (ls : Array Slot), LI D cy s q h o adM H locs → lv_has ls 8 [(0, .ref b), (1, .ref q), (2, .ref h), (3, .ref o), (4, .int (nI i))] → W p l e room_1 s m #[Value.ref b] below meth c H locs (cells + 10) (slots + 300) Q (F0 m 1893 ls [])) : W p l e room_1 s m #[Value.ref b] below meth c H locs cells slots Q (F0 m 969 ls []) := by
  obtain ⟨⟨hx, hb, hr, hml, hown, hts0, hX, hbl, hlocks, hgv⟩, hK, hN, hXE, hZ, hC⟩ := C
  have hown : s.vm.findClass RL = some m.cls := hown
  have hts : ∀ w ∈ wsL_law, w.before #[Value.ref b] s = true := fun w hw => hts0 w (wsL_law_in w hw)
  have hA : ∀ z : Nat, s.heap.size ≤ z → (fun z : Nat => s.heap.size ≤ z) z := fun _ h => h
  have hbA : ¬ (fun z : Nat => s.heap.size ≤ z) b := Nat.not_le.mpr hbl
  obtain ⟨Y, w, f, I, F, hYW, hY, hM, hP, hD, hS⟩ := hI
  refine lv_aload_n hx hb dL_law_969 rfl (lv_at hl 1 rfl) ?_
  refine g_sc5 hx hb hX hbl hbA hS 1 (by decide) hi hLb (lv_at hl 0 rfl) (lv_at hl 4 rfl) dL_law_970 dL_law_971 dL_law_973 dL_law_974 dL_law_975 ?_
  refine g_sc5 hx hb hX hbl hbA hS 2 (by decide) hi hLb (lv_at hl 0 rfl) (lv_at hl 4 rfl) dL_law_976 dL_law_977 dL_law_979 dL_law_980 dL_law_981 ?_
  refine g_sc5 hx hb hX hbl hbA hS 3 (by decide) hi hLb (lv_at hl 0 rfl) (lv_at hl 4 rfl) dL_law_982 dL_law_983 dL_law_985 dL_law_986 dL_law_987 ?_
  refine lv_aload_n hx hb dL_law_988 rfl (lv_at hl 3 rfl) ?_
  have hPh := fr_P1 hP
  have hDh := fr_D1 hD
  have hFh := w_free hDh hS hA
  refine va_calli (vx_runSW (As := [.ref q, .int (xs (i + 1)), .int (xs (i + 2)), .int (xs (i + 3)), .ref o]) (rest := []) ⟨hx, hb, hml, hown, hts⟩ (c_L_stave l hlt D cy H.size sa q o w Y hYW hY f (xs (i + 1)) (xs (i + 2)) (xs (i + 3))) (vx_cwSW 5 hts gL_law_L_stave rfl rfl rfl (by decide +kernel) ⟨Nat.le_of_ble_eq_true rfl, Nat.le_of_ble_eq_true rfl⟩) ⟨wL_blind, wL_pre hPh hK hDh hN hXE hZ hS hA hC⟩ rfl rfl hl.1 rfl (lv_room (Nat.le_of_ble_eq_true rfl)) dL_law_989 ⟨(by show _ ≤ 601024; omega), (by show _ ≤ 7293034; omega)⟩) hS (fun q _ h => hFh q h) hFh (fun r u t9 H locs ht hvm hw hB hz1 hk1 hS => ?_)
  obtain ⟨hP1, hK1, hD1⟩ := hB
  rw [ht] at hP1
  obtain ⟨hP, hD⟩ := fr_J hP hD hk1 hFh hP1 hD1
  refine W.widen (k := cells + 10) (n := slots + 300) (by omega) (by omega) ?_
  refine lv_istore (lv' := [(5, .int r), (0, .ref b), (1, .ref q), (2, .ref h), (3, .ref o), (4, .int (nI i))]) hx hb dL_law_992 hl (by decide) rfl (fun ls hl => ?_)
  refine lv_aload_n hx hb dL_law_994 rfl (lv_at hl 3 rfl) ?_
  refine g_sc5 hx hb hX hbl hbA hS 1 (by decide) hi hLb (lv_at hl 1 rfl) (lv_at hl 5 rfl) dL_law_995 dL_law_996 dL_law_998 dL_law_999 dL_law_1000 ?_
  refine g_sc5 hx hb hX hbl hbA hS 2 (by decide) hi hLb (lv_at hl 1 rfl) (lv_at hl 5 rfl) dL_law_1001 dL_law_1002 dL_law_1004 dL_law_1005 dL_law_1006 ?_
  refine g_sc5 hx hb hX hbl hbA hS 3 (by decide) hi hLb (lv_at hl 1 rfl) (lv_at hl 5 rfl) dL_law_1007 dL_law_1008 dL_law_1010 dL_law_1011 dL_law_1012 ?_
  have hPm := fr_P2 hP
  have hDm := fr_D2 hD
  have hFm := w_free hDm hS hA
  refine va_calli (va_runV (As := [.int (xs (i + 1)), .int (xs (i + 2)), .int (xs (i + 3))]) (rest := []) ⟨hx, hb, hml, hown, hts⟩ (c_X5_stave l D cy H.size h adM I F Y hM hY (xs (i + 1)) (xs (i + 2)) (xs (i + 3))) (cwV 3 hts gL_law_X5_stave rfl rfl rfl (by decide +kernel) ⟨Nat.le_of_ble_eq_true rfl, Nat.le_of_ble_eq_true rfl⟩) ⟨wB_blind, va_recv hK hPm (ci := 5) (q0 := 0) rfl rfl, wB_pre hPm hK hDm⟩ rfl rfl hl.1 rfl (lv_room (Nat.le_of_ble_eq_true rfl)) dL_law_1013 ⟨(by show _ ≤ 601024; omega), (by show _ ≤ 7293034; omega)⟩) hS (fun q _ h => hFm q h) hFm (fun r2 u2 t9 H locs ht hvm hw2 hB hz1 hk1 hS => ?_)
  obtain ⟨hP2, hK2, hD2⟩ := hB
  rw [ht] at hP2
  obtain ⟨hP, hD⟩ := fr_J (fr_sP hP) (fr_sD hD) hk1 hFm hP2 hD2
  have hP := fr_sP hP
  have hD := fr_sD hD
  refine lv_istore (lv' := [(6, .int r2), (5, .int r), (0, .ref b), (1, .ref q), (2, .ref h), (3, .ref o), (4, .int (nI i))]) hx hb dL_law_1016 hl (by decide) rfl (fun ls hl => ?_)
  refine lv_aload_n hx hb dL_law_1018 rfl (lv_at hl 4 rfl) ?_
  refine vp_callSi (va_Run.run (va_runV (As := []) (rest := []) ⟨hx, hb, hml, hown, hts⟩ (c_X5_thrown l D cy h adM u2.1 u2.2) (cwV 0 hts gL_law_X5_thrown rfl rfl rfl (by decide +kernel) ⟨Nat.le_of_ble_eq_true rfl, Nat.le_of_ble_eq_true rfl⟩) ⟨rB_blind, va_recv hK (fr_P2 hP) (ci := 5) (q0 := 0) rfl rfl, (rB_pre (fr_P2 hP) hK)⟩ rfl rfl hl.1 rfl (lv_room (Nat.le_of_ble_eq_true rfl)) dL_law_1019 ⟨(by show _ ≤ 601024; omega), (by show _ ≤ 7293034; omega)⟩)) (fun r3 hr3 => ?_)
  refine lv_iload hx hb dL_law_1022 (lv_at hl 1 rfl) ?_
  have he : r3 = r := hr3.trans (hw2.1.trans hw.1.symm)
  refine lv_icmp_eq (tgt := 1029) hx hb dL_law_1024 (by decide) (fun _ => ?_) (fun c1 => absurd he c1)
  have hI2 : LI D cy s q h o adM H locs := ⟨(sp_stave Y (xs (i + 1)) (xs (i + 2)) (xs (i + 3))).2.2, u.1, u.2, u2.1, u2.2, hw.2.2, WF_stave hY _ _ _, hw2.2.2, hP, hD, hS⟩
  refine lv_iload hx hb dL_law_1029 (lv_at hl 1 rfl) ?_
  refine lv_if_ne (tgt := 1046) hx hb dL_law_1031 (by decide) (fun _ => ?_) (fun c2 => ?_)
  · exact lv_goto (tgt := 1893) hx hb dL_law_1046 (by decide) (kk _ _ _ hI2 (lv_sub hl [2, 3, 4, 5, 6] rfl))
  have h0 : (sp_stave Y (xs (i + 1)) (xs (i + 2)) (xs (i + 3))).1 = 0 := c_zero hw.1 (sb_stave) (by decide) c2
  refine lv_aload_n hx hb dL_law_1034 rfl (lv_at hl 5 rfl) ?_
  refine lv_iconst (v := 0) hx hb dL_law_1035 (by decide) ?_
  refine va_lald hx hb hK hP u.1.length 2 (fr_L (fr_get _ _)) rfl (i := 0) (by unfold vp_in; decide) dL_law_1036 ?_
  refine lv_iload hx hb dL_law_1037 (lv_at hl 0 rfl) ?_
  refine lv_i2l (v := r2.toInt64) hx hb dL_law_1039 rfl ?_
  refine W.lcmp hx hb dL_law_1040 ?_
  refine g_top (y := 0) (by rw [show u.2 (0 : Int32).toNatClampNeg = _ from hw.2.1 h0, hw2.2.1 h0]; exact lc_self _) ?_
  refine lv_if_eq (tgt := 1046) hx hb dL_law_1041 (by decide) (fun _ => ?_) (fun c3 => absurd rfl c3)
  exact lv_goto (tgt := 1893) hx hb dL_law_1046 (by decide) (kk _ _ _ hI2 (lv_sub hl [2, 3, 4, 5, 6] rfl))
