set_option maxHeartbeats 4000000 in
set_option maxRecDepth 100000 in
theorem law_form {p : Program} {l : Launch} {e : Env} {s : State} {m : MethodId} {below : List Frame} {meth : Method} {c : Code} {b L : Nat} {xs : Nat → Int32} {D : va_G} {cy : Nat → ClassId} {sa : Nat → Nat} (hlt : l.stackTraces = false) (C : LX p s m meth c b L xs D cy sa) (hLb : L ≤ 2560) {q h o : Nat} {adM : Nat → Nat} {cells slots i : Nat} {Q : State → Prop} {H : Heap} {locs : List Loc} {ls : Array Slot} (hc : cells + 10 ≤ 601024) (hs : slots + 300 ≤ 7293034) (hi : i + 5 ≤ L) (hI : LI D cy s q h o adM H locs) (hl : lv_has ls 8 [(0, .ref b), (1, .ref q), (2, .ref h), (3, .ref o), (4, .int (nI i))])
    (kk : ∀ (H : Heap) (locs : List Loc) (ls : Array Slot), LI D cy s q h o adM H locs → lv_has ls 8 [(0, .ref b), (1, .ref q), (2, .ref h), (3, .ref o), (4, .int (nI i))] → W p l e room_1 s m #[Value.ref b] below meth c H locs (cells + 10) (slots + 300) Q (F0 m 1893 ls [])) : W p l e room_1 s m #[Value.ref b] below meth c H locs cells slots Q (F0 m 152 ls []) := by
  obtain ⟨⟨hx, hb, hr, hml, hown, hts0, hX, hbl, hlocks, hgv⟩, hK, hN, hXE, hZ, hC⟩ := C
  have hown : s.vm.findClass RL = some m.cls := hown
  have hts : ∀ w ∈ wsL_law, w.before #[Value.ref b] s = true := fun w hw => hts0 w (wsL_law_in w hw)
  have hA : ∀ z : Nat, s.heap.size ≤ z → (fun z : Nat => s.heap.size ≤ z) z := fun _ h => h
  have hbA : ¬ (fun z : Nat => s.heap.size ≤ z) b := Nat.not_le.mpr hbl
  obtain ⟨Y, w, f, I, F, hYW, hY, hM, hP, hD, hS⟩ := hI
  obtain ⟨K, ad, E, rfl, rfl, hKR, hR⟩ := hYW
  have hE0 := hR.1.1
  obtain ⟨p1, hp1⟩ := kW_pos (hKR.m (show keyOk Y (0) by unfold keyOk; omega))
  rw [List.append_assoc] at hP hD
  refine lv_aload_n hx hb dL_law_152 rfl (lv_at hl 1 rfl) ?_
  refine g_sc5 hx hb hX hbl hbA hS 1 (by decide) hi hLb (lv_at hl 0 rfl) (lv_at hl 4 rfl) dL_law_153 dL_law_154 dL_law_156 dL_law_157 dL_law_158 ?_
  refine g_sc5 hx hb hX hbl hbA hS 2 (by decide) hi hLb (lv_at hl 0 rfl) (lv_at hl 4 rfl) dL_law_159 dL_law_160 dL_law_162 dL_law_163 dL_law_164 ?_
  refine g_sc5 hx hb hX hbl hbA hS 3 (by decide) hi hLb (lv_at hl 0 rfl) (lv_at hl 4 rfl) dL_law_165 dL_law_166 dL_law_168 dL_law_169 dL_law_170 ?_
  refine g_sc5 hx hb hX hbl hbA hS 4 (by decide) hi hLb (lv_at hl 0 rfl) (lv_at hl 4 rfl) dL_law_171 dL_law_172 dL_law_174 dL_law_175 dL_law_176 ?_
  have hPh := fr_P1 hP
  have hDh := fr_D1 hD
  have hFh := w_free hDh hS hA
  refine va_calli (va_runV (As := [.int (xs (i + 1)), .int (xs (i + 2)), .int (xs (i + 3)), .int (xs (i + 4))]) (rest := []) ⟨hx, hb, hml, hown, hts⟩ (c_X4_form l D cy H.size K ad E Y hKR hR hY (xs (i + 1)) (xs (i + 2)) (xs (i + 3)) (xs (i + 4))) (cwV 4 hts gL_law_X4_form rfl rfl rfl (by decide +kernel) ⟨Nat.le_of_ble_eq_true rfl, Nat.le_of_ble_eq_true rfl⟩) ⟨wB2_blind, va_recv hK hPh (ci := 4) (q0 := p1) rfl (kW_get hp1 hE0), wB2_pre hPh hK hDh hN⟩ rfl rfl hl.1 rfl (lv_room (Nat.le_of_ble_eq_true rfl)) dL_law_177 ⟨(by show _ ≤ 601024; omega), (by show _ ≤ 7293034; omega)⟩) hS (fun q _ h => hFh q h) hFh (fun r u t9 H locs ht hvm hw hB hz1 hk1 hS => ?_)
  obtain ⟨hP1, hK1, hD1⟩ := hB
  rw [ht] at hP1
  obtain ⟨hP, hD⟩ := fr_J hP hD hk1 hFh hP1 hD1
  rw [← List.append_assoc] at hP hD
  refine W.widen (k := cells + 10) (n := slots + 300) (by omega) (by omega) ?_
  refine lv_aload_n hx hb dL_law_180 rfl (lv_at hl 2 rfl) ?_
  refine g_sc5 hx hb hX hbl hbA hS 1 (by decide) hi hLb (lv_at hl 0 rfl) (lv_at hl 4 rfl) dL_law_181 dL_law_182 dL_law_184 dL_law_185 dL_law_186 ?_
  refine g_sc5 hx hb hX hbl hbA hS 2 (by decide) hi hLb (lv_at hl 0 rfl) (lv_at hl 4 rfl) dL_law_187 dL_law_188 dL_law_190 dL_law_191 dL_law_192 ?_
  refine g_sc5 hx hb hX hbl hbA hS 3 (by decide) hi hLb (lv_at hl 0 rfl) (lv_at hl 4 rfl) dL_law_193 dL_law_194 dL_law_196 dL_law_197 dL_law_198 ?_
  refine g_sc5 hx hb hX hbl hbA hS 4 (by decide) hi hLb (lv_at hl 0 rfl) (lv_at hl 4 rfl) dL_law_199 dL_law_200 dL_law_202 dL_law_203 dL_law_204 ?_
  have hPm := fr_P2 hP
  have hDm := fr_D2 hD
  have hFm := w_free hDm hS hA
  refine va_calli (va_runV (As := [.int (xs (i + 1)), .int (xs (i + 2)), .int (xs (i + 3)), .int (xs (i + 4))]) (rest := [.int r]) ⟨hx, hb, hml, hown, hts⟩ (c_X5_form l D cy H.size h adM I F Y hM hY (xs (i + 1)) (xs (i + 2)) (xs (i + 3)) (xs (i + 4))) (cwV 4 hts gL_law_X5_form rfl rfl rfl (by decide +kernel) ⟨Nat.le_of_ble_eq_true rfl, Nat.le_of_ble_eq_true rfl⟩) ⟨wB_blind, va_recv hK hPm (ci := 5) (q0 := 0) rfl rfl, wB_pre hPm hK hDm⟩ rfl rfl hl.1 rfl (lv_room (Nat.le_of_ble_eq_true rfl)) dL_law_205 ⟨(by show _ ≤ 601024; omega), (by show _ ≤ 7293034; omega)⟩) hS (fun q _ h => hFm q h) hFm (fun r2 u2 t9 H locs ht hvm hw2 hB hz1 hk1 hS => ?_)
  obtain ⟨hP2, hK2, hD2⟩ := hB
  rw [ht] at hP2
  obtain ⟨hP, hD⟩ := fr_J (fr_sP hP) (fr_sD hD) hk1 hFm hP2 hD2
  have hP := fr_sP hP
  have hD := fr_sD hD
  have hI2 : LI D cy s (ad 0) h o adM H locs := ⟨(sp_form Y (xs (i + 1)) (xs (i + 2)) (xs (i + 3)) (xs (i + 4))).2.2, kW u.1 u.2.1 u.2.2, f, u2.1, u2.2, ⟨u.1, u.2.1, u.2.2, rfl, hw.2.2.2.2, hw.2.2.1, hw.2.2.2.1⟩, WF_form hY _ _ _ _, hw2.2.2, hP, hD, hS⟩
  have he : r = r2 := hw.2.1.trans (hw2.2.1 hw.1).symm
  exact lv_icmp_eq (tgt := 1893) hx hb dL_law_208 (by decide) (fun _ => kk _ _ _ hI2 (lv_sub hl [0, 1, 2, 3, 4] rfl)) (fun c1 => absurd he c1)
set_option maxHeartbeats 4000000 in
set_option maxRecDepth 100000 in
theorem law_girth {p : Program} {l : Launch} {e : Env} {s : State} {m : MethodId} {below : List Frame} {meth : Method} {c : Code} {b L : Nat} {xs : Nat → Int32} {D : va_G} {cy : Nat → ClassId} {sa : Nat → Nat} (hlt : l.stackTraces = false) (C : LX p s m meth c b L xs D cy sa) (hLb : L ≤ 2560) {q h o : Nat} {adM : Nat → Nat} {cells slots i : Nat} {Q : State → Prop} {H : Heap} {locs : List Loc} {ls : Array Slot} (hc : cells + 10 ≤ 601024) (hs : slots + 300 ≤ 7293034) (hi : i + 5 ≤ L) (hI : LI D cy s q h o adM H locs) (hl : lv_has ls 8 [(0, .ref b), (1, .ref q), (2, .ref h), (3, .ref o), (4, .int (nI i))])
    (kk : ∀ (H : Heap) (locs : List Loc) (ls : Array Slot), LI D cy s q h o adM H locs → lv_has ls 8 [(0, .ref b), (1, .ref q), (2, .ref h), (3, .ref o), (4, .int (nI i))] → W p l e room_1 s m #[Value.ref b] below meth c H locs (cells + 10) (slots + 300) Q (F0 m 1893 ls [])) : W p l e room_1 s m #[Value.ref b] below meth c H locs cells slots Q (F0 m 213 ls []) := by
  obtain ⟨⟨hx, hb, hr, hml, hown, hts0, hX, hbl, hlocks, hgv⟩, hK, hN, hXE, hZ, hC⟩ := C
  have hown : s.vm.findClass RL = some m.cls := hown
  have hts : ∀ w ∈ wsL_law, w.before #[Value.ref b] s = true := fun w hw => hts0 w (wsL_law_in w hw)
  have hA : ∀ z : Nat, s.heap.size ≤ z → (fun z : Nat => s.heap.size ≤ z) z := fun _ h => h
  have hbA : ¬ (fun z : Nat => s.heap.size ≤ z) b := Nat.not_le.mpr hbl
  obtain ⟨Y, w, f, I, F, hYW, hY, hM, hP, hD, hS⟩ := hI
  refine lv_aload_n hx hb dL_law_213 rfl (lv_at hl 1 rfl) ?_
  refine g_sc5 hx hb hX hbl hbA hS 1 (by decide) hi hLb (lv_at hl 0 rfl) (lv_at hl 4 rfl) dL_law_214 dL_law_215 dL_law_217 dL_law_218 dL_law_219 ?_
  refine g_sc5 hx hb hX hbl hbA hS 2 (by decide) hi hLb (lv_at hl 0 rfl) (lv_at hl 4 rfl) dL_law_220 dL_law_221 dL_law_223 dL_law_224 dL_law_225 ?_
  refine lv_aload_n hx hb dL_law_226 rfl (lv_at hl 3 rfl) ?_
  have hPh := fr_P1 hP
  have hDh := fr_D1 hD
  have hFh := w_free hDh hS hA
  refine va_calli (vx_runSW (As := [.ref q, .int (xs (i + 1)), .int (xs (i + 2)), .ref o]) (rest := []) ⟨hx, hb, hml, hown, hts⟩ (c_L_girth l hlt D cy H.size sa q o w Y hYW hY f (xs (i + 1)) (xs (i + 2))) (vx_cwSW 4 hts gL_law_L_girth rfl rfl rfl (by decide +kernel) ⟨Nat.le_of_ble_eq_true rfl, Nat.le_of_ble_eq_true rfl⟩) ⟨wL_blind, wL_pre hPh hK hDh hN hXE hZ hS hA hC⟩ rfl rfl hl.1 rfl (lv_room (Nat.le_of_ble_eq_true rfl)) dL_law_227 ⟨(by show _ ≤ 601024; omega), (by show _ ≤ 7293034; omega)⟩) hS (fun q _ h => hFh q h) hFh (fun r u t9 H locs ht hvm hw hB hz1 hk1 hS => ?_)
  obtain ⟨hP1, hK1, hD1⟩ := hB
  rw [ht] at hP1
  obtain ⟨hP, hD⟩ := fr_J hP hD hk1 hFh hP1 hD1
  refine W.widen (k := cells + 10) (n := slots + 300) (by omega) (by omega) ?_
  refine lv_istore (lv' := [(5, .int r), (0, .ref b), (1, .ref q), (2, .ref h), (3, .ref o), (4, .int (nI i))]) hx hb dL_law_230 hl (by decide) rfl (fun ls hl => ?_)
  refine lv_aload_n hx hb dL_law_232 rfl (lv_at hl 3 rfl) ?_
  refine g_sc5 hx hb hX hbl hbA hS 1 (by decide) hi hLb (lv_at hl 1 rfl) (lv_at hl 5 rfl) dL_law_233 dL_law_234 dL_law_236 dL_law_237 dL_law_238 ?_
  refine g_sc5 hx hb hX hbl hbA hS 2 (by decide) hi hLb (lv_at hl 1 rfl) (lv_at hl 5 rfl) dL_law_239 dL_law_240 dL_law_242 dL_law_243 dL_law_244 ?_
  have hPm := fr_P2 hP
  have hDm := fr_D2 hD
  have hFm := w_free hDm hS hA
  refine va_calli (va_runV (As := [.int (xs (i + 1)), .int (xs (i + 2))]) (rest := []) ⟨hx, hb, hml, hown, hts⟩ (c_X5_girth l D cy H.size h adM I F Y hM hY (xs (i + 1)) (xs (i + 2))) (cwV 2 hts gL_law_X5_girth rfl rfl rfl (by decide +kernel) ⟨Nat.le_of_ble_eq_true rfl, Nat.le_of_ble_eq_true rfl⟩) ⟨wB_blind, va_recv hK hPm (ci := 5) (q0 := 0) rfl rfl, wB_pre hPm hK hDm⟩ rfl rfl hl.1 rfl (lv_room (Nat.le_of_ble_eq_true rfl)) dL_law_245 ⟨(by show _ ≤ 601024; omega), (by show _ ≤ 7293034; omega)⟩) hS (fun q _ h => hFm q h) hFm (fun r2 u2 t9 H locs ht hvm hw2 hB hz1 hk1 hS => ?_)
  obtain ⟨hP2, hK2, hD2⟩ := hB
  rw [ht] at hP2
  obtain ⟨hP, hD⟩ := fr_J (fr_sP hP) (fr_sD hD) hk1 hFm hP2 hD2
  have hP := fr_sP hP
  have hD := fr_sD hD
  refine lv_istore (lv' := [(6, .int r2), (5, .int r), (0, .ref b), (1, .ref q), (2, .ref h), (3, .ref o), (4, .int (nI i))]) hx hb dL_law_248 hl (by decide) rfl (fun ls hl => ?_)
  refine lv_aload_n hx hb dL_law_250 rfl (lv_at hl 4 rfl) ?_
  refine vp_callSi (va_Run.run (va_runV (As := []) (rest := []) ⟨hx, hb, hml, hown, hts⟩ (c_X5_thrown l D cy h adM u2.1 u2.2) (cwV 0 hts gL_law_X5_thrown rfl rfl rfl (by decide +kernel) ⟨Nat.le_of_ble_eq_true rfl, Nat.le_of_ble_eq_true rfl⟩) ⟨rB_blind, va_recv hK (fr_P2 hP) (ci := 5) (q0 := 0) rfl rfl, (rB_pre (fr_P2 hP) hK)⟩ rfl rfl hl.1 rfl (lv_room (Nat.le_of_ble_eq_true rfl)) dL_law_251 ⟨(by show _ ≤ 601024; omega), (by show _ ≤ 7293034; omega)⟩)) (fun r3 hr3 => ?_)
  refine lv_iload hx hb dL_law_254 (lv_at hl 1 rfl) ?_
  have he : r3 = r := hr3.trans (hw2.1.trans hw.1.symm)
  refine lv_icmp_eq (tgt := 261) hx hb dL_law_256 (by decide) (fun _ => ?_) (fun c1 => absurd he c1)
  have hI2 : LI D cy s q h o adM H locs := ⟨(sp_girth Y (xs (i + 1)) (xs (i + 2))).2.2, u.1, u.2, u2.1, u2.2, hw.2.2, WF_girth hY _ _, hw2.2.2, hP, hD, hS⟩
  refine lv_iload hx hb dL_law_261 (lv_at hl 1 rfl) ?_
  refine lv_if_ne (tgt := 278) hx hb dL_law_263 (by decide) (fun _ => ?_) (fun c2 => ?_)
  · exact lv_goto (tgt := 1893) hx hb dL_law_278 (by decide) (kk _ _ _ hI2 (lv_sub hl [2, 3, 4, 5, 6] rfl))
  have h0 : (sp_girth Y (xs (i + 1)) (xs (i + 2))).1 = 0 := c_zero hw.1 (sb_girth) (by decide) c2
  refine lv_aload_n hx hb dL_law_266 rfl (lv_at hl 5 rfl) ?_
  refine lv_iconst (v := 0) hx hb dL_law_267 (by decide) ?_
  refine va_lald hx hb hK hP u.1.length 2 (fr_L (fr_get _ _)) rfl (i := 0) (by unfold vp_in; decide) dL_law_268 ?_
  refine lv_iload hx hb dL_law_269 (lv_at hl 0 rfl) ?_
  refine lv_i2l (v := r2.toInt64) hx hb dL_law_271 rfl ?_
  refine W.lcmp hx hb dL_law_272 ?_
  refine g_top (y := 0) (by rw [show u.2 (0 : Int32).toNatClampNeg = _ from hw.2.1 h0, hw2.2.1 h0]; exact lc_self _) ?_
  refine lv_if_eq (tgt := 278) hx hb dL_law_273 (by decide) (fun _ => ?_) (fun c3 => absurd rfl c3)
  exact lv_goto (tgt := 1893) hx hb dL_law_278 (by decide) (kk _ _ _ hI2 (lv_sub hl [2, 3, 4, 5, 6] rfl))
