set_option maxHeartbeats 4000000 in
set_option maxRecDepth 100000 in
theorem law_formOf {p : Program} {l : Launch} {e : Env} {s : State} {m : MethodId} {below : List Frame} {meth : Method} {c : Code} {b L : Nat} {xs : Nat → Int32} {D : va_G} {cy : Nat → ClassId} {sa : Nat → Nat} (hlt : l.stackTraces = false) (C : LX p s m meth c b L xs D cy sa) (hLb : L ≤ 2560) {q h o : Nat} {adM : Nat → Nat} {cells slots i : Nat} {Q : State → Prop} {H : Heap} {locs : List Loc} {ls : Array Slot} (hc : cells + 10 ≤ 601024) (hs : slots + 300 ≤ 7293034) (hi : i + 5 ≤ L) (hI : LI D cy s q h o adM H locs) (hl : lv_has ls 8 [(0, .ref b), (1, .ref q), (2, .ref h), (3, .ref o), (4, .int (nI i))])
    (kk : ∀ (H : Heap) (locs : List Loc) (ls : Array Slot), LI D cy s q h o adM H locs → lv_has ls 8 [(0, .ref b), (1, .ref q), (2, .ref h), (3, .ref o), (4, .int (nI i))] → W p l e room_1 s m #[Value.ref b] below meth c H locs (cells + 10) (slots + 300) Q (F0 m 1893 ls [])) : W p l e room_1 s m #[Value.ref b] below meth c H locs cells slots Q (F0 m 1049 ls []) := by
  obtain ⟨⟨hx, hb, hr, hml, hown, hts0, hX, hbl, hlocks, hgv⟩, hK, hN, hXE, hZ, hC⟩ := C
  have hown : s.vm.findClass RL = some m.cls := hown
  have hts : ∀ w ∈ wsL_law, w.before #[Value.ref b] s = true := fun w hw => hts0 w (wsL_law_in w hw)
  have hA : ∀ z : Nat, s.heap.size ≤ z → (fun z : Nat => s.heap.size ≤ z) z := fun _ h => h
  have hbA : ¬ (fun z : Nat => s.heap.size ≤ z) b := Nat.not_le.mpr hbl
  obtain ⟨Y, w, f, I, F, hYW, hY, hM, hP, hD, hS⟩ := hI
  refine lv_aload_n hx hb dL_law_1049 rfl (lv_at hl 1 rfl) ?_
  refine g_sc5 hx hb hX hbl hbA hS 1 (by decide) hi hLb (lv_at hl 0 rfl) (lv_at hl 4 rfl) dL_law_1050 dL_law_1051 dL_law_1053 dL_law_1054 dL_law_1055 ?_
  refine lv_aload_n hx hb dL_law_1056 rfl (lv_at hl 3 rfl) ?_
  have hPh := fr_P1 hP
  have hDh := fr_D1 hD
  have hFh := w_free hDh hS hA
  refine va_calli (vx_runSW (As := [.ref q, .int (xs (i + 1)), .ref o]) (rest := []) ⟨hx, hb, hml, hown, hts⟩ (c_L_formOf l hlt D cy H.size sa q o w Y hYW hY f (xs (i + 1))) (vx_cwSW 3 hts gL_law_L_formOf rfl rfl rfl (by decide +kernel) ⟨Nat.le_of_ble_eq_true rfl, Nat.le_of_ble_eq_true rfl⟩) ⟨wL_blind, wL_pre hPh hK hDh hN hXE hZ hS hA hC⟩ rfl rfl hl.1 rfl (lv_room (Nat.le_of_ble_eq_true rfl)) dL_law_1057 ⟨(by show _ ≤ 601024; omega), (by show _ ≤ 7293034; omega)⟩) hS (fun q _ h => hFh q h) hFh (fun r u t9 H locs ht hvm hw hB hz1 hk1 hS => ?_)
  obtain ⟨hP1, hK1, hD1⟩ := hB
  rw [ht] at hP1
  obtain ⟨hP, hD⟩ := fr_J hP hD hk1 hFh hP1 hD1
  refine W.widen (k := cells + 10) (n := slots + 300) (by omega) (by omega) ?_
  refine lv_istore (lv' := [(5, .int r), (0, .ref b), (1, .ref q), (2, .ref h), (3, .ref o), (4, .int (nI i))]) hx hb dL_law_1060 hl (by decide) rfl (fun ls hl => ?_)
  refine lv_aload_n hx hb dL_law_1062 rfl (lv_at hl 3 rfl) ?_
  refine g_sc5 hx hb hX hbl hbA hS 1 (by decide) hi hLb (lv_at hl 1 rfl) (lv_at hl 5 rfl) dL_law_1063 dL_law_1064 dL_law_1066 dL_law_1067 dL_law_1068 ?_
  have hPm := fr_P2 hP
  have hDm := fr_D2 hD
  have hFm := w_free hDm hS hA
  refine va_calli (va_runV (As := [.int (xs (i + 1))]) (rest := []) ⟨hx, hb, hml, hown, hts⟩ (c_X5_formOf l D cy H.size h adM I F Y hM hY (xs (i + 1))) (cwV 1 hts gL_law_X5_formOf rfl rfl rfl (by decide +kernel) ⟨Nat.le_of_ble_eq_true rfl, Nat.le_of_ble_eq_true rfl⟩) ⟨wB_blind, va_recv hK hPm (ci := 5) (q0 := 0) rfl rfl, wB_pre hPm hK hDm⟩ rfl rfl hl.1 rfl (lv_room (Nat.le_of_ble_eq_true rfl)) dL_law_1069 ⟨(by show _ ≤ 601024; omega), (by show _ ≤ 7293034; omega)⟩) hS (fun q _ h => hFm q h) hFm (fun r2 u2 t9 H locs ht hvm hw2 hB hz1 hk1 hS => ?_)
  obtain ⟨hP2, hK2, hD2⟩ := hB
  rw [ht] at hP2
  obtain ⟨hP, hD⟩ := fr_J (fr_sP hP) (fr_sD hD) hk1 hFm hP2 hD2
  have hP := fr_sP hP
  have hD := fr_sD hD
  refine lv_istore (lv' := [(6, .int r2), (5, .int r), (0, .ref b), (1, .ref q), (2, .ref h), (3, .ref o), (4, .int (nI i))]) hx hb dL_law_1072 hl (by decide) rfl (fun ls hl => ?_)
  refine lv_aload_n hx hb dL_law_1074 rfl (lv_at hl 4 rfl) ?_
  refine vp_callSi (va_Run.run (va_runV (As := []) (rest := []) ⟨hx, hb, hml, hown, hts⟩ (c_X5_thrown l D cy h adM u2.1 u2.2) (cwV 0 hts gL_law_X5_thrown rfl rfl rfl (by decide +kernel) ⟨Nat.le_of_ble_eq_true rfl, Nat.le_of_ble_eq_true rfl⟩) ⟨rB_blind, va_recv hK (fr_P2 hP) (ci := 5) (q0 := 0) rfl rfl, (rB_pre (fr_P2 hP) hK)⟩ rfl rfl hl.1 rfl (lv_room (Nat.le_of_ble_eq_true rfl)) dL_law_1075 ⟨(by show _ ≤ 601024; omega), (by show _ ≤ 7293034; omega)⟩)) (fun r3 hr3 => ?_)
  refine lv_iload hx hb dL_law_1078 (lv_at hl 1 rfl) ?_
  have he : r3 = r := hr3.trans (hw2.1.trans hw.1.symm)
  refine lv_icmp_eq (tgt := 1085) hx hb dL_law_1080 (by decide) (fun _ => ?_) (fun c1 => absurd he c1)
  have hI2 : LI D cy s q h o adM H locs := ⟨(sp_formOf Y (xs (i + 1))).2.2, u.1, u.2, u2.1, u2.2, hw.2.2, WF_formOf hY _, hw2.2.2, hP, hD, hS⟩
  refine lv_iload hx hb dL_law_1085 (lv_at hl 1 rfl) ?_
  refine lv_if_ne (tgt := 1102) hx hb dL_law_1087 (by decide) (fun _ => ?_) (fun c2 => ?_)
  · exact lv_goto (tgt := 1893) hx hb dL_law_1102 (by decide) (kk _ _ _ hI2 (lv_sub hl [2, 3, 4, 5, 6] rfl))
  have h0 : (sp_formOf Y (xs (i + 1))).1 = 0 := c_zero hw.1 (sb_formOf) (by decide) c2
  refine lv_aload_n hx hb dL_law_1090 rfl (lv_at hl 5 rfl) ?_
  refine lv_iconst (v := 0) hx hb dL_law_1091 (by decide) ?_
  refine va_lald hx hb hK hP u.1.length 2 (fr_L (fr_get _ _)) rfl (i := 0) (by unfold vp_in; decide) dL_law_1092 ?_
  refine lv_iload hx hb dL_law_1093 (lv_at hl 0 rfl) ?_
  refine lv_i2l (v := r2.toInt64) hx hb dL_law_1095 rfl ?_
  refine W.lcmp hx hb dL_law_1096 ?_
  refine g_top (y := 0) (by rw [show u.2 (0 : Int32).toNatClampNeg = _ from hw.2.1 h0, hw2.2.1 h0]; exact lc_self _) ?_
  refine lv_if_eq (tgt := 1102) hx hb dL_law_1097 (by decide) (fun _ => ?_) (fun c3 => absurd rfl c3)
  exact lv_goto (tgt := 1893) hx hb dL_law_1102 (by decide) (kk _ _ _ hI2 (lv_sub hl [2, 3, 4, 5, 6] rfl))
set_option maxHeartbeats 4000000 in
set_option maxRecDepth 100000 in
theorem law_bars {p : Program} {l : Launch} {e : Env} {s : State} {m : MethodId} {below : List Frame} {meth : Method} {c : Code} {b L : Nat} {xs : Nat → Int32} {D : va_G} {cy : Nat → ClassId} {sa : Nat → Nat} (hlt : l.stackTraces = false) (C : LX p s m meth c b L xs D cy sa) (hLb : L ≤ 2560) {q h o : Nat} {adM : Nat → Nat} {cells slots i : Nat} {Q : State → Prop} {H : Heap} {locs : List Loc} {ls : Array Slot} (hc : cells + 10 ≤ 601024) (hs : slots + 300 ≤ 7293034) (hi : i + 5 ≤ L) (hI : LI D cy s q h o adM H locs) (hl : lv_has ls 8 [(0, .ref b), (1, .ref q), (2, .ref h), (3, .ref o), (4, .int (nI i))])
    (kk : ∀ (H : Heap) (locs : List Loc) (ls : Array Slot), LI D cy s q h o adM H locs → lv_has ls 8 [(0, .ref b), (1, .ref q), (2, .ref h), (3, .ref o), (4, .int (nI i))] → W p l e room_1 s m #[Value.ref b] below meth c H locs (cells + 10) (slots + 300) Q (F0 m 1893 ls [])) : W p l e room_1 s m #[Value.ref b] below meth c H locs cells slots Q (F0 m 1105 ls []) := by
  obtain ⟨⟨hx, hb, hr, hml, hown, hts0, hX, hbl, hlocks, hgv⟩, hK, hN, hXE, hZ, hC⟩ := C
  have hown : s.vm.findClass RL = some m.cls := hown
  have hts : ∀ w ∈ wsL_law, w.before #[Value.ref b] s = true := fun w hw => hts0 w (wsL_law_in w hw)
  have hA : ∀ z : Nat, s.heap.size ≤ z → (fun z : Nat => s.heap.size ≤ z) z := fun _ h => h
  have hbA : ¬ (fun z : Nat => s.heap.size ≤ z) b := Nat.not_le.mpr hbl
  obtain ⟨Y, w, f, I, F, hYW, hY, hM, hP, hD, hS⟩ := hI
  refine lv_aload_n hx hb dL_law_1105 rfl (lv_at hl 1 rfl) ?_
  refine g_sc5 hx hb hX hbl hbA hS 1 (by decide) hi hLb (lv_at hl 0 rfl) (lv_at hl 4 rfl) dL_law_1106 dL_law_1107 dL_law_1109 dL_law_1110 dL_law_1111 ?_
  refine g_sc5 hx hb hX hbl hbA hS 2 (by decide) hi hLb (lv_at hl 0 rfl) (lv_at hl 4 rfl) dL_law_1112 dL_law_1113 dL_law_1115 dL_law_1116 dL_law_1117 ?_
  refine g_sc5 hx hb hX hbl hbA hS 3 (by decide) hi hLb (lv_at hl 0 rfl) (lv_at hl 4 rfl) dL_law_1118 dL_law_1119 dL_law_1121 dL_law_1122 dL_law_1123 ?_
  refine g_nz (v := nI (if xs (i + 3) ≠ 0 then 1 else 0)) hx hb dL_law_1124 dL_law_1127 dL_law_1128 dL_law_1131 (nz_n _) ?_
  refine lv_aload_n hx hb dL_law_1132 rfl (lv_at hl 3 rfl) ?_
  have hPh := fr_P1 hP
  have hDh := fr_D1 hD
  have hFh := w_free hDh hS hA
  refine va_calli (vx_runSW (As := [.ref q, .int (xs (i + 1)), .int (xs (i + 2)), .int (nI (if xs (i + 3) ≠ 0 then 1 else 0)), .ref o]) (rest := []) ⟨hx, hb, hml, hown, hts⟩ (c_L_bars l hlt D cy H.size sa q o w Y hYW hY f (xs (i + 1)) (xs (i + 2)) (if xs (i + 3) ≠ 0 then 1 else 0) (by split <;> decide)) (vx_cwSW 5 hts gL_law_L_bars rfl rfl rfl (by decide +kernel) ⟨Nat.le_of_ble_eq_true rfl, Nat.le_of_ble_eq_true rfl⟩) ⟨wL_blind, wL_pre hPh hK hDh hN hXE hZ hS hA hC⟩ rfl rfl hl.1 rfl (lv_room (Nat.le_of_ble_eq_true rfl)) dL_law_1133 ⟨(by show _ ≤ 601024; omega), (by show _ ≤ 7293034; omega)⟩) hS (fun q _ h => hFh q h) hFh (fun r u t9 H locs ht hvm hw hB hz1 hk1 hS => ?_)
  obtain ⟨hP1, hK1, hD1⟩ := hB
  rw [ht] at hP1
  obtain ⟨hP, hD⟩ := fr_J hP hD hk1 hFh hP1 hD1
  refine W.widen (k := cells + 10) (n := slots + 300) (by omega) (by omega) ?_
  refine lv_istore (lv' := [(5, .int r), (0, .ref b), (1, .ref q), (2, .ref h), (3, .ref o), (4, .int (nI i))]) hx hb dL_law_1136 hl (by decide) rfl (fun ls hl => ?_)
  refine lv_aload_n hx hb dL_law_1138 rfl (lv_at hl 3 rfl) ?_
  refine g_sc5 hx hb hX hbl hbA hS 1 (by decide) hi hLb (lv_at hl 1 rfl) (lv_at hl 5 rfl) dL_law_1139 dL_law_1140 dL_law_1142 dL_law_1143 dL_law_1144 ?_
  refine g_sc5 hx hb hX hbl hbA hS 2 (by decide) hi hLb (lv_at hl 1 rfl) (lv_at hl 5 rfl) dL_law_1145 dL_law_1146 dL_law_1148 dL_law_1149 dL_law_1150 ?_
  refine g_sc5 hx hb hX hbl hbA hS 3 (by decide) hi hLb (lv_at hl 1 rfl) (lv_at hl 5 rfl) dL_law_1151 dL_law_1152 dL_law_1154 dL_law_1155 dL_law_1156 ?_
  refine g_nz (v := bI (xs (i + 3) ≠ 0)) hx hb dL_law_1157 dL_law_1160 dL_law_1161 dL_law_1164 (nz_b _) ?_
  have hPm := fr_P2 hP
  have hDm := fr_D2 hD
  have hFm := w_free hDm hS hA
  refine va_calli (va_runV (As := [.int (xs (i + 1)), .int (xs (i + 2)), .int (bI (xs (i + 3) ≠ 0))]) (rest := []) ⟨hx, hb, hml, hown, hts⟩ (c_X5_bars l D cy H.size h adM I F Y hM hY (xs (i + 1)) (xs (i + 2)) (xs (i + 3) ≠ 0)) (cwV 3 hts gL_law_X5_bars rfl rfl rfl (by decide +kernel) ⟨Nat.le_of_ble_eq_true rfl, Nat.le_of_ble_eq_true rfl⟩) ⟨wB_blind, va_recv hK hPm (ci := 5) (q0 := 0) rfl rfl, wB_pre hPm hK hDm⟩ rfl rfl hl.1 rfl (lv_room (Nat.le_of_ble_eq_true rfl)) dL_law_1165 ⟨(by show _ ≤ 601024; omega), (by show _ ≤ 7293034; omega)⟩) hS (fun q _ h => hFm q h) hFm (fun r2 u2 t9 H locs ht hvm hw2 hB hz1 hk1 hS => ?_)
  obtain ⟨hP2, hK2, hD2⟩ := hB
  rw [ht] at hP2
  obtain ⟨hP, hD⟩ := fr_J (fr_sP hP) (fr_sD hD) hk1 hFm hP2 hD2
  have hP := fr_sP hP
  have hD := fr_sD hD
  refine lv_istore (lv' := [(6, .int r2), (5, .int r), (0, .ref b), (1, .ref q), (2, .ref h), (3, .ref o), (4, .int (nI i))]) hx hb dL_law_1168 hl (by decide) rfl (fun ls hl => ?_)
  refine lv_aload_n hx hb dL_law_1170 rfl (lv_at hl 4 rfl) ?_
  refine vp_callSi (va_Run.run (va_runV (As := []) (rest := []) ⟨hx, hb, hml, hown, hts⟩ (c_X5_thrown l D cy h adM u2.1 u2.2) (cwV 0 hts gL_law_X5_thrown rfl rfl rfl (by decide +kernel) ⟨Nat.le_of_ble_eq_true rfl, Nat.le_of_ble_eq_true rfl⟩) ⟨rB_blind, va_recv hK (fr_P2 hP) (ci := 5) (q0 := 0) rfl rfl, (rB_pre (fr_P2 hP) hK)⟩ rfl rfl hl.1 rfl (lv_room (Nat.le_of_ble_eq_true rfl)) dL_law_1171 ⟨(by show _ ≤ 601024; omega), (by show _ ≤ 7293034; omega)⟩)) (fun r3 hr3 => ?_)
  refine lv_iload hx hb dL_law_1174 (lv_at hl 1 rfl) ?_
  have he : r3 = r := hr3.trans (hw2.1.trans hw.1.symm)
  refine lv_icmp_eq (tgt := 1181) hx hb dL_law_1176 (by decide) (fun _ => ?_) (fun c1 => absurd he c1)
  have hI2 : LI D cy s q h o adM H locs := ⟨(sp_bars Y (xs (i + 1)) (xs (i + 2)) (if xs (i + 3) ≠ 0 then 1 else 0)).2.2, u.1, u.2, u2.1, u2.2, hw.2.2, WF_bars hY _ _ (by split <;> decide), hw2.2.2, hP, hD, hS⟩
  refine lv_iload hx hb dL_law_1181 (lv_at hl 1 rfl) ?_
  refine lv_if_ne (tgt := 1205) hx hb dL_law_1183 (by decide) (fun _ => ?_) (fun c2 => ?_)
  · exact lv_goto (tgt := 1893) hx hb dL_law_1205 (by decide) (kk _ _ _ hI2 (lv_sub hl [2, 3, 4, 5, 6] rfl))
  have h0 : (sp_bars Y (xs (i + 1)) (xs (i + 2)) (if xs (i + 3) ≠ 0 then 1 else 0)).1 = 0 := c_zero hw.1 (sb_bars) (by decide) c2
  refine lv_aload_n hx hb dL_law_1186 rfl (lv_at hl 5 rfl) ?_
  refine lv_iconst (v := 0) hx hb dL_law_1187 (by decide) ?_
  refine va_lald hx hb hK hP u.1.length 2 (fr_L (fr_get _ _)) rfl (i := 0) (by unfold vp_in; decide) dL_law_1188 ?_
  refine lv_iload hx hb dL_law_1189 (lv_at hl 0 rfl) ?_
  refine g_nzl hx hb dL_law_1191 dL_law_1194 dL_law_1195 dL_law_1198 ?_
  refine W.lcmp hx hb dL_law_1199 ?_
  refine g_top (y := 0) (by rw [show u.2 (0 : Int32).toNatClampNeg = _ from hw.2.1 h0, hw2.2.1 h0]; exact lc_self _) ?_
  refine lv_if_eq (tgt := 1205) hx hb dL_law_1200 (by decide) (fun _ => ?_) (fun c3 => absurd rfl c3)
  exact lv_goto (tgt := 1893) hx hb dL_law_1205 (by decide) (kk _ _ _ hI2 (lv_sub hl [2, 3, 4, 5, 6] rfl))
set_option maxHeartbeats 4000000 in
set_option maxRecDepth 100000 in
theorem law_may {p : Program} {l : Launch} {e : Env} {s : State} {m : MethodId} {below : List Frame} {meth : Method} {c : Code} {b L : Nat} {xs : Nat → Int32} {D : va_G} {cy : Nat → ClassId} {sa : Nat → Nat} (hlt : l.stackTraces = false) (C : LX p s m meth c b L xs D cy sa) (hLb : L ≤ 2560) {q h o : Nat} {adM : Nat → Nat} {cells slots i : Nat} {Q : State → Prop} {H : Heap} {locs : List Loc} {ls : Array Slot} (hc : cells + 10 ≤ 601024) (hs : slots + 300 ≤ 7293034) (hi : i + 5 ≤ L) (hI : LI D cy s q h o adM H locs) (hl : lv_has ls 8 [(0, .ref b), (1, .ref q), (2, .ref h), (3, .ref o), (4, .int (nI i))])
    (kk : ∀ (H : Heap) (locs : List Loc) (ls : Array Slot), LI D cy s q h o adM H locs → lv_has ls 8 [(0, .ref b), (1, .ref q), (2, .ref h), (3, .ref o), (4, .int (nI i))] → W p l e room_1 s m #[Value.ref b] below meth c H locs (cells + 10) (slots + 300) Q (F0 m 1893 ls [])) : W p l e room_1 s m #[Value.ref b] below meth c H locs cells slots Q (F0 m 1208 ls []) := by
  obtain ⟨⟨hx, hb, hr, hml, hown, hts0, hX, hbl, hlocks, hgv⟩, hK, hN, hXE, hZ, hC⟩ := C
  have hown : s.vm.findClass RL = some m.cls := hown
  have hts : ∀ w ∈ wsL_law, w.before #[Value.ref b] s = true := fun w hw => hts0 w (wsL_law_in w hw)
  have hA : ∀ z : Nat, s.heap.size ≤ z → (fun z : Nat => s.heap.size ≤ z) z := fun _ h => h
  have hbA : ¬ (fun z : Nat => s.heap.size ≤ z) b := Nat.not_le.mpr hbl
  obtain ⟨Y, w, f, I, F, hYW, hY, hM, hP, hD, hS⟩ := hI
  refine lv_aload_n hx hb dL_law_1208 rfl (lv_at hl 1 rfl) ?_
  refine g_sc5 hx hb hX hbl hbA hS 1 (by decide) hi hLb (lv_at hl 0 rfl) (lv_at hl 4 rfl) dL_law_1209 dL_law_1210 dL_law_1212 dL_law_1213 dL_law_1214 ?_
  refine g_sc5 hx hb hX hbl hbA hS 2 (by decide) hi hLb (lv_at hl 0 rfl) (lv_at hl 4 rfl) dL_law_1215 dL_law_1216 dL_law_1218 dL_law_1219 dL_law_1220 ?_
  refine lv_aload_n hx hb dL_law_1221 rfl (lv_at hl 3 rfl) ?_
  have hPh := fr_P1 hP
  have hDh := fr_D1 hD
  have hFh := w_free hDh hS hA
  refine va_calli (vx_runSW (As := [.ref q, .int (xs (i + 1)), .int (xs (i + 2)), .ref o]) (rest := []) ⟨hx, hb, hml, hown, hts⟩ (c_L_may l hlt D cy H.size sa q o w Y hYW hY f (xs (i + 1)) (xs (i + 2))) (vx_cwSW 4 hts gL_law_L_may rfl rfl rfl (by decide +kernel) ⟨Nat.le_of_ble_eq_true rfl, Nat.le_of_ble_eq_true rfl⟩) ⟨wL_blind, wL_pre hPh hK hDh hN hXE hZ hS hA hC⟩ rfl rfl hl.1 rfl (lv_room (Nat.le_of_ble_eq_true rfl)) dL_law_1222 ⟨(by show _ ≤ 601024; omega), (by show _ ≤ 7293034; omega)⟩) hS (fun q _ h => hFh q h) hFh (fun r u t9 H locs ht hvm hw hB hz1 hk1 hS => ?_)
  obtain ⟨hP1, hK1, hD1⟩ := hB
  rw [ht] at hP1
  obtain ⟨hP, hD⟩ := fr_J hP hD hk1 hFh hP1 hD1
  refine W.widen (k := cells + 10) (n := slots + 300) (by omega) (by omega) ?_
  refine lv_istore (lv' := [(5, .int r), (0, .ref b), (1, .ref q), (2, .ref h), (3, .ref o), (4, .int (nI i))]) hx hb dL_law_1225 hl (by decide) rfl (fun ls hl => ?_)
  refine lv_aload_n hx hb dL_law_1227 rfl (lv_at hl 3 rfl) ?_
  refine g_sc5 hx hb hX hbl hbA hS 1 (by decide) hi hLb (lv_at hl 1 rfl) (lv_at hl 5 rfl) dL_law_1228 dL_law_1229 dL_law_1231 dL_law_1232 dL_law_1233 ?_
  refine g_sc5 hx hb hX hbl hbA hS 2 (by decide) hi hLb (lv_at hl 1 rfl) (lv_at hl 5 rfl) dL_law_1234 dL_law_1235 dL_law_1237 dL_law_1238 dL_law_1239 ?_
  have hPm := fr_P2 hP
  have hDm := fr_D2 hD
  have hFm := w_free hDm hS hA
  refine va_calli (va_runV (As := [.int (xs (i + 1)), .int (xs (i + 2))]) (rest := []) ⟨hx, hb, hml, hown, hts⟩ (c_X5_may l D cy H.size h adM I F Y hM hY (xs (i + 1)) (xs (i + 2))) (cwV 2 hts gL_law_X5_may rfl rfl rfl (by decide +kernel) ⟨Nat.le_of_ble_eq_true rfl, Nat.le_of_ble_eq_true rfl⟩) ⟨wB_blind, va_recv hK hPm (ci := 5) (q0 := 0) rfl rfl, wB_pre hPm hK hDm⟩ rfl rfl hl.1 rfl (lv_room (Nat.le_of_ble_eq_true rfl)) dL_law_1240 ⟨(by show _ ≤ 601024; omega), (by show _ ≤ 7293034; omega)⟩) hS (fun q _ h => hFm q h) hFm (fun r2 u2 t9 H locs ht hvm hw2 hB hz1 hk1 hS => ?_)
  obtain ⟨hP2, hK2, hD2⟩ := hB
  rw [ht] at hP2
  obtain ⟨hP, hD⟩ := fr_J (fr_sP hP) (fr_sD hD) hk1 hFm hP2 hD2
  have hP := fr_sP hP
  have hD := fr_sD hD
  refine lv_istore (lv' := [(6, .int r2), (5, .int r), (0, .ref b), (1, .ref q), (2, .ref h), (3, .ref o), (4, .int (nI i))]) hx hb dL_law_1243 hl (by decide) rfl (fun ls hl => ?_)
  refine lv_aload_n hx hb dL_law_1245 rfl (lv_at hl 4 rfl) ?_
  refine vp_callSi (va_Run.run (va_runV (As := []) (rest := []) ⟨hx, hb, hml, hown, hts⟩ (c_X5_thrown l D cy h adM u2.1 u2.2) (cwV 0 hts gL_law_X5_thrown rfl rfl rfl (by decide +kernel) ⟨Nat.le_of_ble_eq_true rfl, Nat.le_of_ble_eq_true rfl⟩) ⟨rB_blind, va_recv hK (fr_P2 hP) (ci := 5) (q0 := 0) rfl rfl, (rB_pre (fr_P2 hP) hK)⟩ rfl rfl hl.1 rfl (lv_room (Nat.le_of_ble_eq_true rfl)) dL_law_1246 ⟨(by show _ ≤ 601024; omega), (by show _ ≤ 7293034; omega)⟩)) (fun r3 hr3 => ?_)
  refine lv_iload hx hb dL_law_1249 (lv_at hl 1 rfl) ?_
  have he : r3 = r := hr3.trans (hw2.1.trans hw.1.symm)
  refine lv_icmp_eq (tgt := 1256) hx hb dL_law_1251 (by decide) (fun _ => ?_) (fun c1 => absurd he c1)
  have hI2 : LI D cy s q h o adM H locs := ⟨(sp_may Y (xs (i + 1)) (xs (i + 2))).2.2, u.1, u.2, u2.1, u2.2, hw.2.2, WF_may hY _ _, hw2.2.2, hP, hD, hS⟩
  refine lv_iload hx hb dL_law_1256 (lv_at hl 1 rfl) ?_
  refine lv_if_ne (tgt := 1280) hx hb dL_law_1258 (by decide) (fun _ => ?_) (fun c2 => ?_)
  · exact lv_goto (tgt := 1893) hx hb dL_law_1280 (by decide) (kk _ _ _ hI2 (lv_sub hl [2, 3, 4, 5, 6] rfl))
  have h0 : (sp_may Y (xs (i + 1)) (xs (i + 2))).1 = 0 := c_zero hw.1 (sb_may) (by decide) c2
  refine lv_aload_n hx hb dL_law_1261 rfl (lv_at hl 5 rfl) ?_
  refine lv_iconst (v := 0) hx hb dL_law_1262 (by decide) ?_
  refine va_lald hx hb hK hP u.1.length 2 (fr_L (fr_get _ _)) rfl (i := 0) (by unfold vp_in; decide) dL_law_1263 ?_
  refine lv_iload hx hb dL_law_1264 (lv_at hl 0 rfl) ?_
  refine g_nzl hx hb dL_law_1266 dL_law_1269 dL_law_1270 dL_law_1273 ?_
  refine W.lcmp hx hb dL_law_1274 ?_
  refine g_top (y := 0) (by rw [show u.2 (0 : Int32).toNatClampNeg = _ from hw.2.1 h0, hw2.2.1 h0]; exact lc_self _) ?_
  refine lv_if_eq (tgt := 1280) hx hb dL_law_1275 (by decide) (fun _ => ?_) (fun c3 => absurd rfl c3)
  exact lv_goto (tgt := 1893) hx hb dL_law_1280 (by decide) (kk _ _ _ hI2 (lv_sub hl [2, 3, 4, 5, 6] rfl))
set_option maxHeartbeats 4000000 in
set_option maxRecDepth 100000 in
theorem law_tell {p : Program} {l : Launch} {e : Env} {s : State} {m : MethodId} {below : List Frame} {meth : Method} {c : Code} {b L : Nat} {xs : Nat → Int32} {D : va_G} {cy : Nat → ClassId} {sa : Nat → Nat} (hlt : l.stackTraces = false) (C : LX p s m meth c b L xs D cy sa) (hLb : L ≤ 2560) {q h o : Nat} {adM : Nat → Nat} {cells slots i : Nat} {Q : State → Prop} {H : Heap} {locs : List Loc} {ls : Array Slot} (hc : cells + 10 ≤ 601024) (hs : slots + 300 ≤ 7293034) (hi : i + 5 ≤ L) (hI : LI D cy s q h o adM H locs) (hl : lv_has ls 8 [(0, .ref b), (1, .ref q), (2, .ref h), (3, .ref o), (4, .int (nI i))])
    (kk : ∀ (H : Heap) (locs : List Loc) (ls : Array Slot), LI D cy s q h o adM H locs → lv_has ls 8 [(0, .ref b), (1, .ref q), (2, .ref h), (3, .ref o), (4, .int (nI i))] → W p l e room_1 s m #[Value.ref b] below meth c H locs (cells + 10) (slots + 300) Q (F0 m 1893 ls [])) : W p l e room_1 s m #[Value.ref b] below meth c H locs cells slots Q (F0 m 1283 ls []) := by
  obtain ⟨⟨hx, hb, hr, hml, hown, hts0, hX, hbl, hlocks, hgv⟩, hK, hN, hXE, hZ, hC⟩ := C
  have hown : s.vm.findClass RL = some m.cls := hown
  have hts : ∀ w ∈ wsL_law, w.before #[Value.ref b] s = true := fun w hw => hts0 w (wsL_law_in w hw)
  have hA : ∀ z : Nat, s.heap.size ≤ z → (fun z : Nat => s.heap.size ≤ z) z := fun _ h => h
  have hbA : ¬ (fun z : Nat => s.heap.size ≤ z) b := Nat.not_le.mpr hbl
  obtain ⟨Y, w, f, I, F, hYW, hY, hM, hP, hD, hS⟩ := hI
  refine lv_aload_n hx hb dL_law_1283 rfl (lv_at hl 1 rfl) ?_
  refine g_sc5 hx hb hX hbl hbA hS 1 (by decide) hi hLb (lv_at hl 0 rfl) (lv_at hl 4 rfl) dL_law_1284 dL_law_1285 dL_law_1287 dL_law_1288 dL_law_1289 ?_
  refine g_sc5 hx hb hX hbl hbA hS 2 (by decide) hi hLb (lv_at hl 0 rfl) (lv_at hl 4 rfl) dL_law_1290 dL_law_1291 dL_law_1293 dL_law_1294 dL_law_1295 ?_
  refine g_sc5 hx hb hX hbl hbA hS 3 (by decide) hi hLb (lv_at hl 0 rfl) (lv_at hl 4 rfl) dL_law_1296 dL_law_1297 dL_law_1299 dL_law_1300 dL_law_1301 ?_
  refine lv_aload_n hx hb dL_law_1302 rfl (lv_at hl 3 rfl) ?_
  have hPh := fr_P1 hP
  have hDh := fr_D1 hD
  have hFh := w_free hDh hS hA
  refine va_calli (vx_runSW (As := [.ref q, .int (xs (i + 1)), .int (xs (i + 2)), .int (xs (i + 3)), .ref o]) (rest := []) ⟨hx, hb, hml, hown, hts⟩ (c_L_tell l hlt D cy H.size sa q o w Y hYW hY f (xs (i + 1)) (xs (i + 2)) (xs (i + 3))) (vx_cwSW 5 hts gL_law_L_tell rfl rfl rfl (by decide +kernel) ⟨Nat.le_of_ble_eq_true rfl, Nat.le_of_ble_eq_true rfl⟩) ⟨wL_blind, wL_pre hPh hK hDh hN hXE hZ hS hA hC⟩ rfl rfl hl.1 rfl (lv_room (Nat.le_of_ble_eq_true rfl)) dL_law_1303 ⟨(by show _ ≤ 601024; omega), (by show _ ≤ 7293034; omega)⟩) hS (fun q _ h => hFh q h) hFh (fun r u t9 H locs ht hvm hw hB hz1 hk1 hS => ?_)
  obtain ⟨hP1, hK1, hD1⟩ := hB
  rw [ht] at hP1
  obtain ⟨hP, hD⟩ := fr_J hP hD hk1 hFh hP1 hD1
  refine W.widen (k := cells + 10) (n := slots + 300) (by omega) (by omega) ?_
  refine lv_istore (lv' := [(5, .int r), (0, .ref b), (1, .ref q), (2, .ref h), (3, .ref o), (4, .int (nI i))]) hx hb dL_law_1306 hl (by decide) rfl (fun ls hl => ?_)
  refine lv_aload_n hx hb dL_law_1308 rfl (lv_at hl 3 rfl) ?_
  refine g_sc5 hx hb hX hbl hbA hS 1 (by decide) hi hLb (lv_at hl 1 rfl) (lv_at hl 5 rfl) dL_law_1309 dL_law_1310 dL_law_1312 dL_law_1313 dL_law_1314 ?_
  refine g_sc5 hx hb hX hbl hbA hS 2 (by decide) hi hLb (lv_at hl 1 rfl) (lv_at hl 5 rfl) dL_law_1315 dL_law_1316 dL_law_1318 dL_law_1319 dL_law_1320 ?_
  refine g_sc5 hx hb hX hbl hbA hS 3 (by decide) hi hLb (lv_at hl 1 rfl) (lv_at hl 5 rfl) dL_law_1321 dL_law_1322 dL_law_1324 dL_law_1325 dL_law_1326 ?_
  have hPm := fr_P2 hP
  have hDm := fr_D2 hD
  have hFm := w_free hDm hS hA
  refine va_calli (va_runV (As := [.int (xs (i + 1)), .int (xs (i + 2)), .int (xs (i + 3))]) (rest := []) ⟨hx, hb, hml, hown, hts⟩ (c_X5_tell l D cy H.size h adM I F Y hM hY (xs (i + 1)) (xs (i + 2)) (xs (i + 3))) (cwV 3 hts gL_law_X5_tell rfl rfl rfl (by decide +kernel) ⟨Nat.le_of_ble_eq_true rfl, Nat.le_of_ble_eq_true rfl⟩) ⟨wB_blind, va_recv hK hPm (ci := 5) (q0 := 0) rfl rfl, wB_pre hPm hK hDm⟩ rfl rfl hl.1 rfl (lv_room (Nat.le_of_ble_eq_true rfl)) dL_law_1327 ⟨(by show _ ≤ 601024; omega), (by show _ ≤ 7293034; omega)⟩) hS (fun q _ h => hFm q h) hFm (fun r2 u2 t9 H locs ht hvm hw2 hB hz1 hk1 hS => ?_)
  obtain ⟨hP2, hK2, hD2⟩ := hB
  rw [ht] at hP2
  obtain ⟨hP, hD⟩ := fr_J (fr_sP hP) (fr_sD hD) hk1 hFm hP2 hD2
  have hP := fr_sP hP
  have hD := fr_sD hD
  refine lv_istore (lv' := [(6, .int r2), (5, .int r), (0, .ref b), (1, .ref q), (2, .ref h), (3, .ref o), (4, .int (nI i))]) hx hb dL_law_1330 hl (by decide) rfl (fun ls hl => ?_)
  refine lv_aload_n hx hb dL_law_1332 rfl (lv_at hl 4 rfl) ?_
  refine vp_callSi (va_Run.run (va_runV (As := []) (rest := []) ⟨hx, hb, hml, hown, hts⟩ (c_X5_thrown l D cy h adM u2.1 u2.2) (cwV 0 hts gL_law_X5_thrown rfl rfl rfl (by decide +kernel) ⟨Nat.le_of_ble_eq_true rfl, Nat.le_of_ble_eq_true rfl⟩) ⟨rB_blind, va_recv hK (fr_P2 hP) (ci := 5) (q0 := 0) rfl rfl, (rB_pre (fr_P2 hP) hK)⟩ rfl rfl hl.1 rfl (lv_room (Nat.le_of_ble_eq_true rfl)) dL_law_1333 ⟨(by show _ ≤ 601024; omega), (by show _ ≤ 7293034; omega)⟩)) (fun r3 hr3 => ?_)
  refine lv_iload hx hb dL_law_1336 (lv_at hl 1 rfl) ?_
  have he : r3 = r := hr3.trans (hw2.1.trans hw.1.symm)
  refine lv_icmp_eq (tgt := 1343) hx hb dL_law_1338 (by decide) (fun _ => ?_) (fun c1 => absurd he c1)
  have hI2 : LI D cy s q h o adM H locs := ⟨(sp_tell Y (xs (i + 1)) (xs (i + 2)) (xs (i + 3))).2.2, u.1, u.2, u2.1, u2.2, hw.2.2, WF_tell hY _ _ _, hw2.2.2, hP, hD, hS⟩
  refine lv_iload hx hb dL_law_1343 (lv_at hl 1 rfl) ?_
  refine lv_if_ne (tgt := 1360) hx hb dL_law_1345 (by decide) (fun _ => ?_) (fun c2 => ?_)
  · exact lv_goto (tgt := 1893) hx hb dL_law_1360 (by decide) (kk _ _ _ hI2 (lv_sub hl [2, 3, 4, 5, 6] rfl))
  have h0 : (sp_tell Y (xs (i + 1)) (xs (i + 2)) (xs (i + 3))).1 = 0 := c_zero hw.1 (sb_tell) (by decide) c2
  refine lv_aload_n hx hb dL_law_1348 rfl (lv_at hl 5 rfl) ?_
  refine lv_iconst (v := 0) hx hb dL_law_1349 (by decide) ?_
  refine va_lald hx hb hK hP u.1.length 2 (fr_L (fr_get _ _)) rfl (i := 0) (by unfold vp_in; decide) dL_law_1350 ?_
  refine lv_iload hx hb dL_law_1351 (lv_at hl 0 rfl) ?_
  refine lv_i2l (v := r2.toInt64) hx hb dL_law_1353 rfl ?_
  refine W.lcmp hx hb dL_law_1354 ?_
  refine g_top (y := 0) (by rw [show u.2 (0 : Int32).toNatClampNeg = _ from hw.2.1 h0, hw2.2.1 h0]; exact lc_self _) ?_
  refine lv_if_eq (tgt := 1360) hx hb dL_law_1355 (by decide) (fun _ => ?_) (fun c3 => absurd rfl c3)
  exact lv_goto (tgt := 1893) hx hb dL_law_1360 (by decide) (kk _ _ _ hI2 (lv_sub hl [2, 3, 4, 5, 6] rfl))
set_option maxHeartbeats 4000000 in
set_option maxRecDepth 100000 in
theorem law_held {p : Program} {l : Launch} {e : Env} {s : State} {m : MethodId} {below : List Frame} {meth : Method} {c : Code} {b L : Nat} {xs : Nat → Int32} {D : va_G} {cy : Nat → ClassId} {sa : Nat → Nat} (hlt : l.stackTraces = false) (C : LX p s m meth c b L xs D cy sa) (hLb : L ≤ 2560) {q h o : Nat} {adM : Nat → Nat} {cells slots i : Nat} {Q : State → Prop} {H : Heap} {locs : List Loc} {ls : Array Slot} (hc : cells + 10 ≤ 601024) (hs : slots + 300 ≤ 7293034) (hi : i + 5 ≤ L) (hI : LI D cy s q h o adM H locs) (hl : lv_has ls 8 [(0, .ref b), (1, .ref q), (2, .ref h), (3, .ref o), (4, .int (nI i))])
    (kk : ∀ (H : Heap) (locs : List Loc) (ls : Array Slot), LI D cy s q h o adM H locs → lv_has ls 8 [(0, .ref b), (1, .ref q), (2, .ref h), (3, .ref o), (4, .int (nI i))] → W p l e room_1 s m #[Value.ref b] below meth c H locs (cells + 10) (slots + 300) Q (F0 m 1893 ls [])) : W p l e room_1 s m #[Value.ref b] below meth c H locs cells slots Q (F0 m 1363 ls []) := by
  obtain ⟨⟨hx, hb, hr, hml, hown, hts0, hX, hbl, hlocks, hgv⟩, hK, hN, hXE, hZ, hC⟩ := C
  have hown : s.vm.findClass RL = some m.cls := hown
  have hts : ∀ w ∈ wsL_law, w.before #[Value.ref b] s = true := fun w hw => hts0 w (wsL_law_in w hw)
  have hA : ∀ z : Nat, s.heap.size ≤ z → (fun z : Nat => s.heap.size ≤ z) z := fun _ h => h
  have hbA : ¬ (fun z : Nat => s.heap.size ≤ z) b := Nat.not_le.mpr hbl
  obtain ⟨Y, w, f, I, F, hYW, hY, hM, hP, hD, hS⟩ := hI
  refine lv_aload_n hx hb dL_law_1363 rfl (lv_at hl 1 rfl) ?_
  refine g_sc5 hx hb hX hbl hbA hS 1 (by decide) hi hLb (lv_at hl 0 rfl) (lv_at hl 4 rfl) dL_law_1364 dL_law_1365 dL_law_1367 dL_law_1368 dL_law_1369 ?_
  refine g_sc5 hx hb hX hbl hbA hS 2 (by decide) hi hLb (lv_at hl 0 rfl) (lv_at hl 4 rfl) dL_law_1370 dL_law_1371 dL_law_1373 dL_law_1374 dL_law_1375 ?_
  refine g_sc5 hx hb hX hbl hbA hS 3 (by decide) hi hLb (lv_at hl 0 rfl) (lv_at hl 4 rfl) dL_law_1376 dL_law_1377 dL_law_1379 dL_law_1380 dL_law_1381 ?_
  refine lv_aload_n hx hb dL_law_1382 rfl (lv_at hl 3 rfl) ?_
  have hPh := fr_P1 hP
  have hDh := fr_D1 hD
  have hFh := w_free hDh hS hA
  refine va_calli (vx_runSW (As := [.ref q, .int (xs (i + 1)), .int (xs (i + 2)), .int (xs (i + 3)), .ref o]) (rest := []) ⟨hx, hb, hml, hown, hts⟩ (c_L_held l hlt D cy H.size sa q o w Y hYW hY f (xs (i + 1)) (xs (i + 2)) (xs (i + 3))) (vx_cwSW 5 hts gL_law_L_held rfl rfl rfl (by decide +kernel) ⟨Nat.le_of_ble_eq_true rfl, Nat.le_of_ble_eq_true rfl⟩) ⟨wL_blind, wL_pre hPh hK hDh hN hXE hZ hS hA hC⟩ rfl rfl hl.1 rfl (lv_room (Nat.le_of_ble_eq_true rfl)) dL_law_1383 ⟨(by show _ ≤ 601024; omega), (by show _ ≤ 7293034; omega)⟩) hS (fun q _ h => hFh q h) hFh (fun r u t9 H locs ht hvm hw hB hz1 hk1 hS => ?_)
  obtain ⟨hP1, hK1, hD1⟩ := hB
  rw [ht] at hP1
  obtain ⟨hP, hD⟩ := fr_J hP hD hk1 hFh hP1 hD1
  refine W.widen (k := cells + 10) (n := slots + 300) (by omega) (by omega) ?_
  refine lv_istore (lv' := [(5, .int r), (0, .ref b), (1, .ref q), (2, .ref h), (3, .ref o), (4, .int (nI i))]) hx hb dL_law_1386 hl (by decide) rfl (fun ls hl => ?_)
  refine lv_aload_n hx hb dL_law_1388 rfl (lv_at hl 3 rfl) ?_
  refine g_sc5 hx hb hX hbl hbA hS 1 (by decide) hi hLb (lv_at hl 1 rfl) (lv_at hl 5 rfl) dL_law_1389 dL_law_1390 dL_law_1392 dL_law_1393 dL_law_1394 ?_
  refine g_sc5 hx hb hX hbl hbA hS 2 (by decide) hi hLb (lv_at hl 1 rfl) (lv_at hl 5 rfl) dL_law_1395 dL_law_1396 dL_law_1398 dL_law_1399 dL_law_1400 ?_
  refine g_sc5 hx hb hX hbl hbA hS 3 (by decide) hi hLb (lv_at hl 1 rfl) (lv_at hl 5 rfl) dL_law_1401 dL_law_1402 dL_law_1404 dL_law_1405 dL_law_1406 ?_
  have hPm := fr_P2 hP
  have hDm := fr_D2 hD
  have hFm := w_free hDm hS hA
  refine va_calli (va_runV (As := [.int (xs (i + 1)), .int (xs (i + 2)), .int (xs (i + 3))]) (rest := []) ⟨hx, hb, hml, hown, hts⟩ (c_X5_held l D cy H.size h adM I F Y hM hY (xs (i + 1)) (xs (i + 2)) (xs (i + 3))) (cwV 3 hts gL_law_X5_held rfl rfl rfl (by decide +kernel) ⟨Nat.le_of_ble_eq_true rfl, Nat.le_of_ble_eq_true rfl⟩) ⟨wB_blind, va_recv hK hPm (ci := 5) (q0 := 0) rfl rfl, wB_pre hPm hK hDm⟩ rfl rfl hl.1 rfl (lv_room (Nat.le_of_ble_eq_true rfl)) dL_law_1407 ⟨(by show _ ≤ 601024; omega), (by show _ ≤ 7293034; omega)⟩) hS (fun q _ h => hFm q h) hFm (fun r2 u2 t9 H locs ht hvm hw2 hB hz1 hk1 hS => ?_)
  obtain ⟨hP2, hK2, hD2⟩ := hB
  rw [ht] at hP2
  obtain ⟨hP, hD⟩ := fr_J (fr_sP hP) (fr_sD hD) hk1 hFm hP2 hD2
  have hP := fr_sP hP
  have hD := fr_sD hD
  refine lv_istore (lv' := [(6, .int r2), (5, .int r), (0, .ref b), (1, .ref q), (2, .ref h), (3, .ref o), (4, .int (nI i))]) hx hb dL_law_1410 hl (by decide) rfl (fun ls hl => ?_)
  refine lv_aload_n hx hb dL_law_1412 rfl (lv_at hl 4 rfl) ?_
  refine vp_callSi (va_Run.run (va_runV (As := []) (rest := []) ⟨hx, hb, hml, hown, hts⟩ (c_X5_thrown l D cy h adM u2.1 u2.2) (cwV 0 hts gL_law_X5_thrown rfl rfl rfl (by decide +kernel) ⟨Nat.le_of_ble_eq_true rfl, Nat.le_of_ble_eq_true rfl⟩) ⟨rB_blind, va_recv hK (fr_P2 hP) (ci := 5) (q0 := 0) rfl rfl, (rB_pre (fr_P2 hP) hK)⟩ rfl rfl hl.1 rfl (lv_room (Nat.le_of_ble_eq_true rfl)) dL_law_1413 ⟨(by show _ ≤ 601024; omega), (by show _ ≤ 7293034; omega)⟩)) (fun r3 hr3 => ?_)
  refine lv_iload hx hb dL_law_1416 (lv_at hl 1 rfl) ?_
  have he : r3 = r := hr3.trans (hw2.1.trans hw.1.symm)
  refine lv_icmp_eq (tgt := 1423) hx hb dL_law_1418 (by decide) (fun _ => ?_) (fun c1 => absurd he c1)
  have hI2 : LI D cy s q h o adM H locs := ⟨(sp_held Y (xs (i + 1)) (xs (i + 2)) (xs (i + 3))).2.2, u.1, u.2, u2.1, u2.2, hw.2.2, WF_held hY _ _ _, hw2.2.2, hP, hD, hS⟩
  refine lv_iload hx hb dL_law_1423 (lv_at hl 1 rfl) ?_
  refine lv_if_ne (tgt := 1440) hx hb dL_law_1425 (by decide) (fun _ => ?_) (fun c2 => ?_)
  · exact lv_goto (tgt := 1893) hx hb dL_law_1440 (by decide) (kk _ _ _ hI2 (lv_sub hl [2, 3, 4, 5, 6] rfl))
  have h0 : (sp_held Y (xs (i + 1)) (xs (i + 2)) (xs (i + 3))).1 = 0 := c_zero hw.1 (sb_held) (by decide) c2
  refine lv_aload_n hx hb dL_law_1428 rfl (lv_at hl 5 rfl) ?_
  refine lv_iconst (v := 0) hx hb dL_law_1429 (by decide) ?_
  refine va_lald hx hb hK hP u.1.length 2 (fr_L (fr_get _ _)) rfl (i := 0) (by unfold vp_in; decide) dL_law_1430 ?_
  refine lv_iload hx hb dL_law_1431 (lv_at hl 0 rfl) ?_
  refine lv_i2l (v := r2.toInt64) hx hb dL_law_1433 rfl ?_
  refine W.lcmp hx hb dL_law_1434 ?_
  refine g_top (y := 0) (by rw [show u.2 (0 : Int32).toNatClampNeg = _ from hw.2.1 h0, hw2.2.1 h0]; exact lc_self _) ?_
  refine lv_if_eq (tgt := 1440) hx hb dL_law_1435 (by decide) (fun _ => ?_) (fun c3 => absurd rfl c3)
  exact lv_goto (tgt := 1893) hx hb dL_law_1440 (by decide) (kk _ _ _ hI2 (lv_sub hl [2, 3, 4, 5, 6] rfl))
set_option maxHeartbeats 4000000 in
set_option maxRecDepth 100000 in
theorem law_lacks {p : Program} {l : Launch} {e : Env} {s : State} {m : MethodId} {below : List Frame} {meth : Method} {c : Code} {b L : Nat} {xs : Nat → Int32} {D : va_G} {cy : Nat → ClassId} {sa : Nat → Nat} (hlt : l.stackTraces = false) (C : LX p s m meth c b L xs D cy sa) (hLb : L ≤ 2560) {q h o : Nat} {adM : Nat → Nat} {cells slots i : Nat} {Q : State → Prop} {H : Heap} {locs : List Loc} {ls : Array Slot} (hc : cells + 10 ≤ 601024) (hs : slots + 300 ≤ 7293034) (hi : i + 5 ≤ L) (hI : LI D cy s q h o adM H locs) (hl : lv_has ls 8 [(0, .ref b), (1, .ref q), (2, .ref h), (3, .ref o), (4, .int (nI i))])
    (kk : ∀ (H : Heap) (locs : List Loc) (ls : Array Slot), LI D cy s q h o adM H locs → lv_has ls 8 [(0, .ref b), (1, .ref q), (2, .ref h), (3, .ref o), (4, .int (nI i))] → W p l e room_1 s m #[Value.ref b] below meth c H locs (cells + 10) (slots + 300) Q (F0 m 1893 ls [])) : W p l e room_1 s m #[Value.ref b] below meth c H locs cells slots Q (F0 m 1443 ls []) := by
  obtain ⟨⟨hx, hb, hr, hml, hown, hts0, hX, hbl, hlocks, hgv⟩, hK, hN, hXE, hZ, hC⟩ := C
  have hown : s.vm.findClass RL = some m.cls := hown
  have hts : ∀ w ∈ wsL_law, w.before #[Value.ref b] s = true := fun w hw => hts0 w (wsL_law_in w hw)
  have hA : ∀ z : Nat, s.heap.size ≤ z → (fun z : Nat => s.heap.size ≤ z) z := fun _ h => h
  have hbA : ¬ (fun z : Nat => s.heap.size ≤ z) b := Nat.not_le.mpr hbl
  obtain ⟨Y, w, f, I, F, hYW, hY, hM, hP, hD, hS⟩ := hI
  refine lv_aload_n hx hb dL_law_1443 rfl (lv_at hl 1 rfl) ?_
  refine g_sc5 hx hb hX hbl hbA hS 1 (by decide) hi hLb (lv_at hl 0 rfl) (lv_at hl 4 rfl) dL_law_1444 dL_law_1445 dL_law_1447 dL_law_1448 dL_law_1449 ?_
  refine g_sc5 hx hb hX hbl hbA hS 2 (by decide) hi hLb (lv_at hl 0 rfl) (lv_at hl 4 rfl) dL_law_1450 dL_law_1451 dL_law_1453 dL_law_1454 dL_law_1455 ?_
  refine g_sc5 hx hb hX hbl hbA hS 3 (by decide) hi hLb (lv_at hl 0 rfl) (lv_at hl 4 rfl) dL_law_1456 dL_law_1457 dL_law_1459 dL_law_1460 dL_law_1461 ?_
  refine g_sc5 hx hb hX hbl hbA hS 4 (by decide) hi hLb (lv_at hl 0 rfl) (lv_at hl 4 rfl) dL_law_1462 dL_law_1463 dL_law_1465 dL_law_1466 dL_law_1467 ?_
  refine lv_aload_n hx hb dL_law_1468 rfl (lv_at hl 3 rfl) ?_
  have hPh := fr_P1 hP
  have hDh := fr_D1 hD
  have hFh := w_free hDh hS hA
  refine va_calli (vx_runSW (As := [.ref q, .int (xs (i + 1)), .int (xs (i + 2)), .int (xs (i + 3)), .int (xs (i + 4)), .ref o]) (rest := []) ⟨hx, hb, hml, hown, hts⟩ (c_L_lacks l hlt D cy H.size sa q o w Y hYW hY f (xs (i + 1)) (xs (i + 2)) (xs (i + 3)) (xs (i + 4))) (vx_cwSW 6 hts gL_law_L_lacks rfl rfl rfl (by decide +kernel) ⟨Nat.le_of_ble_eq_true rfl, Nat.le_of_ble_eq_true rfl⟩) ⟨wL_blind, wL_pre hPh hK hDh hN hXE hZ hS hA hC⟩ rfl rfl hl.1 rfl (lv_room (Nat.le_of_ble_eq_true rfl)) dL_law_1469 ⟨(by show _ ≤ 601024; omega), (by show _ ≤ 7293034; omega)⟩) hS (fun q _ h => hFh q h) hFh (fun r u t9 H locs ht hvm hw hB hz1 hk1 hS => ?_)
  obtain ⟨hP1, hK1, hD1⟩ := hB
  rw [ht] at hP1
  obtain ⟨hP, hD⟩ := fr_J hP hD hk1 hFh hP1 hD1
  refine W.widen (k := cells + 10) (n := slots + 300) (by omega) (by omega) ?_
  refine lv_istore (lv' := [(5, .int r), (0, .ref b), (1, .ref q), (2, .ref h), (3, .ref o), (4, .int (nI i))]) hx hb dL_law_1472 hl (by decide) rfl (fun ls hl => ?_)
  refine lv_aload_n hx hb dL_law_1474 rfl (lv_at hl 3 rfl) ?_
  refine g_sc5 hx hb hX hbl hbA hS 1 (by decide) hi hLb (lv_at hl 1 rfl) (lv_at hl 5 rfl) dL_law_1475 dL_law_1476 dL_law_1478 dL_law_1479 dL_law_1480 ?_
  refine g_sc5 hx hb hX hbl hbA hS 2 (by decide) hi hLb (lv_at hl 1 rfl) (lv_at hl 5 rfl) dL_law_1481 dL_law_1482 dL_law_1484 dL_law_1485 dL_law_1486 ?_
  refine g_sc5 hx hb hX hbl hbA hS 3 (by decide) hi hLb (lv_at hl 1 rfl) (lv_at hl 5 rfl) dL_law_1487 dL_law_1488 dL_law_1490 dL_law_1491 dL_law_1492 ?_
  refine g_sc5 hx hb hX hbl hbA hS 4 (by decide) hi hLb (lv_at hl 1 rfl) (lv_at hl 5 rfl) dL_law_1493 dL_law_1494 dL_law_1496 dL_law_1497 dL_law_1498 ?_
  have hPm := fr_P2 hP
  have hDm := fr_D2 hD
  have hFm := w_free hDm hS hA
  refine va_calli (va_runV (As := [.int (xs (i + 1)), .int (xs (i + 2)), .int (xs (i + 3)), .int (xs (i + 4))]) (rest := []) ⟨hx, hb, hml, hown, hts⟩ (c_X5_lacks l D cy H.size h adM I F Y hM hY (xs (i + 1)) (xs (i + 2)) (xs (i + 3)) (xs (i + 4))) (cwV 4 hts gL_law_X5_lacks rfl rfl rfl (by decide +kernel) ⟨Nat.le_of_ble_eq_true rfl, Nat.le_of_ble_eq_true rfl⟩) ⟨wB_blind, va_recv hK hPm (ci := 5) (q0 := 0) rfl rfl, wB_pre hPm hK hDm⟩ rfl rfl hl.1 rfl (lv_room (Nat.le_of_ble_eq_true rfl)) dL_law_1499 ⟨(by show _ ≤ 601024; omega), (by show _ ≤ 7293034; omega)⟩) hS (fun q _ h => hFm q h) hFm (fun r2 u2 t9 H locs ht hvm hw2 hB hz1 hk1 hS => ?_)
  obtain ⟨hP2, hK2, hD2⟩ := hB
  rw [ht] at hP2
  obtain ⟨hP, hD⟩ := fr_J (fr_sP hP) (fr_sD hD) hk1 hFm hP2 hD2
  have hP := fr_sP hP
  have hD := fr_sD hD
  refine lv_istore (lv' := [(6, .int r2), (5, .int r), (0, .ref b), (1, .ref q), (2, .ref h), (3, .ref o), (4, .int (nI i))]) hx hb dL_law_1502 hl (by decide) rfl (fun ls hl => ?_)
  refine lv_aload_n hx hb dL_law_1504 rfl (lv_at hl 4 rfl) ?_
  refine vp_callSi (va_Run.run (va_runV (As := []) (rest := []) ⟨hx, hb, hml, hown, hts⟩ (c_X5_thrown l D cy h adM u2.1 u2.2) (cwV 0 hts gL_law_X5_thrown rfl rfl rfl (by decide +kernel) ⟨Nat.le_of_ble_eq_true rfl, Nat.le_of_ble_eq_true rfl⟩) ⟨rB_blind, va_recv hK (fr_P2 hP) (ci := 5) (q0 := 0) rfl rfl, (rB_pre (fr_P2 hP) hK)⟩ rfl rfl hl.1 rfl (lv_room (Nat.le_of_ble_eq_true rfl)) dL_law_1505 ⟨(by show _ ≤ 601024; omega), (by show _ ≤ 7293034; omega)⟩)) (fun r3 hr3 => ?_)
  refine lv_iload hx hb dL_law_1508 (lv_at hl 1 rfl) ?_
  have he : r3 = r := hr3.trans (hw2.1.trans hw.1.symm)
  refine lv_icmp_eq (tgt := 1515) hx hb dL_law_1510 (by decide) (fun _ => ?_) (fun c1 => absurd he c1)
  have hI2 : LI D cy s q h o adM H locs := ⟨(sp_lacks Y (xs (i + 1)) (xs (i + 2)) (xs (i + 3)) (xs (i + 4))).2.2, u.1, u.2, u2.1, u2.2, hw.2.2, WF_lacks hY _ _ _ _, hw2.2.2, hP, hD, hS⟩
  refine lv_iload hx hb dL_law_1515 (lv_at hl 1 rfl) ?_
  refine lv_if_ne (tgt := 1532) hx hb dL_law_1517 (by decide) (fun _ => ?_) (fun c2 => ?_)
  · exact lv_goto (tgt := 1893) hx hb dL_law_1532 (by decide) (kk _ _ _ hI2 (lv_sub hl [2, 3, 4, 5, 6] rfl))
  have h0 : (sp_lacks Y (xs (i + 1)) (xs (i + 2)) (xs (i + 3)) (xs (i + 4))).1 = 0 := c_zero hw.1 (sb_lacks) (by decide) c2
  refine lv_aload_n hx hb dL_law_1520 rfl (lv_at hl 5 rfl) ?_
  refine lv_iconst (v := 0) hx hb dL_law_1521 (by decide) ?_
  refine va_lald hx hb hK hP u.1.length 2 (fr_L (fr_get _ _)) rfl (i := 0) (by unfold vp_in; decide) dL_law_1522 ?_
  refine lv_iload hx hb dL_law_1523 (lv_at hl 0 rfl) ?_
  refine lv_i2l (v := r2.toInt64) hx hb dL_law_1525 rfl ?_
  refine W.lcmp hx hb dL_law_1526 ?_
  refine g_top (y := 0) (by rw [show u.2 (0 : Int32).toNatClampNeg = _ from hw.2.1 h0, hw2.2.1 h0]; exact lc_self _) ?_
  refine lv_if_eq (tgt := 1532) hx hb dL_law_1527 (by decide) (fun _ => ?_) (fun c3 => absurd rfl c3)
  exact lv_goto (tgt := 1893) hx hb dL_law_1532 (by decide) (kk _ _ _ hI2 (lv_sub hl [2, 3, 4, 5, 6] rfl))
set_option maxHeartbeats 4000000 in
set_option maxRecDepth 100000 in
theorem law_swap {p : Program} {l : Launch} {e : Env} {s : State} {m : MethodId} {below : List Frame} {meth : Method} {c : Code} {b L : Nat} {xs : Nat → Int32} {D : va_G} {cy : Nat → ClassId} {sa : Nat → Nat} (hlt : l.stackTraces = false) (C : LX p s m meth c b L xs D cy sa) (hLb : L ≤ 2560) {q h o : Nat} {adM : Nat → Nat} {cells slots i : Nat} {Q : State → Prop} {H : Heap} {locs : List Loc} {ls : Array Slot} (hc : cells + 10 ≤ 601024) (hs : slots + 300 ≤ 7293034) (hi : i + 5 ≤ L) (hI : LI D cy s q h o adM H locs) (hl : lv_has ls 8 [(0, .ref b), (1, .ref q), (2, .ref h), (3, .ref o), (4, .int (nI i))])
    (kk : ∀ (H : Heap) (locs : List Loc) (ls : Array Slot), LI D cy s q h o adM H locs → lv_has ls 8 [(0, .ref b), (1, .ref q), (2, .ref h), (3, .ref o), (4, .int (nI i))] → W p l e room_1 s m #[Value.ref b] below meth c H locs (cells + 10) (slots + 300) Q (F0 m 1893 ls [])) : W p l e room_1 s m #[Value.ref b] below meth c H locs cells slots Q (F0 m 1535 ls []) := by
  obtain ⟨⟨hx, hb, hr, hml, hown, hts0, hX, hbl, hlocks, hgv⟩, hK, hN, hXE, hZ, hC⟩ := C
  have hown : s.vm.findClass RL = some m.cls := hown
  have hts : ∀ w ∈ wsL_law, w.before #[Value.ref b] s = true := fun w hw => hts0 w (wsL_law_in w hw)
  have hA : ∀ z : Nat, s.heap.size ≤ z → (fun z : Nat => s.heap.size ≤ z) z := fun _ h => h
  have hbA : ¬ (fun z : Nat => s.heap.size ≤ z) b := Nat.not_le.mpr hbl
  obtain ⟨Y, w, f, I, F, hYW, hY, hM, hP, hD, hS⟩ := hI
  refine lv_aload_n hx hb dL_law_1535 rfl (lv_at hl 1 rfl) ?_
  refine g_sc5 hx hb hX hbl hbA hS 1 (by decide) hi hLb (lv_at hl 0 rfl) (lv_at hl 4 rfl) dL_law_1536 dL_law_1537 dL_law_1539 dL_law_1540 dL_law_1541 ?_
  refine g_sc5 hx hb hX hbl hbA hS 2 (by decide) hi hLb (lv_at hl 0 rfl) (lv_at hl 4 rfl) dL_law_1542 dL_law_1543 dL_law_1545 dL_law_1546 dL_law_1547 ?_
  refine g_sc5 hx hb hX hbl hbA hS 3 (by decide) hi hLb (lv_at hl 0 rfl) (lv_at hl 4 rfl) dL_law_1548 dL_law_1549 dL_law_1551 dL_law_1552 dL_law_1553 ?_
  refine g_sc5 hx hb hX hbl hbA hS 4 (by decide) hi hLb (lv_at hl 0 rfl) (lv_at hl 4 rfl) dL_law_1554 dL_law_1555 dL_law_1557 dL_law_1558 dL_law_1559 ?_
  refine lv_aload_n hx hb dL_law_1560 rfl (lv_at hl 3 rfl) ?_
  have hPh := fr_P1 hP
  have hDh := fr_D1 hD
  have hFh := w_free hDh hS hA
  refine va_calli (vx_runSW (As := [.ref q, .int (xs (i + 1)), .int (xs (i + 2)), .int (xs (i + 3)), .int (xs (i + 4)), .ref o]) (rest := []) ⟨hx, hb, hml, hown, hts⟩ (c_L_swap l hlt D cy H.size sa q o w Y hYW hY f (xs (i + 1)) (xs (i + 2)) (xs (i + 3)) (xs (i + 4))) (vx_cwSW 6 hts gL_law_L_swap rfl rfl rfl (by decide +kernel) ⟨Nat.le_of_ble_eq_true rfl, Nat.le_of_ble_eq_true rfl⟩) ⟨wL_blind, wL_pre hPh hK hDh hN hXE hZ hS hA hC⟩ rfl rfl hl.1 rfl (lv_room (Nat.le_of_ble_eq_true rfl)) dL_law_1561 ⟨(by show _ ≤ 601024; omega), (by show _ ≤ 7293034; omega)⟩) hS (fun q _ h => hFh q h) hFh (fun r u t9 H locs ht hvm hw hB hz1 hk1 hS => ?_)
  obtain ⟨hP1, hK1, hD1⟩ := hB
  rw [ht] at hP1
  obtain ⟨hP, hD⟩ := fr_J hP hD hk1 hFh hP1 hD1
  refine W.widen (k := cells + 10) (n := slots + 300) (by omega) (by omega) ?_
  refine lv_istore (lv' := [(5, .int r), (0, .ref b), (1, .ref q), (2, .ref h), (3, .ref o), (4, .int (nI i))]) hx hb dL_law_1564 hl (by decide) rfl (fun ls hl => ?_)
  refine lv_aload_n hx hb dL_law_1566 rfl (lv_at hl 3 rfl) ?_
  refine g_sc5 hx hb hX hbl hbA hS 1 (by decide) hi hLb (lv_at hl 1 rfl) (lv_at hl 5 rfl) dL_law_1567 dL_law_1568 dL_law_1570 dL_law_1571 dL_law_1572 ?_
  refine g_sc5 hx hb hX hbl hbA hS 2 (by decide) hi hLb (lv_at hl 1 rfl) (lv_at hl 5 rfl) dL_law_1573 dL_law_1574 dL_law_1576 dL_law_1577 dL_law_1578 ?_
  refine g_sc5 hx hb hX hbl hbA hS 3 (by decide) hi hLb (lv_at hl 1 rfl) (lv_at hl 5 rfl) dL_law_1579 dL_law_1580 dL_law_1582 dL_law_1583 dL_law_1584 ?_
  refine g_sc5 hx hb hX hbl hbA hS 4 (by decide) hi hLb (lv_at hl 1 rfl) (lv_at hl 5 rfl) dL_law_1585 dL_law_1586 dL_law_1588 dL_law_1589 dL_law_1590 ?_
  have hPm := fr_P2 hP
  have hDm := fr_D2 hD
  have hFm := w_free hDm hS hA
  refine va_calli (va_runV (As := [.int (xs (i + 1)), .int (xs (i + 2)), .int (xs (i + 3)), .int (xs (i + 4))]) (rest := []) ⟨hx, hb, hml, hown, hts⟩ (c_X5_swap l D cy H.size h adM I F Y hM hY (xs (i + 1)) (xs (i + 2)) (xs (i + 3)) (xs (i + 4))) (cwV 4 hts gL_law_X5_swap rfl rfl rfl (by decide +kernel) ⟨Nat.le_of_ble_eq_true rfl, Nat.le_of_ble_eq_true rfl⟩) ⟨wB_blind, va_recv hK hPm (ci := 5) (q0 := 0) rfl rfl, wB_pre hPm hK hDm⟩ rfl rfl hl.1 rfl (lv_room (Nat.le_of_ble_eq_true rfl)) dL_law_1591 ⟨(by show _ ≤ 601024; omega), (by show _ ≤ 7293034; omega)⟩) hS (fun q _ h => hFm q h) hFm (fun r2 u2 t9 H locs ht hvm hw2 hB hz1 hk1 hS => ?_)
  obtain ⟨hP2, hK2, hD2⟩ := hB
  rw [ht] at hP2
  obtain ⟨hP, hD⟩ := fr_J (fr_sP hP) (fr_sD hD) hk1 hFm hP2 hD2
  have hP := fr_sP hP
  have hD := fr_sD hD
  refine lv_istore (lv' := [(6, .int r2), (5, .int r), (0, .ref b), (1, .ref q), (2, .ref h), (3, .ref o), (4, .int (nI i))]) hx hb dL_law_1594 hl (by decide) rfl (fun ls hl => ?_)
  refine lv_aload_n hx hb dL_law_1596 rfl (lv_at hl 4 rfl) ?_
  refine vp_callSi (va_Run.run (va_runV (As := []) (rest := []) ⟨hx, hb, hml, hown, hts⟩ (c_X5_thrown l D cy h adM u2.1 u2.2) (cwV 0 hts gL_law_X5_thrown rfl rfl rfl (by decide +kernel) ⟨Nat.le_of_ble_eq_true rfl, Nat.le_of_ble_eq_true rfl⟩) ⟨rB_blind, va_recv hK (fr_P2 hP) (ci := 5) (q0 := 0) rfl rfl, (rB_pre (fr_P2 hP) hK)⟩ rfl rfl hl.1 rfl (lv_room (Nat.le_of_ble_eq_true rfl)) dL_law_1597 ⟨(by show _ ≤ 601024; omega), (by show _ ≤ 7293034; omega)⟩)) (fun r3 hr3 => ?_)
  refine lv_iload hx hb dL_law_1600 (lv_at hl 1 rfl) ?_
  have he : r3 = r := hr3.trans (hw2.1.trans hw.1.symm)
  refine lv_icmp_eq (tgt := 1607) hx hb dL_law_1602 (by decide) (fun _ => ?_) (fun c1 => absurd he c1)
  have hI2 : LI D cy s q h o adM H locs := ⟨(sp_swap Y (xs (i + 1)) (xs (i + 2)) (xs (i + 3)) (xs (i + 4))).2.2, u.1, u.2, u2.1, u2.2, hw.2.2, WF_swap hY _ _ _ _, hw2.2.2, hP, hD, hS⟩
  refine lv_iload hx hb dL_law_1607 (lv_at hl 1 rfl) ?_
  refine lv_if_ne (tgt := 1631) hx hb dL_law_1609 (by decide) (fun _ => ?_) (fun c2 => ?_)
  · exact lv_goto (tgt := 1893) hx hb dL_law_1631 (by decide) (kk _ _ _ hI2 (lv_sub hl [2, 3, 4, 5, 6] rfl))
  have h0 : (sp_swap Y (xs (i + 1)) (xs (i + 2)) (xs (i + 3)) (xs (i + 4))).1 = 0 := c_zero hw.1 (sb_swap) (by decide) c2
  refine lv_aload_n hx hb dL_law_1612 rfl (lv_at hl 5 rfl) ?_
  refine lv_iconst (v := 0) hx hb dL_law_1613 (by decide) ?_
  refine va_lald hx hb hK hP u.1.length 2 (fr_L (fr_get _ _)) rfl (i := 0) (by unfold vp_in; decide) dL_law_1614 ?_
  refine lv_iload hx hb dL_law_1615 (lv_at hl 0 rfl) ?_
  refine g_nzl hx hb dL_law_1617 dL_law_1620 dL_law_1621 dL_law_1624 ?_
  refine W.lcmp hx hb dL_law_1625 ?_
  refine g_top (y := 0) (by rw [show u.2 (0 : Int32).toNatClampNeg = _ from hw.2.1 h0, hw2.2.1 h0]; exact lc_self _) ?_
  refine lv_if_eq (tgt := 1631) hx hb dL_law_1626 (by decide) (fun _ => ?_) (fun c3 => absurd rfl c3)
  exact lv_goto (tgt := 1893) hx hb dL_law_1631 (by decide) (kk _ _ _ hI2 (lv_sub hl [2, 3, 4, 5, 6] rfl))
set_option maxHeartbeats 4000000 in
set_option maxRecDepth 100000 in
theorem law_renew {p : Program} {l : Launch} {e : Env} {s : State} {m : MethodId} {below : List Frame} {meth : Method} {c : Code} {b L : Nat} {xs : Nat → Int32} {D : va_G} {cy : Nat → ClassId} {sa : Nat → Nat} (hlt : l.stackTraces = false) (C : LX p s m meth c b L xs D cy sa) (hLb : L ≤ 2560) {q h o : Nat} {adM : Nat → Nat} {cells slots i : Nat} {Q : State → Prop} {H : Heap} {locs : List Loc} {ls : Array Slot} (hc : cells + 10 ≤ 601024) (hs : slots + 300 ≤ 7293034) (hi : i + 5 ≤ L) (hI : LI D cy s q h o adM H locs) (hl : lv_has ls 8 [(0, .ref b), (1, .ref q), (2, .ref h), (3, .ref o), (4, .int (nI i))])
    (kk : ∀ (H : Heap) (locs : List Loc) (ls : Array Slot), LI D cy s q h o adM H locs → lv_has ls 8 [(0, .ref b), (1, .ref q), (2, .ref h), (3, .ref o), (4, .int (nI i))] → W p l e room_1 s m #[Value.ref b] below meth c H locs (cells + 10) (slots + 300) Q (F0 m 1893 ls [])) : W p l e room_1 s m #[Value.ref b] below meth c H locs cells slots Q (F0 m 1634 ls []) := by
  obtain ⟨⟨hx, hb, hr, hml, hown, hts0, hX, hbl, hlocks, hgv⟩, hK, hN, hXE, hZ, hC⟩ := C
  have hown : s.vm.findClass RL = some m.cls := hown
  have hts : ∀ w ∈ wsL_law, w.before #[Value.ref b] s = true := fun w hw => hts0 w (wsL_law_in w hw)
  have hA : ∀ z : Nat, s.heap.size ≤ z → (fun z : Nat => s.heap.size ≤ z) z := fun _ h => h
  have hbA : ¬ (fun z : Nat => s.heap.size ≤ z) b := Nat.not_le.mpr hbl
  obtain ⟨Y, w, f, I, F, hYW, hY, hM, hP, hD, hS⟩ := hI
  refine lv_aload_n hx hb dL_law_1634 rfl (lv_at hl 1 rfl) ?_
  refine g_sc5 hx hb hX hbl hbA hS 1 (by decide) hi hLb (lv_at hl 0 rfl) (lv_at hl 4 rfl) dL_law_1635 dL_law_1636 dL_law_1638 dL_law_1639 dL_law_1640 ?_
  refine g_sc5 hx hb hX hbl hbA hS 2 (by decide) hi hLb (lv_at hl 0 rfl) (lv_at hl 4 rfl) dL_law_1641 dL_law_1642 dL_law_1644 dL_law_1645 dL_law_1646 ?_
  refine lv_aload_n hx hb dL_law_1647 rfl (lv_at hl 3 rfl) ?_
  have hPh := fr_P1 hP
  have hDh := fr_D1 hD
  have hFh := w_free hDh hS hA
  refine va_calli (vx_runSW (As := [.ref q, .int (xs (i + 1)), .int (xs (i + 2)), .ref o]) (rest := []) ⟨hx, hb, hml, hown, hts⟩ (c_L_renew l hlt D cy H.size sa q o w Y hYW hY f (xs (i + 1)) (xs (i + 2))) (vx_cwSW 4 hts gL_law_L_renew rfl rfl rfl (by decide +kernel) ⟨Nat.le_of_ble_eq_true rfl, Nat.le_of_ble_eq_true rfl⟩) ⟨wL_blind, wL_pre hPh hK hDh hN hXE hZ hS hA hC⟩ rfl rfl hl.1 rfl (lv_room (Nat.le_of_ble_eq_true rfl)) dL_law_1648 ⟨(by show _ ≤ 601024; omega), (by show _ ≤ 7293034; omega)⟩) hS (fun q _ h => hFh q h) hFh (fun r u t9 H locs ht hvm hw hB hz1 hk1 hS => ?_)
  obtain ⟨hP1, hK1, hD1⟩ := hB
  rw [ht] at hP1
  obtain ⟨hP, hD⟩ := fr_J hP hD hk1 hFh hP1 hD1
  refine W.widen (k := cells + 10) (n := slots + 300) (by omega) (by omega) ?_
  refine lv_istore (lv' := [(5, .int r), (0, .ref b), (1, .ref q), (2, .ref h), (3, .ref o), (4, .int (nI i))]) hx hb dL_law_1651 hl (by decide) rfl (fun ls hl => ?_)
  refine lv_aload_n hx hb dL_law_1653 rfl (lv_at hl 3 rfl) ?_
  refine g_sc5 hx hb hX hbl hbA hS 1 (by decide) hi hLb (lv_at hl 1 rfl) (lv_at hl 5 rfl) dL_law_1654 dL_law_1655 dL_law_1657 dL_law_1658 dL_law_1659 ?_
  refine g_sc5 hx hb hX hbl hbA hS 2 (by decide) hi hLb (lv_at hl 1 rfl) (lv_at hl 5 rfl) dL_law_1660 dL_law_1661 dL_law_1663 dL_law_1664 dL_law_1665 ?_
  have hPm := fr_P2 hP
  have hDm := fr_D2 hD
  have hFm := w_free hDm hS hA
  refine va_calli (va_runV (As := [.int (xs (i + 1)), .int (xs (i + 2))]) (rest := []) ⟨hx, hb, hml, hown, hts⟩ (c_X5_renew l D cy H.size h adM I F Y hM hY (xs (i + 1)) (xs (i + 2))) (cwV 2 hts gL_law_X5_renew rfl rfl rfl (by decide +kernel) ⟨Nat.le_of_ble_eq_true rfl, Nat.le_of_ble_eq_true rfl⟩) ⟨wB_blind, va_recv hK hPm (ci := 5) (q0 := 0) rfl rfl, wB_pre hPm hK hDm⟩ rfl rfl hl.1 rfl (lv_room (Nat.le_of_ble_eq_true rfl)) dL_law_1666 ⟨(by show _ ≤ 601024; omega), (by show _ ≤ 7293034; omega)⟩) hS (fun q _ h => hFm q h) hFm (fun r2 u2 t9 H locs ht hvm hw2 hB hz1 hk1 hS => ?_)
  obtain ⟨hP2, hK2, hD2⟩ := hB
  rw [ht] at hP2
  obtain ⟨hP, hD⟩ := fr_J (fr_sP hP) (fr_sD hD) hk1 hFm hP2 hD2
  have hP := fr_sP hP
  have hD := fr_sD hD
  refine lv_istore (lv' := [(6, .int r2), (5, .int r), (0, .ref b), (1, .ref q), (2, .ref h), (3, .ref o), (4, .int (nI i))]) hx hb dL_law_1669 hl (by decide) rfl (fun ls hl => ?_)
  refine lv_aload_n hx hb dL_law_1671 rfl (lv_at hl 4 rfl) ?_
  refine vp_callSi (va_Run.run (va_runV (As := []) (rest := []) ⟨hx, hb, hml, hown, hts⟩ (c_X5_thrown l D cy h adM u2.1 u2.2) (cwV 0 hts gL_law_X5_thrown rfl rfl rfl (by decide +kernel) ⟨Nat.le_of_ble_eq_true rfl, Nat.le_of_ble_eq_true rfl⟩) ⟨rB_blind, va_recv hK (fr_P2 hP) (ci := 5) (q0 := 0) rfl rfl, (rB_pre (fr_P2 hP) hK)⟩ rfl rfl hl.1 rfl (lv_room (Nat.le_of_ble_eq_true rfl)) dL_law_1672 ⟨(by show _ ≤ 601024; omega), (by show _ ≤ 7293034; omega)⟩)) (fun r3 hr3 => ?_)
  refine lv_iload hx hb dL_law_1675 (lv_at hl 1 rfl) ?_
  have he : r3 = r := hr3.trans (hw2.1.trans hw.1.symm)
  refine lv_icmp_eq (tgt := 1682) hx hb dL_law_1677 (by decide) (fun _ => ?_) (fun c1 => absurd he c1)
  have hI2 : LI D cy s q h o adM H locs := ⟨(sp_renew Y (xs (i + 1)) (xs (i + 2))).2.2, u.1, u.2, u2.1, u2.2, hw.2.2, WF_renew hY _ _, hw2.2.2, hP, hD, hS⟩
  refine lv_iload hx hb dL_law_1682 (lv_at hl 1 rfl) ?_
  refine lv_if_ne (tgt := 1699) hx hb dL_law_1684 (by decide) (fun _ => ?_) (fun c2 => ?_)
  · exact lv_goto (tgt := 1893) hx hb dL_law_1699 (by decide) (kk _ _ _ hI2 (lv_sub hl [2, 3, 4, 5, 6] rfl))
  have h0 : (sp_renew Y (xs (i + 1)) (xs (i + 2))).1 = 0 := c_zero hw.1 (sb_renew) (by decide) c2
  refine lv_aload_n hx hb dL_law_1687 rfl (lv_at hl 5 rfl) ?_
  refine lv_iconst (v := 0) hx hb dL_law_1688 (by decide) ?_
  refine va_lald hx hb hK hP u.1.length 2 (fr_L (fr_get _ _)) rfl (i := 0) (by unfold vp_in; decide) dL_law_1689 ?_
  refine lv_iload hx hb dL_law_1690 (lv_at hl 0 rfl) ?_
  refine lv_i2l (v := r2.toInt64) hx hb dL_law_1692 rfl ?_
  refine W.lcmp hx hb dL_law_1693 ?_
  refine g_top (y := 0) (by rw [show u.2 (0 : Int32).toNatClampNeg = _ from hw.2.1 h0, hw2.2.1 h0]; exact lc_self _) ?_
  refine lv_if_eq (tgt := 1699) hx hb dL_law_1694 (by decide) (fun _ => ?_) (fun c3 => absurd rfl c3)
  exact lv_goto (tgt := 1893) hx hb dL_law_1699 (by decide) (kk _ _ _ hI2 (lv_sub hl [2, 3, 4, 5, 6] rfl))
set_option maxHeartbeats 4000000 in
set_option maxRecDepth 100000 in
theorem law_weight {p : Program} {l : Launch} {e : Env} {s : State} {m : MethodId} {below : List Frame} {meth : Method} {c : Code} {b L : Nat} {xs : Nat → Int32} {D : va_G} {cy : Nat → ClassId} {sa : Nat → Nat} (hlt : l.stackTraces = false) (C : LX p s m meth c b L xs D cy sa) (hLb : L ≤ 2560) {q h o : Nat} {adM : Nat → Nat} {cells slots i : Nat} {Q : State → Prop} {H : Heap} {locs : List Loc} {ls : Array Slot} (hc : cells + 10 ≤ 601024) (hs : slots + 300 ≤ 7293034) (hi : i + 5 ≤ L) (hI : LI D cy s q h o adM H locs) (hl : lv_has ls 8 [(0, .ref b), (1, .ref q), (2, .ref h), (3, .ref o), (4, .int (nI i))])
    (kk : ∀ (H : Heap) (locs : List Loc) (ls : Array Slot), LI D cy s q h o adM H locs → lv_has ls 8 [(0, .ref b), (1, .ref q), (2, .ref h), (3, .ref o), (4, .int (nI i))] → W p l e room_1 s m #[Value.ref b] below meth c H locs (cells + 10) (slots + 300) Q (F0 m 1893 ls [])) : W p l e room_1 s m #[Value.ref b] below meth c H locs cells slots Q (F0 m 1702 ls []) := by
  obtain ⟨⟨hx, hb, hr, hml, hown, hts0, hX, hbl, hlocks, hgv⟩, hK, hN, hXE, hZ, hC⟩ := C
  have hown : s.vm.findClass RL = some m.cls := hown
  have hts : ∀ w ∈ wsL_law, w.before #[Value.ref b] s = true := fun w hw => hts0 w (wsL_law_in w hw)
  have hA : ∀ z : Nat, s.heap.size ≤ z → (fun z : Nat => s.heap.size ≤ z) z := fun _ h => h
  have hbA : ¬ (fun z : Nat => s.heap.size ≤ z) b := Nat.not_le.mpr hbl
  obtain ⟨Y, w, f, I, F, hYW, hY, hM, hP, hD, hS⟩ := hI
  refine lv_aload_n hx hb dL_law_1702 rfl (lv_at hl 1 rfl) ?_
  refine g_sc5 hx hb hX hbl hbA hS 1 (by decide) hi hLb (lv_at hl 0 rfl) (lv_at hl 4 rfl) dL_law_1703 dL_law_1704 dL_law_1706 dL_law_1707 dL_law_1708 ?_
  refine g_sc5 hx hb hX hbl hbA hS 2 (by decide) hi hLb (lv_at hl 0 rfl) (lv_at hl 4 rfl) dL_law_1709 dL_law_1710 dL_law_1712 dL_law_1713 dL_law_1714 ?_
  refine lv_aload_n hx hb dL_law_1715 rfl (lv_at hl 3 rfl) ?_
  have hPh := fr_P1 hP
  have hDh := fr_D1 hD
  have hFh := w_free hDh hS hA
  refine va_calli (vx_runSW (As := [.ref q, .int (xs (i + 1)), .int (xs (i + 2)), .ref o]) (rest := []) ⟨hx, hb, hml, hown, hts⟩ (c_L_weight l hlt D cy H.size sa q o w Y hYW hY f (xs (i + 1)) (xs (i + 2))) (vx_cwSW 4 hts gL_law_L_weight rfl rfl rfl (by decide +kernel) ⟨Nat.le_of_ble_eq_true rfl, Nat.le_of_ble_eq_true rfl⟩) ⟨wL_blind, wL_pre hPh hK hDh hN hXE hZ hS hA hC⟩ rfl rfl hl.1 rfl (lv_room (Nat.le_of_ble_eq_true rfl)) dL_law_1716 ⟨(by show _ ≤ 601024; omega), (by show _ ≤ 7293034; omega)⟩) hS (fun q _ h => hFh q h) hFh (fun r u t9 H locs ht hvm hw hB hz1 hk1 hS => ?_)
  obtain ⟨hP1, hK1, hD1⟩ := hB
  rw [ht] at hP1
  obtain ⟨hP, hD⟩ := fr_J hP hD hk1 hFh hP1 hD1
  refine W.widen (k := cells + 10) (n := slots + 300) (by omega) (by omega) ?_
  refine lv_istore (lv' := [(5, .int r), (0, .ref b), (1, .ref q), (2, .ref h), (3, .ref o), (4, .int (nI i))]) hx hb dL_law_1719 hl (by decide) rfl (fun ls hl => ?_)
  refine lv_aload_n hx hb dL_law_1721 rfl (lv_at hl 3 rfl) ?_
  refine g_sc5 hx hb hX hbl hbA hS 1 (by decide) hi hLb (lv_at hl 1 rfl) (lv_at hl 5 rfl) dL_law_1722 dL_law_1723 dL_law_1725 dL_law_1726 dL_law_1727 ?_
  refine g_sc5 hx hb hX hbl hbA hS 2 (by decide) hi hLb (lv_at hl 1 rfl) (lv_at hl 5 rfl) dL_law_1728 dL_law_1729 dL_law_1731 dL_law_1732 dL_law_1733 ?_
  have hPm := fr_P2 hP
  have hDm := fr_D2 hD
  have hFm := w_free hDm hS hA
  refine va_calli (va_runV (As := [.int (xs (i + 1)), .int (xs (i + 2))]) (rest := []) ⟨hx, hb, hml, hown, hts⟩ (c_X5_weight l D cy H.size h adM I F Y hM hY (xs (i + 1)) (xs (i + 2))) (cwV 2 hts gL_law_X5_weight rfl rfl rfl (by decide +kernel) ⟨Nat.le_of_ble_eq_true rfl, Nat.le_of_ble_eq_true rfl⟩) ⟨wB_blind, va_recv hK hPm (ci := 5) (q0 := 0) rfl rfl, wB_pre hPm hK hDm⟩ rfl rfl hl.1 rfl (lv_room (Nat.le_of_ble_eq_true rfl)) dL_law_1734 ⟨(by show _ ≤ 601024; omega), (by show _ ≤ 7293034; omega)⟩) hS (fun q _ h => hFm q h) hFm (fun r2 u2 t9 H locs ht hvm hw2 hB hz1 hk1 hS => ?_)
  obtain ⟨hP2, hK2, hD2⟩ := hB
  rw [ht] at hP2
  obtain ⟨hP, hD⟩ := fr_J (fr_sP hP) (fr_sD hD) hk1 hFm hP2 hD2
  have hP := fr_sP hP
  have hD := fr_sD hD
  refine lv_istore (lv' := [(6, .int r2), (5, .int r), (0, .ref b), (1, .ref q), (2, .ref h), (3, .ref o), (4, .int (nI i))]) hx hb dL_law_1737 hl (by decide) rfl (fun ls hl => ?_)
  refine lv_aload_n hx hb dL_law_1739 rfl (lv_at hl 4 rfl) ?_
  refine vp_callSi (va_Run.run (va_runV (As := []) (rest := []) ⟨hx, hb, hml, hown, hts⟩ (c_X5_thrown l D cy h adM u2.1 u2.2) (cwV 0 hts gL_law_X5_thrown rfl rfl rfl (by decide +kernel) ⟨Nat.le_of_ble_eq_true rfl, Nat.le_of_ble_eq_true rfl⟩) ⟨rB_blind, va_recv hK (fr_P2 hP) (ci := 5) (q0 := 0) rfl rfl, (rB_pre (fr_P2 hP) hK)⟩ rfl rfl hl.1 rfl (lv_room (Nat.le_of_ble_eq_true rfl)) dL_law_1740 ⟨(by show _ ≤ 601024; omega), (by show _ ≤ 7293034; omega)⟩)) (fun r3 hr3 => ?_)
  refine lv_iload hx hb dL_law_1743 (lv_at hl 1 rfl) ?_
  have he : r3 = r := hr3.trans (hw2.1.trans hw.1.symm)
  refine lv_icmp_eq (tgt := 1750) hx hb dL_law_1745 (by decide) (fun _ => ?_) (fun c1 => absurd he c1)
  have hI2 : LI D cy s q h o adM H locs := ⟨(sp_weight Y (xs (i + 1)) (xs (i + 2))).2.2, u.1, u.2, u2.1, u2.2, hw.2.2, WF_weight hY _ _, hw2.2.2, hP, hD, hS⟩
  refine lv_iload hx hb dL_law_1750 (lv_at hl 1 rfl) ?_
  refine lv_if_ne (tgt := 1767) hx hb dL_law_1752 (by decide) (fun _ => ?_) (fun c2 => ?_)
  · exact lv_goto (tgt := 1893) hx hb dL_law_1767 (by decide) (kk _ _ _ hI2 (lv_sub hl [2, 3, 4, 5, 6] rfl))
  have h0 : (sp_weight Y (xs (i + 1)) (xs (i + 2))).1 = 0 := c_zero hw.1 (sb_weight) (by decide) c2
  refine lv_aload_n hx hb dL_law_1755 rfl (lv_at hl 5 rfl) ?_
  refine lv_iconst (v := 0) hx hb dL_law_1756 (by decide) ?_
  refine va_lald hx hb hK hP u.1.length 2 (fr_L (fr_get _ _)) rfl (i := 0) (by unfold vp_in; decide) dL_law_1757 ?_
  refine lv_iload hx hb dL_law_1758 (lv_at hl 0 rfl) ?_
  refine lv_i2l (v := r2.toInt64) hx hb dL_law_1760 rfl ?_
  refine W.lcmp hx hb dL_law_1761 ?_
  refine g_top (y := 0) (by rw [show u.2 (0 : Int32).toNatClampNeg = _ from hw.2.1 h0, hw2.2.1 h0]; exact lc_self _) ?_
  refine lv_if_eq (tgt := 1767) hx hb dL_law_1762 (by decide) (fun _ => ?_) (fun c3 => absurd rfl c3)
  exact lv_goto (tgt := 1893) hx hb dL_law_1767 (by decide) (kk _ _ _ hI2 (lv_sub hl [2, 3, 4, 5, 6] rfl))
set_option maxHeartbeats 4000000 in
set_option maxRecDepth 100000 in
theorem law_weighs {p : Program} {l : Launch} {e : Env} {s : State} {m : MethodId} {below : List Frame} {meth : Method} {c : Code} {b L : Nat} {xs : Nat → Int32} {D : va_G} {cy : Nat → ClassId} {sa : Nat → Nat} (hlt : l.stackTraces = false) (C : LX p s m meth c b L xs D cy sa) (hLb : L ≤ 2560) {q h o : Nat} {adM : Nat → Nat} {cells slots i : Nat} {Q : State → Prop} {H : Heap} {locs : List Loc} {ls : Array Slot} (hc : cells + 10 ≤ 601024) (hs : slots + 300 ≤ 7293034) (hi : i + 5 ≤ L) (hI : LI D cy s q h o adM H locs) (hl : lv_has ls 8 [(0, .ref b), (1, .ref q), (2, .ref h), (3, .ref o), (4, .int (nI i))])
    (kk : ∀ (H : Heap) (locs : List Loc) (ls : Array Slot), LI D cy s q h o adM H locs → lv_has ls 8 [(0, .ref b), (1, .ref q), (2, .ref h), (3, .ref o), (4, .int (nI i))] → W p l e room_1 s m #[Value.ref b] below meth c H locs (cells + 10) (slots + 300) Q (F0 m 1893 ls [])) : W p l e room_1 s m #[Value.ref b] below meth c H locs cells slots Q (F0 m 1770 ls []) := by
  obtain ⟨⟨hx, hb, hr, hml, hown, hts0, hX, hbl, hlocks, hgv⟩, hK, hN, hXE, hZ, hC⟩ := C
  have hown : s.vm.findClass RL = some m.cls := hown
  have hts : ∀ w ∈ wsL_law, w.before #[Value.ref b] s = true := fun w hw => hts0 w (wsL_law_in w hw)
  have hA : ∀ z : Nat, s.heap.size ≤ z → (fun z : Nat => s.heap.size ≤ z) z := fun _ h => h
  have hbA : ¬ (fun z : Nat => s.heap.size ≤ z) b := Nat.not_le.mpr hbl
  obtain ⟨Y, w, f, I, F, hYW, hY, hM, hP, hD, hS⟩ := hI
  refine lv_aload_n hx hb dL_law_1770 rfl (lv_at hl 1 rfl) ?_
  refine g_sc5 hx hb hX hbl hbA hS 1 (by decide) hi hLb (lv_at hl 0 rfl) (lv_at hl 4 rfl) dL_law_1771 dL_law_1772 dL_law_1774 dL_law_1775 dL_law_1776 ?_
  refine g_sc5 hx hb hX hbl hbA hS 2 (by decide) hi hLb (lv_at hl 0 rfl) (lv_at hl 4 rfl) dL_law_1777 dL_law_1778 dL_law_1780 dL_law_1781 dL_law_1782 ?_
  refine lv_aload_n hx hb dL_law_1783 rfl (lv_at hl 3 rfl) ?_
  have hPh := fr_P1 hP
  have hDh := fr_D1 hD
  have hFh := w_free hDh hS hA
  refine va_calli (vx_runSW (As := [.ref q, .int (xs (i + 1)), .int (xs (i + 2)), .ref o]) (rest := []) ⟨hx, hb, hml, hown, hts⟩ (c_L_weighs l hlt D cy H.size sa q o w Y hYW hY f (xs (i + 1)) (xs (i + 2))) (vx_cwSW 4 hts gL_law_L_weighs rfl rfl rfl (by decide +kernel) ⟨Nat.le_of_ble_eq_true rfl, Nat.le_of_ble_eq_true rfl⟩) ⟨wL_blind, wL_pre hPh hK hDh hN hXE hZ hS hA hC⟩ rfl rfl hl.1 rfl (lv_room (Nat.le_of_ble_eq_true rfl)) dL_law_1784 ⟨(by show _ ≤ 601024; omega), (by show _ ≤ 7293034; omega)⟩) hS (fun q _ h => hFh q h) hFh (fun r u t9 H locs ht hvm hw hB hz1 hk1 hS => ?_)
  obtain ⟨hP1, hK1, hD1⟩ := hB
  rw [ht] at hP1
  obtain ⟨hP, hD⟩ := fr_J hP hD hk1 hFh hP1 hD1
  refine W.widen (k := cells + 10) (n := slots + 300) (by omega) (by omega) ?_
  refine lv_istore (lv' := [(5, .int r), (0, .ref b), (1, .ref q), (2, .ref h), (3, .ref o), (4, .int (nI i))]) hx hb dL_law_1787 hl (by decide) rfl (fun ls hl => ?_)
  refine lv_aload_n hx hb dL_law_1789 rfl (lv_at hl 3 rfl) ?_
  refine g_sc5 hx hb hX hbl hbA hS 1 (by decide) hi hLb (lv_at hl 1 rfl) (lv_at hl 5 rfl) dL_law_1790 dL_law_1791 dL_law_1793 dL_law_1794 dL_law_1795 ?_
  refine g_sc5 hx hb hX hbl hbA hS 2 (by decide) hi hLb (lv_at hl 1 rfl) (lv_at hl 5 rfl) dL_law_1796 dL_law_1797 dL_law_1799 dL_law_1800 dL_law_1801 ?_
  have hPm := fr_P2 hP
  have hDm := fr_D2 hD
  have hFm := w_free hDm hS hA
  refine va_calll (va_runV (As := [.int (xs (i + 1)), .int (xs (i + 2))]) (rest := []) ⟨hx, hb, hml, hown, hts⟩ (c_X5_weighs l D cy H.size h adM I F Y hM hY (xs (i + 1)) (xs (i + 2))) (cwV 2 hts gL_law_X5_weighs rfl rfl rfl (by decide +kernel) ⟨Nat.le_of_ble_eq_true rfl, Nat.le_of_ble_eq_true rfl⟩) ⟨wB_blind, va_recv hK hPm (ci := 5) (q0 := 0) rfl rfl, wB_pre hPm hK hDm⟩ rfl rfl hl.1 rfl (lv_room (Nat.le_of_ble_eq_true rfl)) dL_law_1802 ⟨(by show _ ≤ 601024; omega), (by show _ ≤ 7293034; omega)⟩) hS (fun q _ h => hFm q h) hFm (fun r2 u2 t9 H locs ht hvm hw2 hB hz1 hk1 hS => ?_)
  obtain ⟨hP2, hK2, hD2⟩ := hB
  rw [ht] at hP2
  obtain ⟨hP, hD⟩ := fr_J (fr_sP hP) (fr_sD hD) hk1 hFm hP2 hD2
  have hP := fr_sP hP
  have hD := fr_sD hD
  refine lv_lstore (lv' := [(6, .long r2), (5, .int r), (0, .ref b), (1, .ref q), (2, .ref h), (3, .ref o), (4, .int (nI i))]) hx hb dL_law_1805 hl (by decide) rfl (fun ls hl => ?_)
  refine lv_aload_n hx hb dL_law_1807 rfl (lv_at hl 4 rfl) ?_
  refine vp_callSi (va_Run.run (va_runV (As := []) (rest := []) ⟨hx, hb, hml, hown, hts⟩ (c_X5_thrown l D cy h adM u2.1 u2.2) (cwV 0 hts gL_law_X5_thrown rfl rfl rfl (by decide +kernel) ⟨Nat.le_of_ble_eq_true rfl, Nat.le_of_ble_eq_true rfl⟩) ⟨rB_blind, va_recv hK (fr_P2 hP) (ci := 5) (q0 := 0) rfl rfl, (rB_pre (fr_P2 hP) hK)⟩ rfl rfl hl.1 rfl (lv_room (Nat.le_of_ble_eq_true rfl)) dL_law_1808 ⟨(by show _ ≤ 601024; omega), (by show _ ≤ 7293034; omega)⟩)) (fun r3 hr3 => ?_)
  refine lv_iload hx hb dL_law_1811 (lv_at hl 1 rfl) ?_
  have he : r3 = r := hr3.trans (hw2.1.trans hw.1.symm)
  refine lv_icmp_eq (tgt := 1818) hx hb dL_law_1813 (by decide) (fun _ => ?_) (fun c1 => absurd he c1)
  have hI2 : LI D cy s q h o adM H locs := ⟨(sp_weighs Y (xs (i + 1)) (xs (i + 2))).2.2, u.1, u.2, u2.1, u2.2, hw.2.2, WF_weighs hY _ _, hw2.2.2, hP, hD, hS⟩
  refine lv_iload hx hb dL_law_1818 (lv_at hl 1 rfl) ?_
  refine lv_if_ne (tgt := 1834) hx hb dL_law_1820 (by decide) (fun _ => ?_) (fun c2 => ?_)
  · exact lv_goto (tgt := 1893) hx hb dL_law_1834 (by decide) (kk _ _ _ hI2 (lv_sub hl [2, 3, 4, 5, 6] rfl))
  have h0 : (sp_weighs Y (xs (i + 1)) (xs (i + 2))).1 = 0 := c_zero hw.1 (sb_weighs) (by decide) c2
  refine lv_aload_n hx hb dL_law_1823 rfl (lv_at hl 5 rfl) ?_
  refine lv_iconst (v := 0) hx hb dL_law_1824 (by decide) ?_
  refine va_lald hx hb hK hP u.1.length 2 (fr_L (fr_get _ _)) rfl (i := 0) (by unfold vp_in; decide) dL_law_1825 ?_
  refine lv_lload hx hb dL_law_1826 (lv_at hl 0 rfl) ?_
  refine W.lcmp hx hb dL_law_1828 ?_
  refine g_top (y := 0) (by rw [show u.2 (0 : Int32).toNatClampNeg = _ from hw.2.1 h0, hw2.2.1 h0]; exact lc_self _) ?_
  refine lv_if_eq (tgt := 1834) hx hb dL_law_1829 (by decide) (fun _ => ?_) (fun c3 => absurd rfl c3)
  exact lv_goto (tgt := 1893) hx hb dL_law_1834 (by decide) (kk _ _ _ hI2 (lv_sub hl [2, 3, 4, 5, 6] rfl))
set_option maxHeartbeats 4000000 in
set_option maxRecDepth 100000 in
theorem law_count {p : Program} {l : Launch} {e : Env} {s : State} {m : MethodId} {below : List Frame} {meth : Method} {c : Code} {b L : Nat} {xs : Nat → Int32} {D : va_G} {cy : Nat → ClassId} {sa : Nat → Nat} (hlt : l.stackTraces = false) (C : LX p s m meth c b L xs D cy sa) (hLb : L ≤ 2560) {q h o : Nat} {adM : Nat → Nat} {cells slots i : Nat} {Q : State → Prop} {H : Heap} {locs : List Loc} {ls : Array Slot} (hc : cells + 10 ≤ 601024) (hs : slots + 300 ≤ 7293034) (hi : i + 5 ≤ L) (hI : LI D cy s q h o adM H locs) (hl : lv_has ls 8 [(0, .ref b), (1, .ref q), (2, .ref h), (3, .ref o), (4, .int (nI i))])
    (kk : ∀ (H : Heap) (locs : List Loc) (ls : Array Slot), LI D cy s q h o adM H locs → lv_has ls 8 [(0, .ref b), (1, .ref q), (2, .ref h), (3, .ref o), (4, .int (nI i))] → W p l e room_1 s m #[Value.ref b] below meth c H locs (cells + 10) (slots + 300) Q (F0 m 1893 ls [])) : W p l e room_1 s m #[Value.ref b] below meth c H locs cells slots Q (F0 m 1837 ls []) := by
  obtain ⟨⟨hx, hb, hr, hml, hown, hts0, hX, hbl, hlocks, hgv⟩, hK, hN, hXE, hZ, hC⟩ := C
  have hown : s.vm.findClass RL = some m.cls := hown
  have hts : ∀ w ∈ wsL_law, w.before #[Value.ref b] s = true := fun w hw => hts0 w (wsL_law_in w hw)
  have hA : ∀ z : Nat, s.heap.size ≤ z → (fun z : Nat => s.heap.size ≤ z) z := fun _ h => h
  have hbA : ¬ (fun z : Nat => s.heap.size ≤ z) b := Nat.not_le.mpr hbl
  obtain ⟨Y, w, f, I, F, hYW, hY, hM, hP, hD, hS⟩ := hI
  refine lv_aload_n hx hb dL_law_1837 rfl (lv_at hl 1 rfl) ?_
  refine g_sc5 hx hb hX hbl hbA hS 1 (by decide) hi hLb (lv_at hl 0 rfl) (lv_at hl 4 rfl) dL_law_1838 dL_law_1839 dL_law_1841 dL_law_1842 dL_law_1843 ?_
  refine lv_aload_n hx hb dL_law_1844 rfl (lv_at hl 3 rfl) ?_
  have hPh := fr_P1 hP
  have hDh := fr_D1 hD
  have hFh := w_free hDh hS hA
  refine va_calli (vx_runSW (As := [.ref q, .int (xs (i + 1)), .ref o]) (rest := []) ⟨hx, hb, hml, hown, hts⟩ (c_L_count l hlt D cy H.size sa q o w Y hYW hY f (xs (i + 1))) (vx_cwSW 3 hts gL_law_L_count rfl rfl rfl (by decide +kernel) ⟨Nat.le_of_ble_eq_true rfl, Nat.le_of_ble_eq_true rfl⟩) ⟨wL_blind, wL_pre hPh hK hDh hN hXE hZ hS hA hC⟩ rfl rfl hl.1 rfl (lv_room (Nat.le_of_ble_eq_true rfl)) dL_law_1845 ⟨(by show _ ≤ 601024; omega), (by show _ ≤ 7293034; omega)⟩) hS (fun q _ h => hFh q h) hFh (fun r u t9 H locs ht hvm hw hB hz1 hk1 hS => ?_)
  obtain ⟨hP1, hK1, hD1⟩ := hB
  rw [ht] at hP1
  obtain ⟨hP, hD⟩ := fr_J hP hD hk1 hFh hP1 hD1
  refine W.widen (k := cells + 10) (n := slots + 300) (by omega) (by omega) ?_
  refine lv_istore (lv' := [(5, .int r), (0, .ref b), (1, .ref q), (2, .ref h), (3, .ref o), (4, .int (nI i))]) hx hb dL_law_1848 hl (by decide) rfl (fun ls hl => ?_)
  refine lv_aload_n hx hb dL_law_1850 rfl (lv_at hl 3 rfl) ?_
  refine g_sc5 hx hb hX hbl hbA hS 1 (by decide) hi hLb (lv_at hl 1 rfl) (lv_at hl 5 rfl) dL_law_1851 dL_law_1852 dL_law_1854 dL_law_1855 dL_law_1856 ?_
  have hPm := fr_P2 hP
  have hDm := fr_D2 hD
  have hFm := w_free hDm hS hA
  refine va_calli (va_runV (As := [.int (xs (i + 1))]) (rest := []) ⟨hx, hb, hml, hown, hts⟩ (c_X5_count l D cy H.size h adM I F Y hM hY (xs (i + 1))) (cwV 1 hts gL_law_X5_count rfl rfl rfl (by decide +kernel) ⟨Nat.le_of_ble_eq_true rfl, Nat.le_of_ble_eq_true rfl⟩) ⟨wB_blind, va_recv hK hPm (ci := 5) (q0 := 0) rfl rfl, wB_pre hPm hK hDm⟩ rfl rfl hl.1 rfl (lv_room (Nat.le_of_ble_eq_true rfl)) dL_law_1857 ⟨(by show _ ≤ 601024; omega), (by show _ ≤ 7293034; omega)⟩) hS (fun q _ h => hFm q h) hFm (fun r2 u2 t9 H locs ht hvm hw2 hB hz1 hk1 hS => ?_)
  obtain ⟨hP2, hK2, hD2⟩ := hB
  rw [ht] at hP2
  obtain ⟨hP, hD⟩ := fr_J (fr_sP hP) (fr_sD hD) hk1 hFm hP2 hD2
  have hP := fr_sP hP
  have hD := fr_sD hD
  refine lv_istore (lv' := [(6, .int r2), (5, .int r), (0, .ref b), (1, .ref q), (2, .ref h), (3, .ref o), (4, .int (nI i))]) hx hb dL_law_1860 hl (by decide) rfl (fun ls hl => ?_)
  refine lv_aload_n hx hb dL_law_1862 rfl (lv_at hl 4 rfl) ?_
  refine vp_callSi (va_Run.run (va_runV (As := []) (rest := []) ⟨hx, hb, hml, hown, hts⟩ (c_X5_thrown l D cy h adM u2.1 u2.2) (cwV 0 hts gL_law_X5_thrown rfl rfl rfl (by decide +kernel) ⟨Nat.le_of_ble_eq_true rfl, Nat.le_of_ble_eq_true rfl⟩) ⟨rB_blind, va_recv hK (fr_P2 hP) (ci := 5) (q0 := 0) rfl rfl, (rB_pre (fr_P2 hP) hK)⟩ rfl rfl hl.1 rfl (lv_room (Nat.le_of_ble_eq_true rfl)) dL_law_1863 ⟨(by show _ ≤ 601024; omega), (by show _ ≤ 7293034; omega)⟩)) (fun r3 hr3 => ?_)
  refine lv_iload hx hb dL_law_1866 (lv_at hl 1 rfl) ?_
  have he : r3 = r := hr3.trans (hw2.1.trans hw.1.symm)
  refine lv_icmp_eq (tgt := 1873) hx hb dL_law_1868 (by decide) (fun _ => ?_) (fun c1 => absurd he c1)
  have hI2 : LI D cy s q h o adM H locs := ⟨(sp_count Y (xs (i + 1))).2.2, u.1, u.2, u2.1, u2.2, hw.2.2, WF_count hY _, hw2.2.2, hP, hD, hS⟩
  refine lv_iload hx hb dL_law_1873 (lv_at hl 1 rfl) ?_
  refine lv_if_ne (tgt := 1890) hx hb dL_law_1875 (by decide) (fun _ => ?_) (fun c2 => ?_)
  · exact lv_goto (tgt := 1893) hx hb dL_law_1890 (by decide) (kk _ _ _ hI2 (lv_sub hl [2, 3, 4, 5, 6] rfl))
  have h0 : (sp_count Y (xs (i + 1))).1 = 0 := c_zero hw.1 (sb_count) (by decide) c2
  refine lv_aload_n hx hb dL_law_1878 rfl (lv_at hl 5 rfl) ?_
  refine lv_iconst (v := 0) hx hb dL_law_1879 (by decide) ?_
  refine va_lald hx hb hK hP u.1.length 2 (fr_L (fr_get _ _)) rfl (i := 0) (by unfold vp_in; decide) dL_law_1880 ?_
  refine lv_iload hx hb dL_law_1881 (lv_at hl 0 rfl) ?_
  refine lv_i2l (v := r2.toInt64) hx hb dL_law_1883 rfl ?_
  refine W.lcmp hx hb dL_law_1884 ?_
  refine g_top (y := 0) (by rw [show u.2 (0 : Int32).toNatClampNeg = _ from hw.2.1 h0, hw2.2.1 h0]; exact lc_self _) ?_
  refine lv_if_eq (tgt := 1890) hx hb dL_law_1885 (by decide) (fun _ => ?_) (fun c3 => absurd rfl c3)
  exact lv_goto (tgt := 1893) hx hb dL_law_1890 (by decide) (kk _ _ _ hI2 (lv_sub hl [2, 3, 4, 5, 6] rfl))
