set_option maxHeartbeats 4000000 in
set_option maxRecDepth 100000 in
theorem c_X3_fewestSet (l : Launch) (D : va_G) (cy : Nat → ClassId) (sz : Nat) (K : List Nat) (ad : Nat → Nat) (E : Nat → va_E) (h6 : 6 ∈ K) (nr bl : Nat) (PP : List (Nat × Nat × Nat)) (hE6 : E 6 = .inr (3, [.ref ((ad (7))), .ref ((ad (8))), .ref ((ad (9))), .ref ((ad (10))), .ref ((ad (11))), .ref ((ad (12))), .ref ((ad (13))), .ref ((ad (14))), .ref ((ad (15))), .ref ((ad (16))), .ref ((ad (17))), .int (nI (bl)), .int (nI (PP.length)), .int (nI (nr))])) (h8 : 8 ∈ K) (f8 : Nat → Int32) (hE8 : E 8 = .inl (cy 0, 32, .inl (f8))) (h11 : 11 ∈ K) (f11 : Nat → Int32) (hE11 : E 11 = .inl (cy 0, 32, .inl (f11))) (h12 : 12 ∈ K) (f12 : Nat → Int32) (hE12 : E 12 = .inl (cy 0, 32, .inl (f12))) (h13 : 13 ∈ K) (f13 : Nat → Int32) (hE13 : E 13 = .inl (cy 0, 32, .inl (f13))) (h14 : 14 ∈ K) (f14 : Nat → Int32) (hE14 : E 14 = .inl (cy 0, 32, .inl (f14))) (h15 : 15 ∈ K) (f15 : Nat → Int32) (hE15 : E 15 = .inl (cy 1, 32, .inl (f15))) (hP32 : PP.length ≤ 32) (hl6 : ∀ i, i < PP.length → lnP PP i ≤ 600) (hnr : 1 ≤ nr ∧ nr ≤ 3000) (SS : List Nat) (hs : srtP nr PP SS) (hR8 : ∀ i, i < PP.length → f8 i = nI (enD PP i).1 ∧ (enD PP i).1 < bl) (hR11 : ∀ i, i < PP.length → f11 i = nI (aWN nr (lnP PP i))) (hR12 : ∀ i, i < PP.length → f12 i = nI (mLN nr (lnP PP i))) (hR13 : ∀ i, i < PP.length → f13 i = nI (lsN nr (lnP PP i))) (hR14 : ∀ i, i < PP.length → f14 i = nI (SS.getD i 0)) (hbl : bl ≤ 8) (wi na : Nat) (hWN : wi + na ≤ 100) : Met l yX3_fewestSet wsX3_fewestSet ({ frames := 2, cells := 0, slots := 0, locals := 67 } : Room) (va_Pc [.ref ((ad (6))), .int (nI (wi)), .int (nI (na))] (wB2 D cy sz (kW K ad E))) (va_Qi (fun (r : Int32) (u : Nat → va_E) => ∃ (f' : Nat → Int32) (b : Nat), u (15) = .inl (cy 1, 32, .inl (f')) ∧ (∀ j_ : Nat, j_ ≠ 15 → u j_ = E j_) ∧ r = nI b ∧ fsP (gvS nr PP wi na) bl b) (fun u t => wE D cy (va_A (kW K ad E) sz) (kW K ad u) t) (va_A (kW K ad E) sz)) 0 0 (va_A (kW K ad E) sz) := by
  refine Met.ofW (cc := cX3_fewestSet) (maxL := 9) (ret := (some .int)) (by decide) rfl ?_
  intro p e s m args below meth c s₁ B hml hv
  obtain ⟨rfl, ⟨hsz, hP, hK, hD0⟩, hN⟩ := hv
  have hx := B.exec
  have hb := B.bytes
  have hr := B.returns
  have hts := atoms_spec (ws := wsX3_fewestSet) B.pre
  have hown : s.vm.findClass RX3 = some m.cls := findClass_of_methodNamed B.named
  have hlocks := B.notSynchronized
  subst hsz
  have hD := hD0.self (sz := s.heap.size)
  generalize hAe : va_A (kW K ad E) s.heap.size = A at hD ⊢
  have hA : ∀ q : Nat, s.heap.size ≤ q → A q := w_A hAe
  have hS : va_S A s.heap s.heap [] := va_S.rf
  have hnd := kW_nd hD
  have hl := lv_entry ([.ref ((ad (6))), .int (nI (wi)), .int (nI (na))]) (n := 9) (Nat.le_of_ble_eq_true rfl)
  rw [lg_entry_eq]
  generalize (lg_sl ([.ref ((ad (6))), .int (nI (wi)), .int (nI (na))]) ++ List.replicate (9 - (lg_sl ([.ref ((ad (6))), .int (nI (wi)), .int (nI (na))])).length) Slot.unset).toArray = ls at hl ⊢
  have hl : lv_has ls 9 [(0, .ref ((ad (6)))), (1, .int (nI (wi))), (2, .int (nI (na)))] := hl
  have hst1 := pow_8 (show 8 - bl ≤ 8 by omega)
  have hst2 := pow_8 hbl
  refine lv_iconst (v := (nI (0))) hx hb dX3_fewestSet_0 (by decide) ?_
  refine lv_istore_n (lv' := [(3, .int (nI (0))), (0, .ref ((ad (6)))), (1, .int (nI (wi))), (2, .int (nI (na)))]) hx hb dX3_fewestSet_1 rfl hl (by decide) rfl (fun ls hl => ?_)
  refine lv_bipush (v := (nI (9))) hx hb dX3_fewestSet_2 (by decide) ?_
  refine lv_istore (lv' := [(4, .int (nI (9))), (3, .int (nI (0))), (0, .ref ((ad (6)))), (1, .int (nI (wi))), (2, .int (nI (na)))]) hx hb dX3_fewestSet_4 hl (by decide) rfl (fun ls hl => ?_)
  refine lv_sipush (v := (nI (256))) hx hb dX3_fewestSet_6 (by decide) ?_
  refine lv_istore (lv' := [(5, .int (nI (256))), (4, .int (nI (9))), (3, .int (nI (0))), (0, .ref ((ad (6)))), (1, .int (nI (wi))), (2, .int (nI (na)))]) hx hb dX3_fewestSet_9 hl (by decide) rfl (fun ls hl => ?_)
  refine lv_iconst (v := (nI (1))) hx hb dX3_fewestSet_11 (by decide) ?_
  refine lv_bipush (v := (nI (8))) hx hb dX3_fewestSet_12 (by decide) ?_
  refine lv_aload_n hx hb dX3_fewestSet_14 rfl (lv_at hl 3 rfl) ?_
  obtain ⟨p1, hp1⟩ := kW_pos h6
  refine va_get (D := D) (ci := 3) (v := .int (nI (bl))) (C := RX3) (T := TX3) (N := 14) hx hb hts (by decide +kernel) hown hK hP p1 (kW_get hp1 hE6) rfl 11 (by decide) (hts (.fieldLink RX3 49 "CaskYard$Saw" "boltsLaid" "I") (by decide +kernel)) (fun _ h9 => h9) rfl dX3_fewestSet_15 ?_
  refine g_isub_n hx hb dX3_fewestSet_18 (by omega) ?_
  refine lv_ishl hx hb dX3_fewestSet_19 ?_
  refine g_top (y := (nI (2 ^ (8 - bl)))) (n_shl1 (by omega)) ?_
  refine lv_istore (lv' := [(6, .int (nI (2 ^ (8 - bl)))), (5, .int (nI (256))), (4, .int (nI (9))), (3, .int (nI (0))), (0, .ref ((ad (6)))), (1, .int (nI (wi))), (2, .int (nI (na)))]) hx hb dX3_fewestSet_20 hl (by decide) rfl (fun ls hl => ?_)
  refine lv_aload_n hx hb dX3_fewestSet_22 rfl (lv_at hl 4 rfl) ?_
  refine lv_iload hx hb dX3_fewestSet_23 (lv_at hl 1 rfl) ?_
  refine lv_iload hx hb dX3_fewestSet_25 (lv_at hl 0 rfl) ?_
  refine g_isub_n hx hb dX3_fewestSet_27 (by omega) ?_
  have hFc := w_free hD hS hA
  obtain ⟨p2, hp2⟩ := kW_pos h6
  refine va_callv (va_runV (As := [.int (nI (256 - (2 ^ (8 - bl))))]) (rest := []) ⟨hx, hb, hml, hown, hts⟩ (c_X3_openSet l D cy s.heap.size K ad E (h6) (nr) (bl) (PP) (hE6) (h8) (f8) (hE8) (h15) (f15) (hE15) (hP32) (hl6) (hnr) (256 - (2 ^ (8 - bl))) (by omega) (fun i hi => ⟨(hR8 i hi).1, by have := (hR8 i hi).2; omega⟩)) (cwV 1 hts gX3_fewestSet_X3_openSet rfl rfl rfl (by decide +kernel) ⟨Nat.le_of_ble_eq_true rfl, Nat.le_of_ble_eq_true rfl⟩) ⟨wB2_blind, va_recv hK hP (ci := 3) (q0 := p2) rfl (kW_get hp2 hE6), wB2_pre hP hK hD hN⟩ rfl rfl hl.1 rfl (lv_room (Nat.le_of_ble_eq_true rfl)) dX3_fewestSet_28 ⟨Nat.le_of_ble_eq_true rfl, Nat.le_of_ble_eq_true rfl⟩) hS (fun q _ h => hFc q h) hFc (fun E_28 t_ H locs ht hvm hw_28 hB _ _ hS => ?_)
  obtain ⟨hP1, hK1, hD1⟩ := hB
  rw [ht] at hP1
  have hP := hP1
  have hD := hD1.weaken (fun _ _ _ h => hFc _ h)
  obtain ⟨f28, k28_0, hO28, ha28⟩ := hw_28
  have fC28_13 : E_28 (6) = .inr (3, [.ref ((ad (7))), .ref ((ad (8))), .ref ((ad (9))), .ref ((ad (10))), .ref ((ad (11))), .ref ((ad (12))), .ref ((ad (13))), .ref ((ad (14))), .ref ((ad (15))), .ref ((ad (16))), .ref ((ad (17))), .int (nI (bl)), .int (nI (PP.length)), .int (nI (nr))]) := (hO28 (6) (by omega)).trans hE6
  have fC28_14 : E_28 (8) = .inl (cy 0, 32, .inl (f8)) := (hO28 (8) (by omega)).trans hE8
  have fC28_20 : E_28 (11) = .inl (cy 0, 32, .inl (f11)) := (hO28 (11) (by omega)).trans hE11
  have fC28_21 : E_28 (12) = .inl (cy 0, 32, .inl (f12)) := (hO28 (12) (by omega)).trans hE12
  have fC28_16 : E_28 (13) = .inl (cy 0, 32, .inl (f13)) := (hO28 (13) (by omega)).trans hE13
  have fC28_17 : E_28 (14) = .inl (cy 0, 32, .inl (f14)) := (hO28 (14) (by omega)).trans hE14
  refine lv_aload_n hx hb dX3_fewestSet_31 rfl (lv_at hl 4 rfl) ?_
  refine lv_iload_n hx hb dX3_fewestSet_32 rfl (lv_at hl 5 rfl) ?_
  refine lv_iload_n hx hb dX3_fewestSet_33 rfl (lv_at hl 6 rfl) ?_
  obtain ⟨p3, hp3⟩ := kW_pos h6
  refine vp_callSi (va_Run.run (va_runV (As := [.int (nI (wi)), .int (nI (na))]) (rest := []) ⟨hx, hb, hml, hown, hts⟩ (c_X3_canGive l D cy K ad E_28 (h6) (nr) (bl) (PP) (fC28_13) (h11) (f11) (fC28_20) (h12) (f12) (fC28_21) (h13) (f13) (fC28_16) (h14) (f14) (fC28_17) (h15) (f28) (k28_0) (hP32) (hl6) (hnr) (bitO PP (256 - 2 ^ (8 - bl))) (SS) (hs) (hR11) (hR12) (hR13) (hR14) (fun i hi => ⟨(ha28 i hi).trans bI_n, bitO_le PP _ i⟩) (wi) (na) (by omega)) (cwV 2 hts gX3_fewestSet_X3_canGive rfl rfl rfl (by decide +kernel) ⟨Nat.le_of_ble_eq_true rfl, Nat.le_of_ble_eq_true rfl⟩) ⟨rB2_blind, va_recv hK hP (ci := 3) (q0 := p3) rfl (kW_get hp3 fC28_13), (rB2_pre hP hK hN)⟩ rfl rfl hl.1 rfl (lv_room (Nat.le_of_ble_eq_true rfl)) dX3_fewestSet_34 ⟨Nat.le_of_ble_eq_true rfl, Nat.le_of_ble_eq_true rfl⟩)) (fun r_34 hr_34 => ?_)
  subst hr_34
  refine g_ifne_b (tgt := 42) hx hb dX3_fewestSet_37 (by decide) (fun c_37 => ?_) (fun c_37 => ?_)
  · skip
    refine lv_iload hx hb dX3_fewestSet_42 (lv_at hl 1 rfl) ?_
    refine lv_iload hx hb dX3_fewestSet_44 (lv_at hl 0 rfl) ?_
    refine g_isub_n hx hb dX3_fewestSet_46 (by omega) ?_
    refine g_top (y := (nI ((2 ^ bl - 1) * 2 ^ (8 - bl)))) (congrArg nI (set_top hbl)) ?_
    refine lv_istore (lv' := [(7, .int (nI ((2 ^ bl - 1) * 2 ^ (8 - bl)))), (6, .int (nI (2 ^ (8 - bl)))), (5, .int (nI (256))), (4, .int (nI (9))), (3, .int (nI (0))), (0, .ref ((ad (6)))), (1, .int (nI (wi))), (2, .int (nI (na)))]) hx hb dX3_fewestSet_47 hl (by decide) rfl (fun ls hl => ?_)
    have loop_49 : ∀ (n_ : Nat) (j : Nat) (best : Nat) (few : Nat) (g9 : Nat → Int32) (Ec : Nat → va_E) (H : Heap) (locs : List Loc), va_P D vwCl (kW K ad Ec) H → va_D A (kW K ad Ec) → va_S A s.heap H locs → (j < 2 ^ bl) → (fsI (gvS nr PP wi na) bl j best few) → (Ec (15) = .inl (cy 1, 32, .inl (g9))) → (∀ j_ : Nat, j_ ≠ 15 → Ec j_ = E_28 j_) → j < n_ → ∀ (ls : Array Slot), lv_has ls 9 [(0, .ref ((ad (6)))), (1, .int (nI (wi))), (2, .int (nI (na))), (3, .int (nI (best))), (4, .int (nI (few))), (6, .int (nI (2 ^ (8 - bl)))), (7, .int (nI (j * 2 ^ (8 - bl))))] → W p l e (headSpec wsX3_fewestSet ({ frames := 2, cells := 0, slots := 0, locals := 67 } : Room)).room s m ([.ref ((ad (6))), .int (nI (wi)), .int (nI (na))] : List Value).toArray below meth c H locs 0 0 (MQ below (va_Qi (fun (r : Int32) (u : Nat → va_E) => ∃ (f' : Nat → Int32) (b : Nat), u (15) = .inl (cy 1, 32, .inl (f')) ∧ (∀ j_ : Nat, j_ ≠ 15 → u j_ = E j_) ∧ r = nI b ∧ fsP (gvS nr PP wi na) bl b) (fun u t => wE D cy A (kW K ad u) t) A) ([.ref ((ad (6))), .int (nI (wi)), .int (nI (na))] : List Value).toArray s 0 0 A) (F0 m 49 ls []) := by
      intro n_
      induction n_ with
      | zero => intro j best few g9 Ec H locs hP hD hS hj hfs hk_49_0 hO_49 hm_; exact absurd hm_ (Nat.not_lt_zero _)
      | succ n_ ih_49 =>
        intro j best few g9 Ec H locs hP hD hS hj hfs hk_49_0 hO_49 hm_ ls hl
        have fL49_13 : Ec (6) = .inr (3, [.ref ((ad (7))), .ref ((ad (8))), .ref ((ad (9))), .ref ((ad (10))), .ref ((ad (11))), .ref ((ad (12))), .ref ((ad (13))), .ref ((ad (14))), .ref ((ad (15))), .ref ((ad (16))), .ref ((ad (17))), .int (nI (bl)), .int (nI (PP.length)), .int (nI (nr))]) := (hO_49 (6) (by omega)).trans fC28_13
        have fL49_14 : Ec (8) = .inl (cy 0, 32, .inl (f8)) := (hO_49 (8) (by omega)).trans fC28_14
        have fL49_20 : Ec (11) = .inl (cy 0, 32, .inl (f11)) := (hO_49 (11) (by omega)).trans fC28_20
        have fL49_21 : Ec (12) = .inl (cy 0, 32, .inl (f12)) := (hO_49 (12) (by omega)).trans fC28_21
        have fL49_16 : Ec (13) = .inl (cy 0, 32, .inl (f13)) := (hO_49 (13) (by omega)).trans fC28_16
        have fL49_17 : Ec (14) = .inl (cy 0, 32, .inl (f14)) := (hO_49 (14) (by omega)).trans fC28_17
        have hf9 := fs_few hfs
        have hsb := set_bd hbl hj
        refine lv_iload hx hb dX3_fewestSet_49 (lv_at hl 6 rfl) ?_
        refine g_if_le (tgt := 100) hx hb dX3_fewestSet_51 (by decide) (n_i (by omega)) (fun c_51 => ?_) (fun c_51 => ?_)
        · skip
          have hj0 : j = 0 := mul_0 (n := 2 ^ (8 - bl)) (by omega) (by omega)
          rw [hj0] at hfs
          refine lv_iload_n hx hb dX3_fewestSet_100 rfl (lv_at hl 3 rfl) ?_
          exact W.iret (v := (nI (best))) hx hb hr (fun t ht hW => ⟨⟨_, Ec, rfl, ⟨g9, best, hk_49_0, (fun j_ h0_ => by rw [hO_49 j_ h0_, hO28 j_ h0_]), rfl, fs_end hfs⟩, by rw [ht]; exact hP, va_K.moved hW.alike hK, hD⟩, hS.F ht⟩) hS.2.2 dX3_fewestSet_101
        · skip
          have hj1 : 1 ≤ j := by
            rcases Nat.eq_zero_or_pos j with e9 | e9
            · subst e9; rw [Nat.zero_mul] at c_51; omega
            · exact e9
          have hp9 := popN_le (j * 2 ^ (8 - bl))
          refine lv_iload hx hb dX3_fewestSet_54 (lv_at hl 6 rfl) ?_
          refine vp_callSi (va_Run.run (va_runS (As := [.int (nI (j * 2 ^ (8 - bl)))]) (rest := []) ⟨hx, hb, hml, hown, hts⟩ (c_J6_bitCount l (j * 2 ^ (8 - bl)) (by omega)) (va_cwS 1 hts gX3_fewestSet_J6_bitCount_0f7a4 rfl rfl rfl (by decide +kernel) ⟨Nat.le_of_ble_eq_true rfl, Nat.le_of_ble_eq_true rfl⟩) ⟨nB_blind, nB_pre⟩ rfl rfl hl.1 rfl (lv_room (Nat.le_of_ble_eq_true rfl)) dX3_fewestSet_56 ⟨Nat.le_of_ble_eq_true rfl, Nat.le_of_ble_eq_true rfl⟩)) (fun r_56 hr_56 => ?_)
          subst hr_56
          refine lv_istore (lv' := [(8, .int (nI (popN (j * 2 ^ (8 - bl))))), (0, .ref ((ad (6)))), (1, .int (nI (wi))), (2, .int (nI (na))), (3, .int (nI (best))), (4, .int (nI (few))), (6, .int (nI (2 ^ (8 - bl)))), (7, .int (nI (j * 2 ^ (8 - bl))))]) hx hb dX3_fewestSet_59 hl (by decide) rfl (fun ls hl => ?_)
          refine lv_iload hx hb dX3_fewestSet_61 (lv_at hl 0 rfl) ?_
          refine lv_iload hx hb dX3_fewestSet_63 (lv_at hl 5 rfl) ?_
          refine g_icmp_ge (tgt := 90) hx hb dX3_fewestSet_65 (by decide) (n_i (by omega)) (n_i (by omega)) (fun c_65 => ?_) (fun c_65 => ?_)
          · skip
            refine lv_iload hx hb dX3_fewestSet_90 (lv_at hl 7 rfl) ?_
            refine lv_iload hx hb dX3_fewestSet_92 (lv_at hl 6 rfl) ?_
            have hle9 : 2 ^ (8 - bl) ≤ j * 2 ^ (8 - bl) := Nat.le_mul_of_pos_left _ hj1
            refine g_isub_n hx hb dX3_fewestSet_94 hle9 ?_
            refine g_top (y := (nI ((j - 1) * 2 ^ (8 - bl)))) (congrArg nI (show j * 2 ^ (8 - bl) - 2 ^ (8 - bl) = (j - 1) * 2 ^ (8 - bl) by rw [Nat.sub_mul, Nat.one_mul])) ?_
            refine lv_istore (lv' := [(7, .int (nI ((j - 1) * 2 ^ (8 - bl)))), (8, .int (nI (popN (j * 2 ^ (8 - bl))))), (0, .ref ((ad (6)))), (1, .int (nI (wi))), (2, .int (nI (na))), (3, .int (nI (best))), (4, .int (nI (few))), (6, .int (nI (2 ^ (8 - bl))))]) hx hb dX3_fewestSet_95 hl (by decide) rfl (fun ls hl => ?_)
            refine lv_goto (tgt := 49) hx hb dX3_fewestSet_97 (by decide) ?_
            exact ih_49 (j - 1) (best) (few) (g9) (Ec) H locs hP hD hS (by omega) (fs_keep hfs hj1 (Or.inl (by omega))) hk_49_0 (fun j_ h0_ => by rw [hO_49 j_ h0_]) (by omega) ls (lv_sub hl [2, 3, 4, 5, 6, 7, 0] rfl)
          · skip
            refine lv_aload_n hx hb dX3_fewestSet_68 rfl (lv_at hl 1 rfl) ?_
            refine lv_iload hx hb dX3_fewestSet_69 (lv_at hl 7 rfl) ?_
            have hFc := w_free hD hS hA
            obtain ⟨p4, hp4⟩ := kW_pos h6
            refine va_callv (va_runV (As := [.int (nI (j * 2 ^ (8 - bl)))]) (rest := []) ⟨hx, hb, hml, hown, hts⟩ (c_X3_openSet l D cy H.size K ad Ec (h6) (nr) (bl) (PP) (fL49_13) (h8) (f8) (fL49_14) (h15) (g9) (hk_49_0) (hP32) (hl6) (hnr) (j * 2 ^ (8 - bl)) (by omega) (fun i hi => ⟨(hR8 i hi).1, by have := (hR8 i hi).2; omega⟩)) (cwV 1 hts gX3_fewestSet_X3_openSet rfl rfl rfl (by decide +kernel) ⟨Nat.le_of_ble_eq_true rfl, Nat.le_of_ble_eq_true rfl⟩) ⟨wB2_blind, va_recv hK hP (ci := 3) (q0 := p4) rfl (kW_get hp4 fL49_13), wB2_pre hP hK hD hN⟩ rfl rfl hl.1 rfl (lv_room (Nat.le_of_ble_eq_true rfl)) dX3_fewestSet_71 ⟨Nat.le_of_ble_eq_true rfl, Nat.le_of_ble_eq_true rfl⟩) hS (fun q _ h => hFc q h) hFc (fun E_71 t_ H locs ht hvm hw_71 hB _ _ hS => ?_)
            obtain ⟨hP1, hK1, hD1⟩ := hB
            rw [ht] at hP1
            have hP := hP1
            have hD := hD1.weaken (fun _ _ _ h => hFc _ h)
            obtain ⟨f71, k71_0, hO71, ha71⟩ := hw_71
            have fC71_13 : E_71 (6) = .inr (3, [.ref ((ad (7))), .ref ((ad (8))), .ref ((ad (9))), .ref ((ad (10))), .ref ((ad (11))), .ref ((ad (12))), .ref ((ad (13))), .ref ((ad (14))), .ref ((ad (15))), .ref ((ad (16))), .ref ((ad (17))), .int (nI (bl)), .int (nI (PP.length)), .int (nI (nr))]) := (hO71 (6) (by omega)).trans fL49_13
            have fC71_14 : E_71 (8) = .inl (cy 0, 32, .inl (f8)) := (hO71 (8) (by omega)).trans fL49_14
            have fC71_20 : E_71 (11) = .inl (cy 0, 32, .inl (f11)) := (hO71 (11) (by omega)).trans fL49_20
            have fC71_21 : E_71 (12) = .inl (cy 0, 32, .inl (f12)) := (hO71 (12) (by omega)).trans fL49_21
            have fC71_16 : E_71 (13) = .inl (cy 0, 32, .inl (f13)) := (hO71 (13) (by omega)).trans fL49_16
            have fC71_17 : E_71 (14) = .inl (cy 0, 32, .inl (f14)) := (hO71 (14) (by omega)).trans fL49_17
            refine lv_aload_n hx hb dX3_fewestSet_74 rfl (lv_at hl 1 rfl) ?_
            refine lv_iload_n hx hb dX3_fewestSet_75 rfl (lv_at hl 2 rfl) ?_
            refine lv_iload_n hx hb dX3_fewestSet_76 rfl (lv_at hl 3 rfl) ?_
            obtain ⟨p5, hp5⟩ := kW_pos h6
            refine vp_callSi (va_Run.run (va_runV (As := [.int (nI (wi)), .int (nI (na))]) (rest := []) ⟨hx, hb, hml, hown, hts⟩ (c_X3_canGive l D cy K ad E_71 (h6) (nr) (bl) (PP) (fC71_13) (h11) (f11) (fC71_20) (h12) (f12) (fC71_21) (h13) (f13) (fC71_16) (h14) (f14) (fC71_17) (h15) (f71) (k71_0) (hP32) (hl6) (hnr) (bitO PP (j * 2 ^ (8 - bl))) (SS) (hs) (hR11) (hR12) (hR13) (hR14) (fun i hi => ⟨(ha71 i hi).trans bI_n, bitO_le PP _ i⟩) (wi) (na) (by omega)) (cwV 2 hts gX3_fewestSet_X3_canGive rfl rfl rfl (by decide +kernel) ⟨Nat.le_of_ble_eq_true rfl, Nat.le_of_ble_eq_true rfl⟩) ⟨rB2_blind, va_recv hK hP (ci := 3) (q0 := p5) rfl (kW_get hp5 fC71_13), (rB2_pre hP hK hN)⟩ rfl rfl hl.1 rfl (lv_room (Nat.le_of_ble_eq_true rfl)) dX3_fewestSet_77 ⟨Nat.le_of_ble_eq_true rfl, Nat.le_of_ble_eq_true rfl⟩)) (fun r_77 hr_77 => ?_)
            subst hr_77
            refine g_ifeq_b (tgt := 90) hx hb dX3_fewestSet_80 (by decide) (fun c_80 => ?_) (fun c_80 => ?_)
            · skip
              refine lv_iload hx hb dX3_fewestSet_90 (lv_at hl 7 rfl) ?_
              refine lv_iload hx hb dX3_fewestSet_92 (lv_at hl 6 rfl) ?_
              have hle9 : 2 ^ (8 - bl) ≤ j * 2 ^ (8 - bl) := Nat.le_mul_of_pos_left _ hj1
              refine g_isub_n hx hb dX3_fewestSet_94 hle9 ?_
              refine g_top (y := (nI ((j - 1) * 2 ^ (8 - bl)))) (congrArg nI (show j * 2 ^ (8 - bl) - 2 ^ (8 - bl) = (j - 1) * 2 ^ (8 - bl) by rw [Nat.sub_mul, Nat.one_mul])) ?_
              refine lv_istore (lv' := [(7, .int (nI ((j - 1) * 2 ^ (8 - bl)))), (8, .int (nI (popN (j * 2 ^ (8 - bl))))), (0, .ref ((ad (6)))), (1, .int (nI (wi))), (2, .int (nI (na))), (3, .int (nI (best))), (4, .int (nI (few))), (6, .int (nI (2 ^ (8 - bl))))]) hx hb dX3_fewestSet_95 hl (by decide) rfl (fun ls hl => ?_)
              refine lv_goto (tgt := 49) hx hb dX3_fewestSet_97 (by decide) ?_
              exact ih_49 (j - 1) (best) (few) (f71) (E_71) H locs hP hD hS (by omega) (fs_keep hfs hj1 (Or.inr c_80)) k71_0 (fun j_ h0_ => by rw [hO71 j_ h0_, hO_49 j_ h0_]) (by omega) ls (lv_sub hl [2, 3, 4, 5, 6, 7, 0] rfl)
            · skip
              refine lv_iload hx hb dX3_fewestSet_83 (lv_at hl 7 rfl) ?_
              refine lv_istore_n (lv' := [(3, .int (nI (j * 2 ^ (8 - bl)))), (8, .int (nI (popN (j * 2 ^ (8 - bl))))), (0, .ref ((ad (6)))), (1, .int (nI (wi))), (2, .int (nI (na))), (4, .int (nI (few))), (6, .int (nI (2 ^ (8 - bl)))), (7, .int (nI (j * 2 ^ (8 - bl))))]) hx hb dX3_fewestSet_85 rfl hl (by decide) rfl (fun ls hl => ?_)
              refine lv_iload hx hb dX3_fewestSet_86 (lv_at hl 1 rfl) ?_
              refine lv_istore (lv' := [(4, .int (nI (popN (j * 2 ^ (8 - bl))))), (3, .int (nI (j * 2 ^ (8 - bl)))), (8, .int (nI (popN (j * 2 ^ (8 - bl))))), (0, .ref ((ad (6)))), (1, .int (nI (wi))), (2, .int (nI (na))), (6, .int (nI (2 ^ (8 - bl)))), (7, .int (nI (j * 2 ^ (8 - bl))))]) hx hb dX3_fewestSet_88 hl (by decide) rfl (fun ls hl => ?_)
              refine lv_iload hx hb dX3_fewestSet_90 (lv_at hl 7 rfl) ?_
              refine lv_iload hx hb dX3_fewestSet_92 (lv_at hl 6 rfl) ?_
              have hle9 : 2 ^ (8 - bl) ≤ j * 2 ^ (8 - bl) := Nat.le_mul_of_pos_left _ hj1
              refine g_isub_n hx hb dX3_fewestSet_94 hle9 ?_
              refine g_top (y := (nI ((j - 1) * 2 ^ (8 - bl)))) (congrArg nI (show j * 2 ^ (8 - bl) - 2 ^ (8 - bl) = (j - 1) * 2 ^ (8 - bl) by rw [Nat.sub_mul, Nat.one_mul])) ?_
              refine lv_istore (lv' := [(7, .int (nI ((j - 1) * 2 ^ (8 - bl)))), (4, .int (nI (popN (j * 2 ^ (8 - bl))))), (3, .int (nI (j * 2 ^ (8 - bl)))), (8, .int (nI (popN (j * 2 ^ (8 - bl))))), (0, .ref ((ad (6)))), (1, .int (nI (wi))), (2, .int (nI (na))), (6, .int (nI (2 ^ (8 - bl))))]) hx hb dX3_fewestSet_95 hl (by decide) rfl (fun ls hl => ?_)
              refine lv_goto (tgt := 49) hx hb dX3_fewestSet_97 (by decide) ?_
              exact ih_49 (j - 1) (j * 2 ^ (8 - bl)) (popN (j * 2 ^ (8 - bl))) (f71) (E_71) H locs hP hD hS (by omega) (fs_yes hfs hj1 hj (by omega) c_80) k71_0 (fun j_ h0_ => by rw [hO71 j_ h0_, hO_49 j_ h0_]) (by omega) ls (lv_sub hl [4, 5, 6, 2, 1, 7, 0] rfl)
    exact loop_49 _ (2 ^ bl - 1) (0) (9) (f28) (E_28) H locs hP hD hS (by omega) (fs_0 (gvS nr PP wi na) bl) k28_0 (fun j_ h0_ => rfl) (Nat.lt_succ_self _) ls (lv_sub hl [5, 6, 7, 4, 3, 1, 0] rfl)
  · skip
    refine lv_iconst (v := (nI (0))) hx hb dX3_fewestSet_40 (by decide) ?_
    exact W.iret (v := (nI (0))) hx hb hr (fun t ht hW => ⟨⟨_, E_28, rfl, ⟨f28, 0, k28_0, (fun j_ h0_ => by rw [hO28 j_ h0_]), rfl, fs_none (fun x9 h9 => gv_all (by omega) hbl (fun i hi => (hR8 i hi).2) h9) c_37⟩, by rw [ht]; exact hP, va_K.moved hW.alike hK, hD⟩, hS.F ht⟩) hS.2.2 dX3_fewestSet_41
set_option maxHeartbeats 4000000 in
set_option maxRecDepth 100000 in
theorem c_X3_shorten (l : Launch) (D : va_G) (cy : Nat → ClassId) (sz : Nat) (K : List Nat) (ad : Nat → Nat) (E : Nat → va_E) (h6 : 6 ∈ K) (nr bl : Nat) (PP : List (Nat × Nat × Nat)) (hE6 : E 6 = .inr (3, [.ref ((ad (7))), .ref ((ad (8))), .ref ((ad (9))), .ref ((ad (10))), .ref ((ad (11))), .ref ((ad (12))), .ref ((ad (13))), .ref ((ad (14))), .ref ((ad (15))), .ref ((ad (16))), .ref ((ad (17))), .int (nI (bl)), .int (nI (PP.length)), .int (nI (nr))])) (h7 : 7 ∈ K) (f7 : Nat → Option Nat) (hE7 : E 7 = .inl (cy 4, 8, .inr (.inr (.inr (.inr (f7)))))) (h16 : 16 ∈ K) (f16 : Nat → Int32) (hE16 : E 16 = .inl (cy 0, 32, .inl (f16))) (h17 : 17 ∈ K) (f17 : Nat → Int32) (hE17 : E 17 = .inl (cy 0, 32, .inl (f17))) (hP32 : PP.length ≤ 32) (hnr : 1 ≤ nr ∧ nr ≤ 3000) (hbl : bl ≤ 8) (bn : Nat → Nat) (sp : Nat → Int32) (LL : Nat → List (Nat × Nat)) (hbn : ∀ p, p < bl → bn p < 40) (hmo : ∀ p r, p < r → r < bl → bn p < bn r) (hmm : ∀ p, p < bl → 2000 + bn p ∈ K ∧ 3000 + bn p ∈ K ∧ 4000 + bn p ∈ K) (hL7 : ∀ p, p < bl → f7 p = some (ad (2000 + bn p))) (hBA : ∀ p, p < bl → boltAt cy ad E (bn p) (sp p) (LL p)) (hpo : ∀ p, p < bl → partsOk (LL p)) (hc mc : Nat → Nat) (hR16 : ∀ i, i < PP.length → f16 i = nI (hc i)) (hR17 : ∀ i, i < PP.length → f17 i = nI (mc i)) (hof : offN LL bl ≤ PP.length) (hcut : ∀ p, p < bl → ∀ i, i < (LL p).length → (paD (LL p) i).1 + (hc (offN LL p + i) * (nr + 1) + mc (offN LL p + i) * nr) ≤ (paD (LL p) i).2) : Met l yX3_shorten wsX3_shorten ({ frames := 3, cells := 0, slots := 0, locals := 68 } : Room) (va_Pc [.ref ((ad (6)))] (wB2 D cy sz (kW K ad E))) (va_Qv (fun (u : Nat → va_E) => shD cy ad bn sp (fun p => cutPL (LL (p)) (fun i => hc (offN LL (p) + i) * (nr + 1) + mc (offN LL (p) + i) * nr)) bl u ∧ shO bn bl E u) (fun u t => wE D cy (va_A (kW K ad E) sz) (kW K ad u) t) (va_A (kW K ad E) sz)) 0 0 (va_A (kW K ad E) sz) := by
  refine Met.ofW (cc := cX3_shorten) (maxL := 4) (ret := none) (by decide) rfl ?_
  intro p e s m args below meth c s₁ B hml hv
  obtain ⟨rfl, ⟨hsz, hP, hK, hD0⟩, hN⟩ := hv
  have hx := B.exec
  have hb := B.bytes
  have hr := B.returns
  have hts := atoms_spec (ws := wsX3_shorten) B.pre
  have hown : s.vm.findClass RX3 = some m.cls := findClass_of_methodNamed B.named
  have hlocks := B.notSynchronized
  subst hsz
  have hD := hD0.self (sz := s.heap.size)
  generalize hAe : va_A (kW K ad E) s.heap.size = A at hD ⊢
  have hA : ∀ q : Nat, s.heap.size ≤ q → A q := w_A hAe
  have hS : va_S A s.heap s.heap [] := va_S.rf
  have hnd := kW_nd hD
  have hl := lv_entry ([.ref ((ad (6)))]) (n := 4) (Nat.le_of_ble_eq_true rfl)
  rw [lg_entry_eq]
  generalize (lg_sl ([.ref ((ad (6)))]) ++ List.replicate (4 - (lg_sl ([.ref ((ad (6)))])).length) Slot.unset).toArray = ls at hl ⊢
  have hl : lv_has ls 4 [(0, .ref ((ad (6))))] := hl
  refine lv_iconst (v := (nI (0))) hx hb dX3_shorten_0 (by decide) ?_
  refine lv_istore_n (lv' := [(1, .int (nI (0))), (0, .ref ((ad (6))))]) hx hb dX3_shorten_1 rfl hl (by decide) rfl (fun ls hl => ?_)
  refine lv_iconst (v := (nI (0))) hx hb dX3_shorten_2 (by decide) ?_
  refine lv_istore_n (lv' := [(2, .int (nI (0))), (1, .int (nI (0))), (0, .ref ((ad (6))))]) hx hb dX3_shorten_3 rfl hl (by decide) rfl (fun ls hl => ?_)
  have loop_4 : ∀ (n_ : Nat) (q : Nat) (Ec : Nat → va_E) (H : Heap) (locs : List Loc), va_P D vwCl (kW K ad Ec) H → va_D A (kW K ad Ec) → va_S A s.heap H locs → (q ≤ bl) → (shD cy ad bn sp (fun p => cutPL (LL (p)) (fun i => hc (offN LL (p) + i) * (nr + 1) + mc (offN LL (p) + i) * nr)) q Ec) → (shO bn q E Ec) → bl - q < n_ → ∀ (ls : Array Slot), lv_has ls 4 [(0, .ref ((ad (6)))), (1, .int (nI (offN LL q))), (2, .int (nI (q)))] → W p l e (headSpec wsX3_shorten ({ frames := 3, cells := 0, slots := 0, locals := 68 } : Room)).room s m ([.ref ((ad (6)))] : List Value).toArray below meth c H locs 0 0 (MQ below (va_Qv (fun (u : Nat → va_E) => shD cy ad bn sp (fun p => cutPL (LL (p)) (fun i => hc (offN LL (p) + i) * (nr + 1) + mc (offN LL (p) + i) * nr)) bl u ∧ shO bn bl E u) (fun u t => wE D cy A (kW K ad u) t) A) ([.ref ((ad (6)))] : List Value).toArray s 0 0 A) (F0 m 4 ls []) := by
    intro n_
    induction n_ with
    | zero => intro q Ec H locs hP hD hS hq hsD hsO hm_; exact absurd hm_ (Nat.not_lt_zero _)
    | succ n_ ih_4 =>
      intro q Ec H locs hP hD hS hq hsD hsO hm_ ls hl
      have hr6 : Ec 6 = .inr (3, [.ref ((ad (7))), .ref ((ad (8))), .ref ((ad (9))), .ref ((ad (10))), .ref ((ad (11))), .ref ((ad (12))), .ref ((ad (13))), .ref ((ad (14))), .ref ((ad (15))), .ref ((ad (16))), .ref ((ad (17))), .int (nI (bl)), .int (nI (PP.length)), .int (nI (nr))]) := (hsO 6 (fun p hp => by omega)).trans hE6
      have hr7 : Ec 7 = .inl (cy 4, 8, .inr (.inr (.inr (.inr (f7))))) := (hsO 7 (fun p hp => by omega)).trans hE7
      have hr16 : Ec 16 = .inl (cy 0, 32, .inl (f16)) := (hsO 16 (fun p hp => by omega)).trans hE16
      have hr17 : Ec 17 = .inl (cy 0, 32, .inl (f17)) := (hsO 17 (fun p hp => by omega)).trans hE17
      refine lv_iload_n hx hb dX3_shorten_4 rfl (lv_at hl 2 rfl) ?_
      refine lv_aload_n hx hb dX3_shorten_5 rfl (lv_at hl 0 rfl) ?_
      obtain ⟨p1, hp1⟩ := kW_pos h6
      refine va_get (D := D) (ci := 3) (v := .int (nI (bl))) (C := RX3) (T := TX3) (N := 14) hx hb hts (by decide +kernel) hown hK hP p1 (kW_get hp1 hr6) rfl 11 (by decide) (hts (.fieldLink RX3 49 "CaskYard$Saw" "boltsLaid" "I") (by decide +kernel)) (fun _ h9 => h9) rfl dX3_shorten_6 ?_
      refine g_icmp_ge (tgt := 36) hx hb dX3_shorten_9 (by decide) (n_i (by omega)) (n_i (by omega)) (fun c_9 => ?_) (fun c_9 => ?_)
      · skip
        have hqe : q = bl := by omega
        rw [hqe] at hsD hsO
        exact W.vret hx hb hr (fun t ht hW => ⟨⟨Ec, rfl, ⟨hsD, hsO⟩, by rw [ht]; exact hP, va_K.moved hW.alike hK, hD⟩, hS.F ht⟩) hS.2.2 dX3_shorten_36
      · skip
        have hm9 := hmm q (by omega)
        have hb40 := hbn q (by omega)
        have hpo9 := hpo q (by omega)
        have hne9 : ∀ p, p < q → bn p < bn q := fun p hp => hmo p q hp (by omega)
        obtain ⟨fq, gq, hb0, hb1, hb2, hbA⟩ := boltAt_congr (hBA q (by omega)) (hsO (2000 + bn q) (fun p hp => by have := hne9 p hp; omega)) (hsO (3000 + bn q) (fun p hp => by have := hne9 p hp; omega)) (hsO (4000 + bn q) (fun p hp => by have := hne9 p hp; omega))
        have hof9 := offN_mono LL (p := q + 1) bl (by omega)
        have hofs : offN LL (q + 1) = offN LL q + (LL q).length := rfl
        refine lv_aload_n hx hb dX3_shorten_12 rfl (lv_at hl 0 rfl) ?_
        obtain ⟨p2, hp2⟩ := kW_pos h6
        refine va_get (D := D) (ci := 3) (v := .ref ((ad (7)))) (C := RX3) (T := TX3) (N := 14) hx hb hts (by decide +kernel) hown hK hP p2 (kW_get hp2 hr6) rfl 0 (by decide) (hts (.fieldLink RX3 11 "CaskYard$Saw" "laid" "[LCaskYard$Bolt;") (by decide +kernel)) (fun _ h9 => h9) rfl dX3_shorten_13 ?_
        refine lv_iload_n hx hb dX3_shorten_16 rfl (lv_at hl 2 rfl) ?_
        obtain ⟨p3, hp3⟩ := kW_pos h7
        refine g_aald hx hb hK hP p3 4 (kW_get hp3 hr7) rfl (q) rfl (by omega) (by decide) dX3_shorten_17 ?_
        refine g_topr (y := .ref ((ad (2000 + bn q)))) (by rw [hL7 q (by omega)]; rfl) ?_
        refine lv_astore_n (lv' := [(3, .ref ((ad (2000 + bn q)))), (0, .ref ((ad (6)))), (1, .int (nI (offN LL q))), (2, .int (nI (q)))]) hx hb dX3_shorten_18 rfl hl (by decide) rfl (fun ls hl => ?_)
        refine lv_aload_n hx hb dX3_shorten_19 rfl (lv_at hl 0 rfl) ?_
        refine lv_ifnull hx hb dX3_shorten_20 ?_
        refine lv_aload_n hx hb dX3_shorten_23 rfl (lv_at hl 1 rfl) ?_
        refine lv_aload_n hx hb dX3_shorten_24 rfl (lv_at hl 0 rfl) ?_
        refine lv_iload_n hx hb dX3_shorten_25 rfl (lv_at hl 2 rfl) ?_
        have hFc := w_free hD hS hA
        obtain ⟨p4, hp4⟩ := kW_pos h6
        refine va_calli (va_runV (As := [.ref ((ad (2000 + bn q))), .int (nI (offN LL q))]) (rest := []) ⟨hx, hb, hml, hown, hts⟩ (c_X3_shortenBolt l D cy H.size K ad Ec (h6) (nr) (bl) (PP) (hr6) (h16) (f16) (hr16) (h17) (f17) (hr17) (hP32) (hnr) (2000 + bn q) (3000 + bn q) (4000 + bn q) (hm9.1) (hm9.2.1) (hm9.2.2) (⟨by omega, by omega, by omega, by omega, by omega, by omega⟩) (sp q) (LL q) (fq) (gq) (hb0) (hb1) (hb2) (hpo9.1) (hbA) (hpo9.2) (hc) (mc) (hR16) (hR17) (offN LL q) (by omega) (hcut q (by omega))) (cwV 2 hts gX3_shorten_X3_shortenBolt rfl rfl rfl (by decide +kernel) ⟨Nat.le_of_ble_eq_true rfl, Nat.le_of_ble_eq_true rfl⟩) ⟨wB2_blind, va_recv hK hP (ci := 3) (q0 := p4) rfl (kW_get hp4 hr6), wB2_pre hP hK hD hN⟩ rfl rfl hl.1 rfl (lv_room (Nat.le_of_ble_eq_true rfl)) dX3_shorten_26 ⟨Nat.le_of_ble_eq_true rfl, Nat.le_of_ble_eq_true rfl⟩) hS (fun q _ h => hFc q h) hFc (fun r_26 E_26 t_ H locs ht hvm hw_26 hB _ _ hS => ?_)
        obtain ⟨hP1, hK1, hD1⟩ := hB
        rw [ht] at hP1
        have hP := hP1
        have hD := hD1.weaken (fun _ _ _ h => hFc _ h)
        obtain ⟨f26, g26, k26_0, k26_1, k26_2, hO26, ha26, hres_26⟩ := hw_26
        have hst := sh_step (CL := (fun p => cutPL (LL (p)) (fun i => hc (offN LL (p) + i) * (nr + 1) + mc (offN LL (p) + i) * nr))) hbn hmo (by omega) hsD hsO hO26 ⟨f26, g26, k26_0, k26_1, k26_2, ha26⟩
        refine g_top (y := (nI (offN LL (q + 1)))) (hres_26) ?_
        refine lv_istore_n (lv' := [(1, .int (nI (offN LL (q + 1)))), (3, .ref ((ad (2000 + bn q)))), (0, .ref ((ad (6)))), (2, .int (nI (q)))]) hx hb dX3_shorten_29 rfl hl (by decide) rfl (fun ls hl => ?_)
        refine lv_iinc (v := (nI (q + 1))) (lv' := [(2, .int (nI (q + 1))), (1, .int (nI (offN LL (q + 1)))), (3, .ref ((ad (2000 + bn q)))), (0, .ref ((ad (6))))]) hx hb dX3_shorten_30 hl (k := 3) rfl (nI_add _ _) (by decide) rfl (fun ls hl => ?_)
        refine lv_goto (tgt := 4) hx hb dX3_shorten_33 (by decide) ?_
        exact ih_4 (q + 1) (E_26) H locs hP hD hS (by omega) hst.1 hst.2 (by omega) ls (lv_sub hl [3, 1, 0] rfl)
  exact loop_4 _ (0) (E) s.heap [] hP hD hS (by omega) (fun p hp => absurd hp (Nat.not_lt_zero _)) (fun k _ => rfl) (Nat.lt_succ_self _) ls (lv_sub hl [2, 1, 0] rfl)
