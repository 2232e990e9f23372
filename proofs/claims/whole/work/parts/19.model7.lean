set_option maxHeartbeats 4000000 in
set_option maxRecDepth 100000 in
theorem c_X5_ones (l : Launch)   (x : Nat) (hx8 : x < 256) : Met l yX5_ones wsX5_ones ({ frames := 0, cells := 0, slots := 0, locals := 0 } : Room) (va_Pc [.int (nI (x))] (fun _ => True)) (vp_Si (fun r : Int32 => r = nI (popN x))) 0 0 (fun _ => False) := by
  refine Met.ofW (cc := cX5_ones) (maxL := 3) (ret := (some .int)) (by decide) rfl ?_
  intro p e s m args below meth c s₁ B hml hv
  obtain ⟨rfl, hv⟩ := hv
  have hx := B.exec
  have hb := B.bytes
  have hr := B.returns
  have hts := atoms_spec (ws := wsX5_ones) B.pre
  have hown : s.vm.findClass RX5 = some m.cls := findClass_of_methodNamed B.named
  have hlocks := B.notSynchronized
  have hl := lv_entry ([.int (nI (x))]) (n := 3) (Nat.le_of_ble_eq_true rfl)
  rw [lg_entry_eq]
  generalize (lg_sl ([.int (nI (x))]) ++ List.replicate (3 - (lg_sl ([.int (nI (x))])).length) Slot.unset).toArray = ls at hl ⊢
  have hl : lv_has ls 3 [(0, .int (nI (x)))] := hl
  refine lv_iconst (v := (nI (0))) hx hb dX5_ones_0 (by decide) ?_
  refine lv_istore_n (lv' := [(1, .int (nI (0))), (0, .int (nI (x)))]) hx hb dX5_ones_1 rfl hl (by decide) rfl (fun ls hl => ?_)
  refine lv_iload_n hx hb dX5_ones_2 rfl (lv_at hl 1 rfl) ?_
  refine lv_istore_n (lv' := [(2, .int (nI (x))), (1, .int (nI (0))), (0, .int (nI (x)))]) hx hb dX5_ones_3 rfl hl (by decide) rfl (fun ls hl => ?_)
  have loop_4 : ∀ (n_ : Nat) (n : Nat) (y : Nat), (y < 256) → (n + popN y = popN x) → y < n_ → ∀ (ls : Array Slot), lv_has ls 3 [(0, .int (nI (x))), (1, .int (nI (n))), (2, .int (nI (y)))] → W p l e (headSpec wsX5_ones ({ frames := 0, cells := 0, slots := 0, locals := 0 } : Room)).room s m ([.int (nI (x))] : List Value).toArray below meth c s.heap [] 0 0 (MQ below (vp_Si (fun r : Int32 => r = nI (popN x))) ([.int (nI (x))] : List Value).toArray s 0 0 (fun _ => False)) (F0 m 4 ls []) := by
    intro n_
    induction n_ with
    | zero => intro n y hy8 hn hm_; exact absurd hm_ (Nat.not_lt_zero _)
    | succ n_ ih_4 =>
      intro n y hy8 hn hm_ ls hl
      refine lv_iload_n hx hb dX5_ones_4 rfl (lv_at hl 2 rfl) ?_
      refine g_if_eq (tgt := 20) hx hb dX5_ones_5 (by decide) (n_i (by omega)) (fun c_5 => ?_) (fun c_5 => ?_)
      · skip
        obtain rfl : y = 0 := by omega
        refine lv_iload_n hx hb dX5_ones_20 rfl (lv_at hl 1 rfl) ?_
        exact W.iret (v := (nI (n))) hx hb hr (fun t ht hW => ⟨_, rfl, by rw [← hn]; rfl, ht⟩) (fun _ h => nomatch h) dX5_ones_21
      · skip
        have hps := popN_s hy8 (by omega)
        refine lv_iinc (v := (nI (n + 1))) (lv' := [(1, .int (nI (n + 1))), (0, .int (nI (x))), (2, .int (nI (y)))]) hx hb dX5_ones_8 hl (k := 1) rfl (nI_add _ _) (by decide) rfl (fun ls hl => ?_)
        refine lv_iload_n hx hb dX5_ones_11 rfl (lv_at hl 2 rfl) ?_
        refine lv_iload_n hx hb dX5_ones_12 rfl (lv_at hl 2 rfl) ?_
        refine lv_iconst (v := (nI (1))) hx hb dX5_ones_13 (by decide) ?_
        refine g_isub_n hx hb dX5_ones_14 (by omega) ?_
        refine lv_iand hx hb dX5_ones_15 ?_
        refine g_top (y := (nI (y &&& (y - 1)))) (n_and _ _) ?_
        refine lv_istore_n (lv' := [(2, .int (nI (y &&& (y - 1)))), (1, .int (nI (n + 1))), (0, .int (nI (x)))]) hx hb dX5_ones_16 rfl hl (by decide) rfl (fun ls hl => ?_)
        refine lv_goto (tgt := 4) hx hb dX5_ones_17 (by decide) ?_
        exact ih_4 (n + 1) (y &&& (y - 1))  (by omega) (by omega) (by omega) ls (lv_sub hl [2, 1, 0] rfl)
  exact loop_4 _ (0) (x)  hx8 (Nat.zero_add _) (Nat.lt_succ_self _) ls (lv_sub hl [2, 1, 0] rfl)
set_option maxHeartbeats 4000000 in
set_option maxRecDepth 100000 in
theorem c_X5_isAhead (l : Launch)   (x y : Nat) (hx8 : x < 256) (hy8 : y < 256) : Met l yX5_isAhead wsX5_isAhead ({ frames := 0, cells := 0, slots := 0, locals := 0 } : Room) (va_Pc [.int (nI (x)), .int (nI (y))] (fun _ => True)) (vp_Si (fun r : Int32 => r = bI (aheadN x y))) 0 0 (fun _ => False) := by
  refine Met.ofW (cc := cX5_isAhead) (maxL := 3) (ret := (some .boolean)) (by decide) rfl ?_
  intro p e s m args below meth c s₁ B hml hv
  obtain ⟨rfl, hv⟩ := hv
  have hx := B.exec
  have hb := B.bytes
  have hr := B.returns
  have hts := atoms_spec (ws := wsX5_isAhead) B.pre
  have hown : s.vm.findClass RX5 = some m.cls := findClass_of_methodNamed B.named
  have hlocks := B.notSynchronized
  have hl := lv_entry ([.int (nI (x)), .int (nI (y))]) (n := 3) (Nat.le_of_ble_eq_true rfl)
  rw [lg_entry_eq]
  generalize (lg_sl ([.int (nI (x)), .int (nI (y))]) ++ List.replicate (3 - (lg_sl ([.int (nI (x)), .int (nI (y))])).length) Slot.unset).toArray = ls at hl ⊢
  have hl : lv_has ls 3 [(0, .int (nI (x))), (1, .int (nI (y)))] := hl
  refine lv_iload_n hx hb dX5_isAhead_0 rfl (lv_at hl 0 rfl) ?_
  refine lv_iload_n hx hb dX5_isAhead_1 rfl (lv_at hl 1 rfl) ?_
  refine lv_ixor hx hb dX5_isAhead_2 ?_
  refine g_top (y := (nI (x ^^^ y))) (n_xor _ _) ?_
  refine lv_istore_n (lv' := [(2, .int (nI (x ^^^ y))), (0, .int (nI (x))), (1, .int (nI (y)))]) hx hb dX5_isAhead_3 rfl hl (by decide) rfl (fun ls hl => ?_)
  refine lv_iload_n hx hb dX5_isAhead_4 rfl (lv_at hl 1 rfl) ?_
  refine lv_iload_n hx hb dX5_isAhead_5 rfl (lv_at hl 0 rfl) ?_
  refine lv_iload_n hx hb dX5_isAhead_6 rfl (lv_at hl 0 rfl) ?_
  refine lv_ineg hx hb dX5_isAhead_7 ?_
  refine lv_iand hx hb dX5_isAhead_8 ?_
  refine g_top (y := (nI (lowN (x ^^^ y)))) (n_low (xor_lt hx8 hy8)) ?_
  refine lv_iand hx hb dX5_isAhead_9 ?_
  refine g_top (y := (nI (x &&& lowN (x ^^^ y)))) (n_and _ _) ?_
  have hal := and_lt' (y := lowN (x ^^^ y)) hx8
  refine g_if_eq (tgt := 17) hx hb dX5_isAhead_10 (by decide) (n_i (by omega)) (fun c_10 => ?_) (fun c_10 => ?_)
  · skip
    refine lv_iconst (v := (nI (0))) hx hb dX5_isAhead_17 (by decide) ?_
    exact W.zret (v := (nI (0))) hx hb hr (by decide) (fun t ht hW => ⟨_, rfl, (bI_f (by omega)).symm, ht⟩) (fun _ h => nomatch h) dX5_isAhead_18
  · skip
    refine lv_iconst (v := (nI (1))) hx hb dX5_isAhead_13 (by decide) ?_
    refine lv_goto (tgt := 18) hx hb dX5_isAhead_14 (by decide) ?_
    exact W.zret (v := (nI (1))) hx hb hr (by decide) (fun t ht hW => ⟨_, rfl, (bI_t (by omega)).symm, ht⟩) (fun _ h => nomatch h) dX5_isAhead_18
set_option maxHeartbeats 4000000 in
set_option maxRecDepth 100000 in
theorem c_X5_gives (l : Launch) (D : va_G) (cy : Nat → ClassId) (h0 : Nat) (ad : Nat → Nat) (I : Nat → Int32) (F : Nat → Nat → Int32) (i a n : Nat) (mz : Int) (hj : 41 * i + a < 1353) (h24 : F 24 (41 * i + a) = zI mz) (hmz : -1 ≤ mz ∧ mz < 100000) (hn9 : n < 100000) : Met l yX5_gives wsX5_gives ({ frames := 0, cells := 0, slots := 0, locals := 0 } : Room) (va_Pc [.ref h0, .int (nI (i)), .int (nI (a)), .int (nI (n))] (rB D cy (wM cy h0 ad I F))) (vp_Si (fun r : Int32 => r = bI ((n : Int) ≤ mz))) 0 0 (fun _ => False) := by
  refine Met.ofW (cc := cX5_gives) (maxL := 4) (ret := (some .boolean)) (by decide) rfl ?_
  intro p e s m args below meth c s₁ B hml hv
  obtain ⟨rfl, hv⟩ := hv
  have hx := B.exec
  have hb := B.bytes
  have hr := B.returns
  have hts := atoms_spec (ws := wsX5_gives) B.pre
  have hown : s.vm.findClass RX5 = some m.cls := findClass_of_methodNamed B.named
  have hlocks := B.notSynchronized
  obtain ⟨hP, hK⟩ := hv
  have hl := lv_entry ([.ref h0, .int (nI (i)), .int (nI (a)), .int (nI (n))]) (n := 4) (Nat.le_of_ble_eq_true rfl)
  rw [lg_entry_eq]
  generalize (lg_sl ([.ref h0, .int (nI (i)), .int (nI (a)), .int (nI (n))]) ++ List.replicate (4 - (lg_sl ([.ref h0, .int (nI (i)), .int (nI (a)), .int (nI (n))])).length) Slot.unset).toArray = ls at hl ⊢
  have hl : lv_has ls 4 [(0, .ref h0), (1, .int (nI (i))), (2, .int (nI (a))), (3, .int (nI (n)))] := hl
  refine lv_aload_n hx hb dX5_gives_0 rfl (lv_at hl 0 rfl) ?_
  refine va_get (D := D) (ci := 5) (v := .ref ((ad 24))) (C := RX5) (T := TX5) (N := 34) hx hb hts (by decide +kernel) hown hK hP 0 rfl rfl 24 (by decide) (hts (.fieldLink RX5 68 "CaskYardModel" "most" "[I") (by decide +kernel)) (fun _ h9 => h9) rfl dX5_gives_1 ?_
  refine lv_bipush (v := (nI (41))) hx hb dX5_gives_4 (by decide) ?_
  refine lv_iload_n hx hb dX5_gives_6 rfl (lv_at hl 1 rfl) ?_
  refine g_imul_n hx hb dX5_gives_7 ?_
  refine lv_iload_n hx hb dX5_gives_8 rfl (lv_at hl 2 rfl) ?_
  refine g_iadd_n hx hb dX5_gives_9 ?_
  refine g_iald hx hb hK hP 20 0 rfl rfl ((41 * i) + a) rfl (by omega) (by decide) dX5_gives_10 ?_
  refine g_top (y := (zI (mz))) h24 ?_
  refine lv_iload_n hx hb dX5_gives_11 rfl (lv_at hl 3 rfl) ?_
  refine g_icmp_lt (tgt := 19) hx hb dX5_gives_12 (by decide) (zI_toInt (by omega) (by omega)) (n_i (by omega)) (fun c_12 => ?_) (fun c_12 => ?_)
  · skip
    refine lv_iconst (v := (nI (0))) hx hb dX5_gives_19 (by decide) ?_
    exact W.zret (v := (nI (0))) hx hb hr (by decide) (fun t ht hW => ⟨_, rfl, (bI_f (by omega)).symm, ht⟩) (fun _ h => nomatch h) dX5_gives_20
  · skip
    refine lv_iconst (v := (nI (1))) hx hb dX5_gives_15 (by decide) ?_
    refine lv_goto (tgt := 20) hx hb dX5_gives_16 (by decide) ?_
    exact W.zret (v := (nI (1))) hx hb hr (by decide) (fun t ht hW => ⟨_, rfl, (bI_t (by omega)).symm, ht⟩) (fun _ h => nomatch h) dX5_gives_20
set_option maxHeartbeats 4000000 in
set_option maxRecDepth 100000 in
theorem c_X5_length (l : Launch) (D : va_G) (cy : Nat → ClassId) (h0 : Nat) (ad : Nat → Nat) (I : Nat → Int32) (F : Nat → Nat → Int32) (i b q x y : Nat) (hi32 : i < 32) (hb40 : b < 40) (hq5 : q < 5) (h22 : F 22 i = nI b) (h23 : F 23 i = nI q) (h11 : F 11 (5 * b + q) = nI x) (h12 : F 12 (5 * b + q) = nI y) (hxy : x ≤ y ∧ y ≤ 600) : Met l yX5_length wsX5_length ({ frames := 1, cells := 0, slots := 0, locals := 21 } : Room) (va_Pc [.ref h0, .int (nI (i))] (rB D cy (wM cy h0 ad I F))) (vp_Si (fun r : Int32 => r = nI (y - x))) 0 0 (fun _ => False) := by
  refine Met.ofW (cc := cX5_length) (maxL := 3) (ret := (some .int)) (by decide) rfl ?_
  intro p e s m args below meth c s₁ B hml hv
  obtain ⟨rfl, hv⟩ := hv
  have hx := B.exec
  have hb := B.bytes
  have hr := B.returns
  have hts := atoms_spec (ws := wsX5_length) B.pre
  have hown : s.vm.findClass RX5 = some m.cls := findClass_of_methodNamed B.named
  have hlocks := B.notSynchronized
  obtain ⟨hP, hK⟩ := hv
  have hl := lv_entry ([.ref h0, .int (nI (i))]) (n := 3) (Nat.le_of_ble_eq_true rfl)
  rw [lg_entry_eq]
  generalize (lg_sl ([.ref h0, .int (nI (i))]) ++ List.replicate (3 - (lg_sl ([.ref h0, .int (nI (i))])).length) Slot.unset).toArray = ls at hl ⊢
  have hl : lv_has ls 3 [(0, .ref h0), (1, .int (nI (i)))] := hl
  refine lv_aload_n hx hb dX5_length_0 rfl (lv_at hl 0 rfl) ?_
  refine va_get (D := D) (ci := 5) (v := .ref ((ad 22))) (C := RX5) (T := TX5) (N := 34) hx hb hts (by decide +kernel) hown hK hP 0 rfl rfl 22 (by decide) (hts (.fieldLink RX5 62 "CaskYardModel" "setBolt" "[I") (by decide +kernel)) (fun _ h9 => h9) rfl dX5_length_1 ?_
  refine lv_iload_n hx hb dX5_length_4 rfl (lv_at hl 1 rfl) ?_
  refine g_iald hx hb hK hP 18 0 rfl rfl (i) rfl (by omega) (by decide) dX5_length_5 ?_
  refine g_top (y := (nI (b))) h22 ?_
  refine lv_aload_n hx hb dX5_length_6 rfl (lv_at hl 0 rfl) ?_
  refine va_get (D := D) (ci := 5) (v := .ref ((ad 23))) (C := RX5) (T := TX5) (N := 34) hx hb hts (by decide +kernel) hown hK hP 0 rfl rfl 23 (by decide) (hts (.fieldLink RX5 65 "CaskYardModel" "setPart" "[I") (by decide +kernel)) (fun _ h9 => h9) rfl dX5_length_7 ?_
  refine lv_iload_n hx hb dX5_length_10 rfl (lv_at hl 1 rfl) ?_
  refine g_iald hx hb hK hP 19 0 rfl rfl (i) rfl (by omega) (by decide) dX5_length_11 ?_
  refine g_top (y := (nI (q))) h23 ?_
  refine vp_callSi (va_Run.run (va_runS (As := [.int (nI (b)), .int (nI (q))]) (rest := []) ⟨hx, hb, hml, hown, hts⟩ (c_X5_part l  (b) (q)) (va_cwS 2 hts gX5_length_X5_part rfl rfl rfl (by decide +kernel) ⟨Nat.le_of_ble_eq_true rfl, Nat.le_of_ble_eq_true rfl⟩) ⟨nB_blind, nB_pre⟩ rfl rfl hl.1 rfl (lv_room (Nat.le_of_ble_eq_true rfl)) dX5_length_12 ⟨Nat.le_of_ble_eq_true rfl, Nat.le_of_ble_eq_true rfl⟩)) (fun r_12 hr_12 => ?_)
  subst hr_12
  refine lv_istore_n (lv' := [(2, .int (nI (5 * (b) + (q)))), (0, .ref h0), (1, .int (nI (i)))]) hx hb dX5_length_15 rfl hl (by decide) rfl (fun ls hl => ?_)
  refine lv_aload_n hx hb dX5_length_16 rfl (lv_at hl 1 rfl) ?_
  refine va_get (D := D) (ci := 5) (v := .ref ((ad 12))) (C := RX5) (T := TX5) (N := 34) hx hb hts (by decide +kernel) hown hK hP 0 rfl rfl 12 (by decide) (hts (.fieldLink RX5 31 "CaskYardModel" "to" "[I") (by decide +kernel)) (fun _ h9 => h9) rfl dX5_length_17 ?_
  refine lv_iload_n hx hb dX5_length_20 rfl (lv_at hl 0 rfl) ?_
  refine g_iald hx hb hK hP 8 0 rfl rfl (5 * (b) + (q)) rfl (by omega) (by decide) dX5_length_21 ?_
  refine g_top (y := (nI (y))) h12 ?_
  refine lv_aload_n hx hb dX5_length_22 rfl (lv_at hl 1 rfl) ?_
  refine va_get (D := D) (ci := 5) (v := .ref ((ad 11))) (C := RX5) (T := TX5) (N := 34) hx hb hts (by decide +kernel) hown hK hP 0 rfl rfl 11 (by decide) (hts (.fieldLink RX5 28 "CaskYardModel" "from" "[I") (by decide +kernel)) (fun _ h9 => h9) rfl dX5_length_23 ?_
  refine lv_iload_n hx hb dX5_length_26 rfl (lv_at hl 0 rfl) ?_
  refine g_iald hx hb hK hP 7 0 rfl rfl (5 * (b) + (q)) rfl (by omega) (by decide) dX5_length_27 ?_
  refine g_top (y := (nI (x))) h11 ?_
  refine g_isub_n hx hb dX5_length_28 (by omega) ?_
  exact W.iret (v := (nI (y - x))) hx hb hr (fun t ht hW => ⟨_, rfl, rfl, ht⟩) (fun _ h => nomatch h) dX5_length_29
