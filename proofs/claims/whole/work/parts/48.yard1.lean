set_option maxHeartbeats 4000000 in
set_option maxRecDepth 100000 in
theorem c_X4_formAt (l : Launch) (hlt : l.stackTraces = false) (D : va_G) (cy : Nat → ClassId) (sz : Nat) (sa : Nat → Nat) (K : List Nat) (ad : Nat → Nat) (E : Nat → va_E) (h0 : 0 ∈ K) (nF nB nC nw : Nat) (hE0 : E 0 = yardO ad nF nB nC nw) (hkq : 1 ∈ K) (fq : Nat → Option Nat) (hEq : E 1 = rowQ cy 3 8 fq) (hfq : refR ad 1000 nF fq) (hcn : nF ≤ 8) (a : Int32) : vx_Met l yX4_formAt wsX4_formAt ({ frames := 6, cells := 1, slots := 6, locals := 82 } : Room) (va_Pc [.ref ((ad (0))), .int (a)] (wX D cy sz sa (kW K ad E))) (va_Qr (fun _ : Unit => isIx a nF) (fun _ (ra : Nat) t => ra = ad (1000 + ix a) ∧ wE D cy (va_A (kW K ad E) sz) (kW K ad E) t) (va_A (kW K ad E) sz)) (vx_X (fun _ : Unit => True) (fun (En : String) _ t => (En = "java/util/NoSuchElementException" ∧ ¬ isIx a nF) ∧ wE D cy (va_A (kW K ad E) sz) (kW K ad E) t) (va_A (kW K ad E) sz)) 1 6 (va_A (kW K ad E) sz) := by
  refine vx_ofW (cc := cX4_formAt) (maxL := 3) (ret := (some (.object "CaskYard$Form"))) (by decide) rfl ?_
  intro p e s m args below meth c s₁ B hml htb hv
  obtain ⟨rfl, ⟨⟨hsz, hP, hK, hD0⟩, hN⟩, hX, hZ⟩ := hv
  have hx := B.exec
  have hb := B.bytes
  have hr := B.returns
  have hts := atoms_spec (ws := wsX4_formAt) B.pre
  have hown : s.vm.findClass RX4 = some m.cls := findClass_of_methodNamed B.named
  have hlocks := B.notSynchronized
  subst hsz
  have hD := hD0.self (sz := s.heap.size)
  generalize hAe : va_A (kW K ad E) s.heap.size = A at hD hZ ⊢
  have hA : ∀ q : Nat, s.heap.size ≤ q → A q := w_A hAe
  have hS : va_S A s.heap s.heap [] := va_S.rf
  have hnd := kW_nd hD
  have hl := lv_entry ([.ref ((ad (0))), .int (a)]) (n := 3) (Nat.le_of_ble_eq_true rfl)
  rw [lg_entry_eq]
  generalize (lg_sl ([.ref ((ad (0))), .int (a)]) ++ List.replicate (3 - (lg_sl ([.ref ((ad (0))), .int (a)])).length) Slot.unset).toArray = ls at hl ⊢
  have hl : lv_has ls 3 [(0, .ref ((ad (0)))), (1, .int (a))] := hl
  refine lv_iload_n hx hb dX4_formAt_0 rfl (lv_at hl 1 rfl) ?_
  refine g_if_lt (tgt := 10) hx hb dX4_formAt_1 (by decide) rfl (fun c_1 => ?_) (fun c_1 => ?_)
  · skip
    have hno : ¬ isIx a nF := fun q9 => by have := q9.1; omega
    refine lv_null hx hb dX4_formAt_10 ?_
    refine lv_goto (tgt := 20) hx hb dX4_formAt_11 (by decide) ?_
    refine lv_astore_nN (lv' := [(2, .null), (0, .ref ((ad (0)))), (1, .int (a))]) hx hb dX4_formAt_20 rfl hl (by decide) rfl (fun ls hl => ?_)
    refine lv_aload_nN hx hb dX4_formAt_21 rfl (lv_at hl 0 rfl) ?_
    refine lv_ifnonnullN hx hb dX4_formAt_22 ?_
    exact g_thrN hx hb hlt hown hts (by decide +kernel) (by decide +kernel) (by decide +kernel) hX (is := 221) (text := "no such form") (by decide) hZ hP hK hD hS (hl.1.trans hml.symm) htb (Nat.lt_of_lt_of_le (show 5 < 6 by decide) (Nat.le_of_ble_eq_true rfl)) (Nat.le_of_ble_eq_true rfl) (Nat.le_of_ble_eq_true rfl) (Nat.le_of_ble_eq_true rfl) hlocks (fun t hw9 hF9 => ⟨(), trivial, ⟨⟨rfl, hno⟩, hw9⟩, hF9⟩) hS.2.2 (by decide) (by decide) dX4_formAt_25 dX4_formAt_28 dX4_formAt_29 dX4_formAt_31 dX4_formAt_34
  · skip
    refine lv_iload_n hx hb dX4_formAt_4 rfl (lv_at hl 1 rfl) ?_
    refine lv_bipush (v := (nI (8))) hx hb dX4_formAt_5 (by decide) ?_
    refine g_icmp_lt (tgt := 14) hx hb dX4_formAt_7 (by decide) rfl (n_i (by omega)) (fun c_7 => ?_) (fun c_7 => ?_)
    · skip
      have hxa := ix_c (a := a) (by omega)
      have ha := ix_n (a := a) (by omega)
      have hl : lv_has ls 3 [(0, .ref ((ad (0)))), (1, .int (nI (ix a)))] := by rw [← ha]; exact hl
      refine lv_aload_n hx hb dX4_formAt_14 rfl (lv_at hl 0 rfl) ?_
      obtain ⟨p1, hp1⟩ := kW_pos h0
      refine va_get (D := D) (ci := 4) (v := .ref ((ad (1)))) (C := RX4) (T := TX4) (N := 11) hx hb hts (by decide +kernel) hown hK hP p1 (kW_get hp1 hE0) rfl 0 (by decide) (hts (.fieldLink RX4 11 "CaskYard" "forms" "[LCaskYard$Form;") (by decide +kernel)) (fun _ h9 => h9) rfl dX4_formAt_15 ?_
      refine lv_iload_n hx hb dX4_formAt_18 rfl (lv_at hl 1 rfl) ?_
      obtain ⟨p2, hp2⟩ := kW_pos hkq
      refine g_aald hx hb hK hP p2 3 (kW_get hp2 hEq) rfl (ix a) rfl (by omega) (by decide) dX4_formAt_19 ?_
      by_cases hcas : ix a < nF
      · skip
        refine g_topr (y := .ref ((ad (1000 + ix a)))) (ref_t hfq hcas) ?_
        have hyes : isIx a nF := ix_of (by omega) hcas
        refine lv_astore_n (lv' := [(2, .ref ((ad (1000 + ix a)))), (0, .ref ((ad (0)))), (1, .int (nI (ix a)))]) hx hb dX4_formAt_20 rfl hl (by decide) rfl (fun ls hl => ?_)
        refine lv_aload_n hx hb dX4_formAt_21 rfl (lv_at hl 0 rfl) ?_
        refine lv_ifnonnull (tgt := 35) hx hb dX4_formAt_22 (by decide) ?_
        refine lv_aload_n hx hb dX4_formAt_35 rfl (lv_at hl 0 rfl) ?_
        refine vx_ret ?_
        refine W.widen (k := 1) (n := 6) (by omega) (by omega) ?_
        exact W.aret (v := .ref ((ad (1000 + ix a)))) hx hb hr (Or.inl ⟨_, rfl⟩) (Or.inr ⟨_, rfl⟩) (fun t ht hW => ⟨⟨(), (ad (1000 + ix a)), rfl, hyes, rfl, by rw [ht]; exact hP, va_K.moved hW.alike hK, hD⟩, hS.F ht⟩) hS.2.2 dX4_formAt_36
      · skip
        refine g_topr (y := .null) (ref_f hfq hcas) ?_
        have hno : ¬ isIx a nF := fun q9 => hcas (ix_lt q9)
        refine lv_astore_nN (lv' := [(2, .null), (0, .ref ((ad (0)))), (1, .int (nI (ix a)))]) hx hb dX4_formAt_20 rfl hl (by decide) rfl (fun ls hl => ?_)
        refine lv_aload_nN hx hb dX4_formAt_21 rfl (lv_at hl 0 rfl) ?_
        refine lv_ifnonnullN hx hb dX4_formAt_22 ?_
        exact g_thrN hx hb hlt hown hts (by decide +kernel) (by decide +kernel) (by decide +kernel) hX (is := 221) (text := "no such form") (by decide) hZ hP hK hD hS (hl.1.trans hml.symm) htb (Nat.lt_of_lt_of_le (show 5 < 6 by decide) (Nat.le_of_ble_eq_true rfl)) (Nat.le_of_ble_eq_true rfl) (Nat.le_of_ble_eq_true rfl) (Nat.le_of_ble_eq_true rfl) hlocks (fun t hw9 hF9 => ⟨(), trivial, ⟨⟨rfl, hno⟩, hw9⟩, hF9⟩) hS.2.2 (by decide) (by decide) dX4_formAt_25 dX4_formAt_28 dX4_formAt_29 dX4_formAt_31 dX4_formAt_34
    · skip
      have hno : ¬ isIx a nF := fun q9 => by have := q9.2; omega
      refine lv_null hx hb dX4_formAt_10 ?_
      refine lv_goto (tgt := 20) hx hb dX4_formAt_11 (by decide) ?_
      refine lv_astore_nN (lv' := [(2, .null), (0, .ref ((ad (0)))), (1, .int (a))]) hx hb dX4_formAt_20 rfl hl (by decide) rfl (fun ls hl => ?_)
      refine lv_aload_nN hx hb dX4_formAt_21 rfl (lv_at hl 0 rfl) ?_
      refine lv_ifnonnullN hx hb dX4_formAt_22 ?_
      exact g_thrN hx hb hlt hown hts (by decide +kernel) (by decide +kernel) (by decide +kernel) hX (is := 221) (text := "no such form") (by decide) hZ hP hK hD hS (hl.1.trans hml.symm) htb (Nat.lt_of_lt_of_le (show 5 < 6 by decide) (Nat.le_of_ble_eq_true rfl)) (Nat.le_of_ble_eq_true rfl) (Nat.le_of_ble_eq_true rfl) (Nat.le_of_ble_eq_true rfl) hlocks (fun t hw9 hF9 => ⟨(), trivial, ⟨⟨rfl, hno⟩, hw9⟩, hF9⟩) hS.2.2 (by decide) (by decide) dX4_formAt_25 dX4_formAt_28 dX4_formAt_29 dX4_formAt_31 dX4_formAt_34
set_option maxHeartbeats 4000000 in
set_option maxRecDepth 100000 in
theorem c_X4_boltAt (l : Launch) (hlt : l.stackTraces = false) (D : va_G) (cy : Nat → ClassId) (sz : Nat) (sa : Nat → Nat) (K : List Nat) (ad : Nat → Nat) (E : Nat → va_E) (h0 : 0 ∈ K) (nF nB nC nw : Nat) (hE0 : E 0 = yardO ad nF nB nC nw) (hkq : 2 ∈ K) (fq : Nat → Option Nat) (hEq : E 2 = rowQ cy 4 40 fq) (hfq : refR ad 2000 nB fq) (hcn : nB ≤ 40) (a : Int32) : vx_Met l yX4_boltAt wsX4_boltAt ({ frames := 6, cells := 1, slots := 6, locals := 82 } : Room) (va_Pc [.ref ((ad (0))), .int (a)] (wX D cy sz sa (kW K ad E))) (va_Qr (fun _ : Unit => isIx a nB) (fun _ (ra : Nat) t => ra = ad (2000 + ix a) ∧ wE D cy (va_A (kW K ad E) sz) (kW K ad E) t) (va_A (kW K ad E) sz)) (vx_X (fun _ : Unit => True) (fun (En : String) _ t => (En = "java/util/NoSuchElementException" ∧ ¬ isIx a nB) ∧ wE D cy (va_A (kW K ad E) sz) (kW K ad E) t) (va_A (kW K ad E) sz)) 1 6 (va_A (kW K ad E) sz) := by
  refine vx_ofW (cc := cX4_boltAt) (maxL := 3) (ret := (some (.object "CaskYard$Bolt"))) (by decide) rfl ?_
  intro p e s m args below meth c s₁ B hml htb hv
  obtain ⟨rfl, ⟨⟨hsz, hP, hK, hD0⟩, hN⟩, hX, hZ⟩ := hv
  have hx := B.exec
  have hb := B.bytes
  have hr := B.returns
  have hts := atoms_spec (ws := wsX4_boltAt) B.pre
  have hown : s.vm.findClass RX4 = some m.cls := findClass_of_methodNamed B.named
  have hlocks := B.notSynchronized
  subst hsz
  have hD := hD0.self (sz := s.heap.size)
  generalize hAe : va_A (kW K ad E) s.heap.size = A at hD hZ ⊢
  have hA : ∀ q : Nat, s.heap.size ≤ q → A q := w_A hAe
  have hS : va_S A s.heap s.heap [] := va_S.rf
  have hnd := kW_nd hD
  have hl := lv_entry ([.ref ((ad (0))), .int (a)]) (n := 3) (Nat.le_of_ble_eq_true rfl)
  rw [lg_entry_eq]
  generalize (lg_sl ([.ref ((ad (0))), .int (a)]) ++ List.replicate (3 - (lg_sl ([.ref ((ad (0))), .int (a)])).length) Slot.unset).toArray = ls at hl ⊢
  have hl : lv_has ls 3 [(0, .ref ((ad (0)))), (1, .int (a))] := hl
  refine lv_iload_n hx hb dX4_boltAt_0 rfl (lv_at hl 1 rfl) ?_
  refine g_if_lt (tgt := 10) hx hb dX4_boltAt_1 (by decide) rfl (fun c_1 => ?_) (fun c_1 => ?_)
  · skip
    have hno : ¬ isIx a nB := fun q9 => by have := q9.1; omega
    refine lv_null hx hb dX4_boltAt_10 ?_
    refine lv_goto (tgt := 20) hx hb dX4_boltAt_11 (by decide) ?_
    refine lv_astore_nN (lv' := [(2, .null), (0, .ref ((ad (0)))), (1, .int (a))]) hx hb dX4_boltAt_20 rfl hl (by decide) rfl (fun ls hl => ?_)
    refine lv_aload_nN hx hb dX4_boltAt_21 rfl (lv_at hl 0 rfl) ?_
    refine lv_ifnonnullN hx hb dX4_boltAt_22 ?_
    exact g_thrN hx hb hlt hown hts (by decide +kernel) (by decide +kernel) (by decide +kernel) hX (is := 223) (text := "no such bolt") (by decide) hZ hP hK hD hS (hl.1.trans hml.symm) htb (Nat.lt_of_lt_of_le (show 5 < 6 by decide) (Nat.le_of_ble_eq_true rfl)) (Nat.le_of_ble_eq_true rfl) (Nat.le_of_ble_eq_true rfl) (Nat.le_of_ble_eq_true rfl) hlocks (fun t hw9 hF9 => ⟨(), trivial, ⟨⟨rfl, hno⟩, hw9⟩, hF9⟩) hS.2.2 (by decide) (by decide) dX4_boltAt_25 dX4_boltAt_28 dX4_boltAt_29 dX4_boltAt_31 dX4_boltAt_34
  · skip
    refine lv_iload_n hx hb dX4_boltAt_4 rfl (lv_at hl 1 rfl) ?_
    refine lv_bipush (v := (nI (40))) hx hb dX4_boltAt_5 (by decide) ?_
    refine g_icmp_lt (tgt := 14) hx hb dX4_boltAt_7 (by decide) rfl (n_i (by omega)) (fun c_7 => ?_) (fun c_7 => ?_)
    · skip
      have hxa := ix_c (a := a) (by omega)
      have ha := ix_n (a := a) (by omega)
      have hl : lv_has ls 3 [(0, .ref ((ad (0)))), (1, .int (nI (ix a)))] := by rw [← ha]; exact hl
      refine lv_aload_n hx hb dX4_boltAt_14 rfl (lv_at hl 0 rfl) ?_
      obtain ⟨p1, hp1⟩ := kW_pos h0
      refine va_get (D := D) (ci := 4) (v := .ref ((ad (2)))) (C := RX4) (T := TX4) (N := 11) hx hb hts (by decide +kernel) hown hK hP p1 (kW_get hp1 hE0) rfl 1 (by decide) (hts (.fieldLink RX4 17 "CaskYard" "bolts" "[LCaskYard$Bolt;") (by decide +kernel)) (fun _ h9 => h9) rfl dX4_boltAt_15 ?_
      refine lv_iload_n hx hb dX4_boltAt_18 rfl (lv_at hl 1 rfl) ?_
      obtain ⟨p2, hp2⟩ := kW_pos hkq
      refine g_aald hx hb hK hP p2 4 (kW_get hp2 hEq) rfl (ix a) rfl (by omega) (by decide) dX4_boltAt_19 ?_
      by_cases hcas : ix a < nB
      · skip
        refine g_topr (y := .ref ((ad (2000 + ix a)))) (ref_t hfq hcas) ?_
        have hyes : isIx a nB := ix_of (by omega) hcas
        refine lv_astore_n (lv' := [(2, .ref ((ad (2000 + ix a)))), (0, .ref ((ad (0)))), (1, .int (nI (ix a)))]) hx hb dX4_boltAt_20 rfl hl (by decide) rfl (fun ls hl => ?_)
        refine lv_aload_n hx hb dX4_boltAt_21 rfl (lv_at hl 0 rfl) ?_
        refine lv_ifnonnull (tgt := 35) hx hb dX4_boltAt_22 (by decide) ?_
        refine lv_aload_n hx hb dX4_boltAt_35 rfl (lv_at hl 0 rfl) ?_
        refine vx_ret ?_
        refine W.widen (k := 1) (n := 6) (by omega) (by omega) ?_
        exact W.aret (v := .ref ((ad (2000 + ix a)))) hx hb hr (Or.inl ⟨_, rfl⟩) (Or.inr ⟨_, rfl⟩) (fun t ht hW => ⟨⟨(), (ad (2000 + ix a)), rfl, hyes, rfl, by rw [ht]; exact hP, va_K.moved hW.alike hK, hD⟩, hS.F ht⟩) hS.2.2 dX4_boltAt_36
      · skip
        refine g_topr (y := .null) (ref_f hfq hcas) ?_
        have hno : ¬ isIx a nB := fun q9 => hcas (ix_lt q9)
        refine lv_astore_nN (lv' := [(2, .null), (0, .ref ((ad (0)))), (1, .int (nI (ix a)))]) hx hb dX4_boltAt_20 rfl hl (by decide) rfl (fun ls hl => ?_)
        refine lv_aload_nN hx hb dX4_boltAt_21 rfl (lv_at hl 0 rfl) ?_
        refine lv_ifnonnullN hx hb dX4_boltAt_22 ?_
        exact g_thrN hx hb hlt hown hts (by decide +kernel) (by decide +kernel) (by decide +kernel) hX (is := 223) (text := "no such bolt") (by decide) hZ hP hK hD hS (hl.1.trans hml.symm) htb (Nat.lt_of_lt_of_le (show 5 < 6 by decide) (Nat.le_of_ble_eq_true rfl)) (Nat.le_of_ble_eq_true rfl) (Nat.le_of_ble_eq_true rfl) (Nat.le_of_ble_eq_true rfl) hlocks (fun t hw9 hF9 => ⟨(), trivial, ⟨⟨rfl, hno⟩, hw9⟩, hF9⟩) hS.2.2 (by decide) (by decide) dX4_boltAt_25 dX4_boltAt_28 dX4_boltAt_29 dX4_boltAt_31 dX4_boltAt_34
    · skip
      have hno : ¬ isIx a nB := fun q9 => by have := q9.2; omega
      refine lv_null hx hb dX4_boltAt_10 ?_
      refine lv_goto (tgt := 20) hx hb dX4_boltAt_11 (by decide) ?_
      refine lv_astore_nN (lv' := [(2, .null), (0, .ref ((ad (0)))), (1, .int (a))]) hx hb dX4_boltAt_20 rfl hl (by decide) rfl (fun ls hl => ?_)
      refine lv_aload_nN hx hb dX4_boltAt_21 rfl (lv_at hl 0 rfl) ?_
      refine lv_ifnonnullN hx hb dX4_boltAt_22 ?_
      exact g_thrN hx hb hlt hown hts (by decide +kernel) (by decide +kernel) (by decide +kernel) hX (is := 223) (text := "no such bolt") (by decide) hZ hP hK hD hS (hl.1.trans hml.symm) htb (Nat.lt_of_lt_of_le (show 5 < 6 by decide) (Nat.le_of_ble_eq_true rfl)) (Nat.le_of_ble_eq_true rfl) (Nat.le_of_ble_eq_true rfl) (Nat.le_of_ble_eq_true rfl) hlocks (fun t hw9 hF9 => ⟨(), trivial, ⟨⟨rfl, hno⟩, hw9⟩, hF9⟩) hS.2.2 (by decide) (by decide) dX4_boltAt_25 dX4_boltAt_28 dX4_boltAt_29 dX4_boltAt_31 dX4_boltAt_34
set_option maxHeartbeats 4000000 in
set_option maxRecDepth 100000 in
theorem c_X4_caskAt (l : Launch) (hlt : l.stackTraces = false) (D : va_G) (cy : Nat → ClassId) (sz : Nat) (sa : Nat → Nat) (K : List Nat) (ad : Nat → Nat) (E : Nat → va_E) (h0 : 0 ∈ K) (nF nB nC nw : Nat) (hE0 : E 0 = yardO ad nF nB nC nw) (hkq : 3 ∈ K) (fq : Nat → Option Nat) (hEq : E 3 = rowQ cy 5 30 fq) (hfq : refR ad 5000 nC fq) (hcn : nC ≤ 30) (a : Int32) : vx_Met l yX4_caskAt wsX4_caskAt ({ frames := 6, cells := 1, slots := 6, locals := 82 } : Room) (va_Pc [.ref ((ad (0))), .int (a)] (wX D cy sz sa (kW K ad E))) (va_Qr (fun _ : Unit => isIx a nC) (fun _ (ra : Nat) t => ra = ad (5000 + ix a) ∧ wE D cy (va_A (kW K ad E) sz) (kW K ad E) t) (va_A (kW K ad E) sz)) (vx_X (fun _ : Unit => True) (fun (En : String) _ t => (En = "java/util/NoSuchElementException" ∧ ¬ isIx a nC) ∧ wE D cy (va_A (kW K ad E) sz) (kW K ad E) t) (va_A (kW K ad E) sz)) 1 6 (va_A (kW K ad E) sz) := by
  refine vx_ofW (cc := cX4_caskAt) (maxL := 3) (ret := (some (.object "CaskYard$Cask"))) (by decide) rfl ?_
  intro p e s m args below meth c s₁ B hml htb hv
  obtain ⟨rfl, ⟨⟨hsz, hP, hK, hD0⟩, hN⟩, hX, hZ⟩ := hv
  have hx := B.exec
  have hb := B.bytes
  have hr := B.returns
  have hts := atoms_spec (ws := wsX4_caskAt) B.pre
  have hown : s.vm.findClass RX4 = some m.cls := findClass_of_methodNamed B.named
  have hlocks := B.notSynchronized
  subst hsz
  have hD := hD0.self (sz := s.heap.size)
  generalize hAe : va_A (kW K ad E) s.heap.size = A at hD hZ ⊢
  have hA : ∀ q : Nat, s.heap.size ≤ q → A q := w_A hAe
  have hS : va_S A s.heap s.heap [] := va_S.rf
  have hnd := kW_nd hD
  have hl := lv_entry ([.ref ((ad (0))), .int (a)]) (n := 3) (Nat.le_of_ble_eq_true rfl)
  rw [lg_entry_eq]
  generalize (lg_sl ([.ref ((ad (0))), .int (a)]) ++ List.replicate (3 - (lg_sl ([.ref ((ad (0))), .int (a)])).length) Slot.unset).toArray = ls at hl ⊢
  have hl : lv_has ls 3 [(0, .ref ((ad (0)))), (1, .int (a))] := hl
  refine lv_iload_n hx hb dX4_caskAt_0 rfl (lv_at hl 1 rfl) ?_
  refine g_if_lt (tgt := 10) hx hb dX4_caskAt_1 (by decide) rfl (fun c_1 => ?_) (fun c_1 => ?_)
  · skip
    have hno : ¬ isIx a nC := fun q9 => by have := q9.1; omega
    refine lv_null hx hb dX4_caskAt_10 ?_
    refine lv_goto (tgt := 20) hx hb dX4_caskAt_11 (by decide) ?_
    refine lv_astore_nN (lv' := [(2, .null), (0, .ref ((ad (0)))), (1, .int (a))]) hx hb dX4_caskAt_20 rfl hl (by decide) rfl (fun ls hl => ?_)
    refine lv_aload_nN hx hb dX4_caskAt_21 rfl (lv_at hl 0 rfl) ?_
    refine lv_ifnonnullN hx hb dX4_caskAt_22 ?_
    exact g_thrN hx hb hlt hown hts (by decide +kernel) (by decide +kernel) (by decide +kernel) hX (is := 225) (text := "no such cask") (by decide) hZ hP hK hD hS (hl.1.trans hml.symm) htb (Nat.lt_of_lt_of_le (show 5 < 6 by decide) (Nat.le_of_ble_eq_true rfl)) (Nat.le_of_ble_eq_true rfl) (Nat.le_of_ble_eq_true rfl) (Nat.le_of_ble_eq_true rfl) hlocks (fun t hw9 hF9 => ⟨(), trivial, ⟨⟨rfl, hno⟩, hw9⟩, hF9⟩) hS.2.2 (by decide) (by decide) dX4_caskAt_25 dX4_caskAt_28 dX4_caskAt_29 dX4_caskAt_31 dX4_caskAt_34
  · skip
    refine lv_iload_n hx hb dX4_caskAt_4 rfl (lv_at hl 1 rfl) ?_
    refine lv_bipush (v := (nI (30))) hx hb dX4_caskAt_5 (by decide) ?_
    refine g_icmp_lt (tgt := 14) hx hb dX4_caskAt_7 (by decide) rfl (n_i (by omega)) (fun c_7 => ?_) (fun c_7 => ?_)
    · skip
      have hxa := ix_c (a := a) (by omega)
      have ha := ix_n (a := a) (by omega)
      have hl : lv_has ls 3 [(0, .ref ((ad (0)))), (1, .int (nI (ix a)))] := by rw [← ha]; exact hl
      refine lv_aload_n hx hb dX4_caskAt_14 rfl (lv_at hl 0 rfl) ?_
      obtain ⟨p1, hp1⟩ := kW_pos h0
      refine va_get (D := D) (ci := 4) (v := .ref ((ad (3)))) (C := RX4) (T := TX4) (N := 11) hx hb hts (by decide +kernel) hown hK hP p1 (kW_get hp1 hE0) rfl 2 (by decide) (hts (.fieldLink RX4 23 "CaskYard" "casks" "[LCaskYard$Cask;") (by decide +kernel)) (fun _ h9 => h9) rfl dX4_caskAt_15 ?_
      refine lv_iload_n hx hb dX4_caskAt_18 rfl (lv_at hl 1 rfl) ?_
      obtain ⟨p2, hp2⟩ := kW_pos hkq
      refine g_aald hx hb hK hP p2 5 (kW_get hp2 hEq) rfl (ix a) rfl (by omega) (by decide) dX4_caskAt_19 ?_
      by_cases hcas : ix a < nC
      · skip
        refine g_topr (y := .ref ((ad (5000 + ix a)))) (ref_t hfq hcas) ?_
        have hyes : isIx a nC := ix_of (by omega) hcas
        refine lv_astore_n (lv' := [(2, .ref ((ad (5000 + ix a)))), (0, .ref ((ad (0)))), (1, .int (nI (ix a)))]) hx hb dX4_caskAt_20 rfl hl (by decide) rfl (fun ls hl => ?_)
        refine lv_aload_n hx hb dX4_caskAt_21 rfl (lv_at hl 0 rfl) ?_
        refine lv_ifnonnull (tgt := 35) hx hb dX4_caskAt_22 (by decide) ?_
        refine lv_aload_n hx hb dX4_caskAt_35 rfl (lv_at hl 0 rfl) ?_
        refine vx_ret ?_
        refine W.widen (k := 1) (n := 6) (by omega) (by omega) ?_
        exact W.aret (v := .ref ((ad (5000 + ix a)))) hx hb hr (Or.inl ⟨_, rfl⟩) (Or.inr ⟨_, rfl⟩) (fun t ht hW => ⟨⟨(), (ad (5000 + ix a)), rfl, hyes, rfl, by rw [ht]; exact hP, va_K.moved hW.alike hK, hD⟩, hS.F ht⟩) hS.2.2 dX4_caskAt_36
      · skip
        refine g_topr (y := .null) (ref_f hfq hcas) ?_
        have hno : ¬ isIx a nC := fun q9 => hcas (ix_lt q9)
        refine lv_astore_nN (lv' := [(2, .null), (0, .ref ((ad (0)))), (1, .int (nI (ix a)))]) hx hb dX4_caskAt_20 rfl hl (by decide) rfl (fun ls hl => ?_)
        refine lv_aload_nN hx hb dX4_caskAt_21 rfl (lv_at hl 0 rfl) ?_
        refine lv_ifnonnullN hx hb dX4_caskAt_22 ?_
        exact g_thrN hx hb hlt hown hts (by decide +kernel) (by decide +kernel) (by decide +kernel) hX (is := 225) (text := "no such cask") (by decide) hZ hP hK hD hS (hl.1.trans hml.symm) htb (Nat.lt_of_lt_of_le (show 5 < 6 by decide) (Nat.le_of_ble_eq_true rfl)) (Nat.le_of_ble_eq_true rfl) (Nat.le_of_ble_eq_true rfl) (Nat.le_of_ble_eq_true rfl) hlocks (fun t hw9 hF9 => ⟨(), trivial, ⟨⟨rfl, hno⟩, hw9⟩, hF9⟩) hS.2.2 (by decide) (by decide) dX4_caskAt_25 dX4_caskAt_28 dX4_caskAt_29 dX4_caskAt_31 dX4_caskAt_34
    · skip
      have hno : ¬ isIx a nC := fun q9 => by have := q9.2; omega
      refine lv_null hx hb dX4_caskAt_10 ?_
      refine lv_goto (tgt := 20) hx hb dX4_caskAt_11 (by decide) ?_
      refine lv_astore_nN (lv' := [(2, .null), (0, .ref ((ad (0)))), (1, .int (a))]) hx hb dX4_caskAt_20 rfl hl (by decide) rfl (fun ls hl => ?_)
      refine lv_aload_nN hx hb dX4_caskAt_21 rfl (lv_at hl 0 rfl) ?_
      refine lv_ifnonnullN hx hb dX4_caskAt_22 ?_
      exact g_thrN hx hb hlt hown hts (by decide +kernel) (by decide +kernel) (by decide +kernel) hX (is := 225) (text := "no such cask") (by decide) hZ hP hK hD hS (hl.1.trans hml.symm) htb (Nat.lt_of_lt_of_le (show 5 < 6 by decide) (Nat.le_of_ble_eq_true rfl)) (Nat.le_of_ble_eq_true rfl) (Nat.le_of_ble_eq_true rfl) (Nat.le_of_ble_eq_true rfl) hlocks (fun t hw9 hF9 => ⟨(), trivial, ⟨⟨rfl, hno⟩, hw9⟩, hF9⟩) hS.2.2 (by decide) (by decide) dX4_caskAt_25 dX4_caskAt_28 dX4_caskAt_29 dX4_caskAt_31 dX4_caskAt_34
set_option maxHeartbeats 4000000 in
set_option maxRecDepth 100000 in
theorem c_X4_checkStave (l : Launch) (hlt : l.stackTraces = false) (D : va_G) (cy : Nat → ClassId) (sz : Nat) (sa : Nat → Nat) (K : List Nat) (ad : Nat → Nat) (E : Nat → va_E) (kf : Nat) (hkf : kf ∈ K) (hh gg ee nn : Nat) (hEf : E kf = cellF hh gg ee nn) (hfo : formOk hh gg ee nn) (a : Int32) : vx_Met l yX4_checkStave wsX4_checkStave ({ frames := 6, cells := 1, slots := 6, locals := 82 } : Room) (va_Pc [.ref ((ad (kf))), .int (a)] (wX D cy sz sa (kW K ad E))) (va_Qv (fun (u : Nat → va_E) => u = E ∧ isIx a (nn)) (fun u t => wE D cy (va_A (kW K ad E) sz) (kW K ad u) t) (va_A (kW K ad E) sz)) (vx_X (fun _ : Unit => True) (fun (En : String) _ t => (En = "java/util/NoSuchElementException" ∧ ¬ isIx a (nn)) ∧ wE D cy (va_A (kW K ad E) sz) (kW K ad E) t) (va_A (kW K ad E) sz)) 1 6 (va_A (kW K ad E) sz) := by
  refine vx_ofW (cc := cX4_checkStave) (maxL := 2) (ret := none) (by decide) rfl ?_
  intro p e s m args below meth c s₁ B hml htb hv
  obtain ⟨rfl, ⟨⟨hsz, hP, hK, hD0⟩, hN⟩, hX, hZ⟩ := hv
  have hx := B.exec
  have hb := B.bytes
  have hr := B.returns
  have hts := atoms_spec (ws := wsX4_checkStave) B.pre
  have hown : s.vm.findClass RX4 = some m.cls := findClass_of_methodNamed B.named
  have hlocks := B.notSynchronized
  subst hsz
  have hD := hD0.self (sz := s.heap.size)
  generalize hAe : va_A (kW K ad E) s.heap.size = A at hD hZ ⊢
  have hA : ∀ q : Nat, s.heap.size ≤ q → A q := w_A hAe
  have hS : va_S A s.heap s.heap [] := va_S.rf
  have hnd := kW_nd hD
  have hl := lv_entry ([.ref ((ad (kf))), .int (a)]) (n := 2) (Nat.le_of_ble_eq_true rfl)
  rw [lg_entry_eq]
  generalize (lg_sl ([.ref ((ad (kf))), .int (a)]) ++ List.replicate (2 - (lg_sl ([.ref ((ad (kf))), .int (a)])).length) Slot.unset).toArray = ls at hl ⊢
  have hl : lv_has ls 2 [(0, .ref ((ad (kf)))), (1, .int (a))] := hl
  refine lv_iload_n hx hb dX4_checkStave_0 rfl (lv_at hl 1 rfl) ?_
  refine g_if_lt (tgt := 12) hx hb dX4_checkStave_1 (by decide) rfl (fun c_1 => ?_) (fun c_1 => ?_)
  · skip
    exact g_thrN hx hb hlt hown hts (by decide +kernel) (by decide +kernel) (by decide +kernel) hX (is := 230) (text := "no such stave") (by decide) hZ hP hK hD hS (hl.1.trans hml.symm) htb (Nat.lt_of_lt_of_le (show 5 < 6 by decide) (Nat.le_of_ble_eq_true rfl)) (Nat.le_of_ble_eq_true rfl) (Nat.le_of_ble_eq_true rfl) (Nat.le_of_ble_eq_true rfl) hlocks (fun t hw9 hF9 => ⟨(), trivial, ⟨⟨rfl, fun q9 => by have := q9.1; have := q9.2; omega⟩, hw9⟩, hF9⟩) hS.2.2 (by decide) (by decide) dX4_checkStave_12 dX4_checkStave_15 dX4_checkStave_16 dX4_checkStave_18 dX4_checkStave_21
  · skip
    refine lv_iload_n hx hb dX4_checkStave_4 rfl (lv_at hl 1 rfl) ?_
    refine lv_aload_n hx hb dX4_checkStave_5 rfl (lv_at hl 0 rfl) ?_
    obtain ⟨p1, hp1⟩ := kW_pos hkf
    refine va_get (D := D) (ci := 2) (v := .int (nI (nn))) (C := RX2) (T := TX2) (N := 4) hx hb hts (by decide +kernel) hown hK hP p1 (kW_get hp1 hEf) rfl 3 (by decide) (hts (.fieldLink RX4 227 "CaskYard$Form" "staves" "I") (by decide +kernel)) (fun _ h9 => h9) rfl dX4_checkStave_6 ?_
    refine g_icmp_lt (tgt := 22) hx hb dX4_checkStave_9 (by decide) rfl (n_i (by omega)) (fun c_9 => ?_) (fun c_9 => ?_)
    · skip
      refine vx_ret ?_
      refine W.widen (k := 1) (n := 6) (by omega) (by omega) ?_
      exact W.vret hx hb hr (fun t ht hW => ⟨⟨E, rfl, ⟨rfl, by omega, by omega⟩, by rw [ht]; exact hP, va_K.moved hW.alike hK, hD⟩, hS.F ht⟩) hS.2.2 dX4_checkStave_22
    · skip
      exact g_thrN hx hb hlt hown hts (by decide +kernel) (by decide +kernel) (by decide +kernel) hX (is := 230) (text := "no such stave") (by decide) hZ hP hK hD hS (hl.1.trans hml.symm) htb (Nat.lt_of_lt_of_le (show 5 < 6 by decide) (Nat.le_of_ble_eq_true rfl)) (Nat.le_of_ble_eq_true rfl) (Nat.le_of_ble_eq_true rfl) (Nat.le_of_ble_eq_true rfl) hlocks (fun t hw9 hF9 => ⟨(), trivial, ⟨⟨rfl, fun q9 => by have := q9.1; have := q9.2; omega⟩, hw9⟩, hF9⟩) hS.2.2 (by decide) (by decide) dX4_checkStave_12 dX4_checkStave_15 dX4_checkStave_16 dX4_checkStave_18 dX4_checkStave_21
set_option maxHeartbeats 4000000 in
set_option maxRecDepth 100000 in
theorem c_X4_checkHeight (l : Launch) (hlt : l.stackTraces = false) (D : va_G) (cy : Nat → ClassId) (sz : Nat) (sa : Nat → Nat) (K : List Nat) (ad : Nat → Nat) (E : Nat → va_E) (kf : Nat) (hkf : kf ∈ K) (hh gg ee nn : Nat) (hEf : E kf = cellF hh gg ee nn) (hfo : formOk hh gg ee nn) (a : Int32) : vx_Met l yX4_checkHeight wsX4_checkHeight ({ frames := 6, cells := 1, slots := 6, locals := 82 } : Room) (va_Pc [.ref ((ad (kf))), .int (a)] (wX D cy sz sa (kW K ad E))) (va_Qv (fun (u : Nat → va_E) => u = E ∧ isIx a (hh + 1)) (fun u t => wE D cy (va_A (kW K ad E) sz) (kW K ad u) t) (va_A (kW K ad E) sz)) (vx_X (fun _ : Unit => True) (fun (En : String) _ t => (En = "java/lang/IllegalArgumentException" ∧ ¬ isIx a (hh + 1)) ∧ wE D cy (va_A (kW K ad E) sz) (kW K ad E) t) (va_A (kW K ad E) sz)) 1 6 (va_A (kW K ad E) sz) := by
  refine vx_ofW (cc := cX4_checkHeight) (maxL := 2) (ret := none) (by decide) rfl ?_
  intro p e s m args below meth c s₁ B hml htb hv
  obtain ⟨rfl, ⟨⟨hsz, hP, hK, hD0⟩, hN⟩, hX, hZ⟩ := hv
  have hx := B.exec
  have hb := B.bytes
  have hr := B.returns
  have hts := atoms_spec (ws := wsX4_checkHeight) B.pre
  have hown : s.vm.findClass RX4 = some m.cls := findClass_of_methodNamed B.named
  have hlocks := B.notSynchronized
  subst hsz
  have hD := hD0.self (sz := s.heap.size)
  generalize hAe : va_A (kW K ad E) s.heap.size = A at hD hZ ⊢
  have hA : ∀ q : Nat, s.heap.size ≤ q → A q := w_A hAe
  have hS : va_S A s.heap s.heap [] := va_S.rf
  have hnd := kW_nd hD
  have hl := lv_entry ([.ref ((ad (kf))), .int (a)]) (n := 2) (Nat.le_of_ble_eq_true rfl)
  rw [lg_entry_eq]
  generalize (lg_sl ([.ref ((ad (kf))), .int (a)]) ++ List.replicate (2 - (lg_sl ([.ref ((ad (kf))), .int (a)])).length) Slot.unset).toArray = ls at hl ⊢
  have hl : lv_has ls 2 [(0, .ref ((ad (kf)))), (1, .int (a))] := hl
  refine lv_iload_n hx hb dX4_checkHeight_0 rfl (lv_at hl 1 rfl) ?_
  refine g_if_lt (tgt := 12) hx hb dX4_checkHeight_1 (by decide) rfl (fun c_1 => ?_) (fun c_1 => ?_)
  · skip
    exact g_thrI hx hb hlt hown hts (by decide +kernel) (by decide +kernel) (by decide +kernel) hX (is := 235) (text := "no such height") (by decide) hZ hP hK hD hS (hl.1.trans hml.symm) htb (Nat.lt_of_lt_of_le (show 5 < 6 by decide) (Nat.le_of_ble_eq_true rfl)) (Nat.le_of_ble_eq_true rfl) (Nat.le_of_ble_eq_true rfl) (Nat.le_of_ble_eq_true rfl) hlocks (fun t hw9 hF9 => ⟨(), trivial, ⟨⟨rfl, fun q9 => by have := q9.1; have := q9.2; omega⟩, hw9⟩, hF9⟩) hS.2.2 (by decide) (by decide) dX4_checkHeight_12 dX4_checkHeight_15 dX4_checkHeight_16 dX4_checkHeight_18 dX4_checkHeight_21
  · skip
    refine lv_iload_n hx hb dX4_checkHeight_4 rfl (lv_at hl 1 rfl) ?_
    refine lv_aload_n hx hb dX4_checkHeight_5 rfl (lv_at hl 0 rfl) ?_
    obtain ⟨p1, hp1⟩ := kW_pos hkf
    refine va_get (D := D) (ci := 2) (v := .int (nI (hh))) (C := RX2) (T := TX2) (N := 4) hx hb hts (by decide +kernel) hown hK hP p1 (kW_get hp1 hEf) rfl 0 (by decide) (hts (.fieldLink RX4 232 "CaskYard$Form" "height" "I") (by decide +kernel)) (fun _ h9 => h9) rfl dX4_checkHeight_6 ?_
    refine g_icmp_le (tgt := 22) hx hb dX4_checkHeight_9 (by decide) rfl (n_i (by omega)) (fun c_9 => ?_) (fun c_9 => ?_)
    · skip
      refine vx_ret ?_
      refine W.widen (k := 1) (n := 6) (by omega) (by omega) ?_
      exact W.vret hx hb hr (fun t ht hW => ⟨⟨E, rfl, ⟨rfl, by omega, by omega⟩, by rw [ht]; exact hP, va_K.moved hW.alike hK, hD⟩, hS.F ht⟩) hS.2.2 dX4_checkHeight_22
    · skip
      exact g_thrI hx hb hlt hown hts (by decide +kernel) (by decide +kernel) (by decide +kernel) hX (is := 235) (text := "no such height") (by decide) hZ hP hK hD hS (hl.1.trans hml.symm) htb (Nat.lt_of_lt_of_le (show 5 < 6 by decide) (Nat.le_of_ble_eq_true rfl)) (Nat.le_of_ble_eq_true rfl) (Nat.le_of_ble_eq_true rfl) (Nat.le_of_ble_eq_true rfl) hlocks (fun t hw9 hF9 => ⟨(), trivial, ⟨⟨rfl, fun q9 => by have := q9.1; have := q9.2; omega⟩, hw9⟩, hF9⟩) hS.2.2 (by decide) (by decide) dX4_checkHeight_12 dX4_checkHeight_15 dX4_checkHeight_16 dX4_checkHeight_18 dX4_checkHeight_21
set_option maxHeartbeats 4000000 in
set_option maxRecDepth 100000 in
theorem c_X4_checkKind (l : Launch) (hlt : l.stackTraces = false) (D : va_G) (cy : Nat → ClassId) (sz : Nat) (sa : Nat → Nat) (K : List Nat) (ad : Nat → Nat) (E : Nat → va_E) (a : Int32) : vx_Met l yX4_checkKind wsX4_checkKind ({ frames := 6, cells := 1, slots := 6, locals := 82 } : Room) (va_Pc [.int (a)] (wX D cy sz sa (kW K ad E))) (va_Qv (fun (u : Nat → va_E) => u = E ∧ isIx a 16) (fun u t => wE D cy (va_A (kW K ad E) sz) (kW K ad u) t) (va_A (kW K ad E) sz)) (vx_X (fun _ : Unit => True) (fun (En : String) _ t => (En = "java/lang/IllegalArgumentException" ∧ ¬ isIx a 16) ∧ wE D cy (va_A (kW K ad E) sz) (kW K ad E) t) (va_A (kW K ad E) sz)) 1 6 (va_A (kW K ad E) sz) := by
  refine vx_ofW (cc := cX4_checkKind) (maxL := 1) (ret := none) (by decide) rfl ?_
  intro p e s m args below meth c s₁ B hml htb hv
  obtain ⟨rfl, ⟨⟨hsz, hP, hK, hD0⟩, hN⟩, hX, hZ⟩ := hv
  have hx := B.exec
  have hb := B.bytes
  have hr := B.returns
  have hts := atoms_spec (ws := wsX4_checkKind) B.pre
  have hown : s.vm.findClass RX4 = some m.cls := findClass_of_methodNamed B.named
  have hlocks := B.notSynchronized
  subst hsz
  have hD := hD0.self (sz := s.heap.size)
  generalize hAe : va_A (kW K ad E) s.heap.size = A at hD hZ ⊢
  have hA : ∀ q : Nat, s.heap.size ≤ q → A q := w_A hAe
  have hS : va_S A s.heap s.heap [] := va_S.rf
  have hnd := kW_nd hD
  have hl := lv_entry ([.int (a)]) (n := 1) (Nat.le_of_ble_eq_true rfl)
  rw [lg_entry_eq]
  generalize (lg_sl ([.int (a)]) ++ List.replicate (1 - (lg_sl ([.int (a)])).length) Slot.unset).toArray = ls at hl ⊢
  have hl : lv_has ls 1 [(0, .int (a))] := hl
  refine lv_iload_n hx hb dX4_checkKind_0 rfl (lv_at hl 0 rfl) ?_
  refine g_if_lt (tgt := 10) hx hb dX4_checkKind_1 (by decide) rfl (fun c_1 => ?_) (fun c_1 => ?_)
  · skip
    exact g_thrI hx hb hlt hown hts (by decide +kernel) (by decide +kernel) (by decide +kernel) hX (is := 237) (text := "no such kind") (by decide) hZ hP hK hD hS (hl.1.trans hml.symm) htb (Nat.lt_of_lt_of_le (show 5 < 6 by decide) (Nat.le_of_ble_eq_true rfl)) (Nat.le_of_ble_eq_true rfl) (Nat.le_of_ble_eq_true rfl) (Nat.le_of_ble_eq_true rfl) hlocks (fun t hw9 hF9 => ⟨(), trivial, ⟨⟨rfl, fun q9 => by have := q9.1; have := q9.2; omega⟩, hw9⟩, hF9⟩) hS.2.2 (by decide) (by decide) dX4_checkKind_10 dX4_checkKind_13 dX4_checkKind_14 dX4_checkKind_16 dX4_checkKind_19
  · skip
    refine lv_iload_n hx hb dX4_checkKind_4 rfl (lv_at hl 0 rfl) ?_
    refine lv_bipush (v := (nI (16))) hx hb dX4_checkKind_5 (by decide) ?_
    refine g_icmp_lt (tgt := 20) hx hb dX4_checkKind_7 (by decide) rfl (n_i (by omega)) (fun c_7 => ?_) (fun c_7 => ?_)
    · skip
      refine vx_ret ?_
      refine W.widen (k := 1) (n := 6) (by omega) (by omega) ?_
      exact W.vret hx hb hr (fun t ht hW => ⟨⟨E, rfl, ⟨rfl, by omega, by omega⟩, by rw [ht]; exact hP, va_K.moved hW.alike hK, hD⟩, hS.F ht⟩) hS.2.2 dX4_checkKind_20
    · skip
      exact g_thrI hx hb hlt hown hts (by decide +kernel) (by decide +kernel) (by decide +kernel) hX (is := 237) (text := "no such kind") (by decide) hZ hP hK hD hS (hl.1.trans hml.symm) htb (Nat.lt_of_lt_of_le (show 5 < 6 by decide) (Nat.le_of_ble_eq_true rfl)) (Nat.le_of_ble_eq_true rfl) (Nat.le_of_ble_eq_true rfl) (Nat.le_of_ble_eq_true rfl) hlocks (fun t hw9 hF9 => ⟨(), trivial, ⟨⟨rfl, fun q9 => by have := q9.1; have := q9.2; omega⟩, hw9⟩, hF9⟩) hS.2.2 (by decide) (by decide) dX4_checkKind_10 dX4_checkKind_13 dX4_checkKind_14 dX4_checkKind_16 dX4_checkKind_19
