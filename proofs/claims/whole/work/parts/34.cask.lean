set_option maxHeartbeats 4000000 in
set_option maxRecDepth 100000 in
theorem c_X1_takePieces (l : Launch) (D : va_G) (cy : Nat → ClassId) (sz : Nat) (K : List Nat) (ad : Nat → Nat) (E : Nat → va_E) (co cb cp cd ct ck kf : Nat) (hco : co ∈ K) (fn : Int32) (nE : Nat) (hEco : E co = .inr (1, [.int (fn), .ref ((ad (kf))), .ref ((ad (cb))), .ref ((ad (cp))), .ref ((ad (cd))), .ref ((ad (ct))), .ref ((ad (ck))), .int (nI (nE))])) (hcb : cb ∈ K) (fb : Nat → Int32) (hEcb : E cb = rowI cy 40 fb) (hkf : kf ∈ K) (hh gg ee nn : Nat) (hEf : E kf = cellF hh gg ee nn) (hfo : formOk hh gg ee nn) (hne : co ≠ cb ∧ cb ≠ kf) (mn w k0 bo : Nat) (hw1 : w ≤ 1) (hk0 : k0 ≤ nn) (hmn : mn ≤ 100000) (hen : pcN nn gg w k0 + mn ≤ pcN nn gg w nn) : Met l yX1_takePieces wsX1_takePieces ({ frames := 5, cells := 0, slots := 0, locals := 108 } : Room) (va_Pc [.ref ((ad (co))), .int (nI (mn)), .int (nI (w)), .int (nI (k0)), .int (nI (bo))] (wB2 D cy sz (kW K ad E))) (va_Qi (fun (r : Int32) (u : Nat → va_E) => ∃ (f' : Nat → Int32) (k' : Nat), u (cb) = .inl (cy 0, 40, .inl (f')) ∧ (∀ j_ : Nat, j_ ≠ cb → u j_ = E j_) ∧ r = nI k' ∧ k0 ≤ k' ∧ k' ≤ nn ∧ pcN nn gg w k' = pcN nn gg w k0 + mn ∧ ∀ j, f' j = tkF nn gg w k0 k' (nI bo) fb j) (fun u t => wE D cy (va_A (kW K ad E) sz) (kW K ad u) t) (va_A (kW K ad E) sz)) 0 0 (va_A (kW K ad E) sz) := by
  refine Met.ofW (cc := cX1_takePieces) (maxL := 7) (ret := (some .int)) (by decide) rfl ?_
  intro p e s m args below meth c s₁ B hml hv
  obtain ⟨rfl, ⟨hsz, hP, hK, hD0⟩, hN⟩ := hv
  have hx := B.exec
  have hb := B.bytes
  have hr := B.returns
  have hts := atoms_spec (ws := wsX1_takePieces) B.pre
  have hown : s.vm.findClass RX1 = some m.cls := findClass_of_methodNamed B.named
  have hlocks := B.notSynchronized
  subst hsz
  have hD := hD0.self (sz := s.heap.size)
  generalize hAe : va_A (kW K ad E) s.heap.size = A at hD ⊢
  have hA : ∀ q : Nat, s.heap.size ≤ q → A q := w_A hAe
  have hS : va_S A s.heap s.heap [] := va_S.rf
  have hnd := kW_nd hD
  have hl := lv_entry ([.ref ((ad (co))), .int (nI (mn)), .int (nI (w)), .int (nI (k0)), .int (nI (bo))]) (n := 7) (Nat.le_of_ble_eq_true rfl)
  rw [lg_entry_eq]
  generalize (lg_sl ([.ref ((ad (co))), .int (nI (mn)), .int (nI (w)), .int (nI (k0)), .int (nI (bo))]) ++ List.replicate (7 - (lg_sl ([.ref ((ad (co))), .int (nI (mn)), .int (nI (w)), .int (nI (k0)), .int (nI (bo))])).length) Slot.unset).toArray = ls at hl ⊢
  have hl : lv_has ls 7 [(0, .ref ((ad (co)))), (1, .int (nI (mn))), (2, .int (nI (w))), (3, .int (nI (k0))), (4, .int (nI (bo)))] := hl
  refine lv_iload_n hx hb dX1_takePieces_0 rfl (lv_at hl 1 rfl) ?_
  refine lv_istore (lv' := [(5, .int (nI (mn))), (0, .ref ((ad (co)))), (1, .int (nI (mn))), (2, .int (nI (w))), (3, .int (nI (k0))), (4, .int (nI (bo)))]) hx hb dX1_takePieces_1 hl (by decide) rfl (fun ls hl => ?_)
  refine lv_iload_n hx hb dX1_takePieces_3 rfl (lv_at hl 4 rfl) ?_
  refine lv_istore (lv' := [(6, .int (nI (k0))), (5, .int (nI (mn))), (0, .ref ((ad (co)))), (1, .int (nI (mn))), (2, .int (nI (w))), (3, .int (nI (k0))), (4, .int (nI (bo)))]) hx hb dX1_takePieces_4 hl (by decide) rfl (fun ls hl => ?_)
  have loop_6 : ∀ (n_ : Nat) (lf : Nat) (k : Nat) (g9 : Nat → Int32) (Ec : Nat → va_E) (H : Heap) (locs : List Loc), va_P D vwCl (kW K ad Ec) H → va_D A (kW K ad Ec) → va_S A s.heap H locs → (k0 ≤ k) → (k ≤ nn ∧ lf ≤ mn) → (pcN nn gg w k + lf = pcN nn gg w k0 + mn) → (∀ j, g9 j = tkF nn gg w k0 k (nI bo) fb j) → (Ec (cb) = .inl (cy 0, 40, .inl (g9))) → (∀ j_ : Nat, j_ ≠ cb → Ec j_ = E j_) → nn + 1 - k < n_ → ∀ (ls : Array Slot), lv_has ls 7 [(0, .ref ((ad (co)))), (2, .int (nI (w))), (4, .int (nI (bo))), (5, .int (nI (lf))), (6, .int (nI (k)))] → W p l e (headSpec wsX1_takePieces ({ frames := 5, cells := 0, slots := 0, locals := 108 } : Room)).room s m ([.ref ((ad (co))), .int (nI (mn)), .int (nI (w)), .int (nI (k0)), .int (nI (bo))] : List Value).toArray below meth c H locs 0 0 (MQ below (va_Qi (fun (r : Int32) (u : Nat → va_E) => ∃ (f' : Nat → Int32) (k' : Nat), u (cb) = .inl (cy 0, 40, .inl (f')) ∧ (∀ j_ : Nat, j_ ≠ cb → u j_ = E j_) ∧ r = nI k' ∧ k0 ≤ k' ∧ k' ≤ nn ∧ pcN nn gg w k' = pcN nn gg w k0 + mn ∧ ∀ j, f' j = tkF nn gg w k0 k' (nI bo) fb j) (fun u t => wE D cy A (kW K ad u) t) A) ([.ref ((ad (co))), .int (nI (mn)), .int (nI (w)), .int (nI (k0)), .int (nI (bo))] : List Value).toArray s 0 0 A) (F0 m 6 ls []) := by
    intro n_
    induction n_ with
    | zero => intro lf k g9 Ec H locs hP hD hS hk1 hk2 hpc hg9 hk_6_0 hO_6 hm_; exact absurd hm_ (Nat.not_lt_zero _)
    | succ n_ ih_6 =>
      intro lf k g9 Ec H locs hP hD hS hk1 hk2 hpc hg9 hk_6_0 hO_6 hm_ ls hl
      have fL6_6 : Ec (co) = .inr (1, [.int (fn), .ref ((ad (kf))), .ref ((ad (cb))), .ref ((ad (cp))), .ref ((ad (cd))), .ref ((ad (ct))), .ref ((ad (ck))), .int (nI (nE))]) := (hO_6 (co) (by omega)).trans hEco
      have fL6_7 : Ec (kf) = .inr (2, [.int (nI (hh)), .int (nI (gg)), .int (nI (ee)), .int (nI (nn))]) := (hO_6 (kf) (by omega)).trans hEf
      refine lv_iload hx hb dX1_takePieces_6 (lv_at hl 3 rfl) ?_
      refine g_if_le (tgt := 54) hx hb dX1_takePieces_8 (by decide) (n_i (by omega)) (fun c_8 => ?_) (fun c_8 => ?_)
      · skip
        refine lv_iload hx hb dX1_takePieces_54 (lv_at hl 4 rfl) ?_
        exact W.iret (v := (nI (k))) hx hb hr (fun t ht hW => ⟨⟨_, Ec, rfl, ⟨g9, k, hk_6_0, (fun j_ h0_ => by rw [hO_6 j_ h0_]), rfl, hk1, hk2.1, (by first | omega | (rw [hkn]; omega)), hg9⟩, by rw [ht]; exact hP, va_K.moved hW.alike hK, hD⟩, hS.F ht⟩) hS.2.2 dX1_takePieces_56
      · skip
        refine lv_iload hx hb dX1_takePieces_11 (lv_at hl 4 rfl) ?_
        refine lv_aload_n hx hb dX1_takePieces_13 rfl (lv_at hl 0 rfl) ?_
        obtain ⟨p1, hp1⟩ := kW_pos hco
        refine va_get (D := D) (ci := 1) (v := .ref ((ad (kf)))) (C := RX1) (T := TX1) (N := 8) hx hb hts (by decide +kernel) hown hK hP p1 (kW_get hp1 fL6_6) rfl 1 (by decide) (hts (.fieldLink RX1 31 "CaskYard$Cask" "shape" "LCaskYard$Form;") (by decide +kernel)) (fun _ h9 => h9) rfl dX1_takePieces_14 ?_
        obtain ⟨p2, hp2⟩ := kW_pos hkf
        refine va_get (D := D) (ci := 2) (v := .int (nI (nn))) (C := RX2) (T := TX2) (N := 4) hx hb hts (by decide +kernel) hown hK hP p2 (kW_get hp2 fL6_7) rfl 3 (by decide) (hts (.fieldLink RX1 35 "CaskYard$Form" "staves" "I") (by decide +kernel)) (fun _ h9 => h9) rfl dX1_takePieces_17 ?_
        refine g_icmp_ge (tgt := 54) hx hb dX1_takePieces_20 (by decide) (n_i (by omega)) (n_i (by omega)) (fun c_20 => ?_) (fun c_20 => ?_)
        · skip
          have hkn : k = nn := by omega
          rw [hkn] at hpc
          refine lv_iload hx hb dX1_takePieces_54 (lv_at hl 4 rfl) ?_
          exact W.iret (v := (nI (k))) hx hb hr (fun t ht hW => ⟨⟨_, Ec, rfl, ⟨g9, k, hk_6_0, (fun j_ h0_ => by rw [hO_6 j_ h0_]), rfl, hk1, hk2.1, (by first | omega | (rw [hkn]; omega)), hg9⟩, by rw [ht]; exact hP, va_K.moved hW.alike hK, hD⟩, hS.F ht⟩) hS.2.2 dX1_takePieces_56
        · skip
          refine lv_aload_n hx hb dX1_takePieces_23 rfl (lv_at hl 0 rfl) ?_
          obtain ⟨p3, hp3⟩ := kW_pos hco
          refine va_get (D := D) (ci := 1) (v := .ref ((ad (kf)))) (C := RX1) (T := TX1) (N := 8) hx hb hts (by decide +kernel) hown hK hP p3 (kW_get hp3 fL6_6) rfl 1 (by decide) (hts (.fieldLink RX1 31 "CaskYard$Cask" "shape" "LCaskYard$Form;") (by decide +kernel)) (fun _ h9 => h9) rfl dX1_takePieces_24 ?_
          refine lv_iload hx hb dX1_takePieces_27 (lv_at hl 4 rfl) ?_
          obtain ⟨p4, hp4⟩ := kW_pos hkf
          refine vp_callSi (va_Run.run (va_runV (As := [.int (nI (k))]) (rest := []) ⟨hx, hb, hml, hown, hts⟩ (c_X2_isWide l D cy K ad Ec (kf) (hkf) (hh) (gg) (ee) (nn) (fL6_7) (hfo) (k) (by omega)) (cwV 1 hts gX1_takePieces_X2_isWide rfl rfl rfl (by decide +kernel) ⟨Nat.le_of_ble_eq_true rfl, Nat.le_of_ble_eq_true rfl⟩) ⟨rB2_blind, va_recv hK hP (ci := 2) (q0 := p4) rfl (kW_get hp4 fL6_7), (rB2_pre hP hK hN)⟩ rfl rfl hl.1 rfl (lv_room (Nat.le_of_ble_eq_true rfl)) dX1_takePieces_29 ⟨Nat.le_of_ble_eq_true rfl, Nat.le_of_ble_eq_true rfl⟩)) (fun r_29 hr_29 => ?_)
          subst hr_29
          refine lv_iload_n hx hb dX1_takePieces_32 rfl (lv_at hl 1 rfl) ?_
          refine g_icmp_ne (tgt := 48) hx hb dX1_takePieces_33 (by decide) rfl (n_i (by omega)) (fun c_33 => ?_) (fun c_33 => ?_)
          · skip
            have hnw : ¬ (isW nn gg k ↔ w = 1) := fun q9 => c_33 ((bI_cmp hw1).mpr q9)
            refine lv_iinc (v := (nI (k + 1))) (lv' := [(6, .int (nI (k + 1))), (0, .ref ((ad (co)))), (2, .int (nI (w))), (4, .int (nI (bo))), (5, .int (nI (lf)))]) hx hb dX1_takePieces_48 hl (k := 4) rfl (nI_add _ _) (by decide) rfl (fun ls hl => ?_)
            refine lv_goto (tgt := 6) hx hb dX1_takePieces_51 (by decide) ?_
            exact ih_6 (lf) (k + 1) (g9) (Ec) H locs hP hD hS (by omega) (by omega) (by rw [pcN_f hw1 hnw]; exact hpc) (tk_f hg9 hnw) hk_6_0 (fun j_ h0_ => by rw [hO_6 j_ h0_]) (by omega) ls (lv_sub hl [1, 2, 3, 4, 0] rfl)
          · skip
            have hiw : isW nn gg k ↔ w = 1 := (bI_cmp hw1).mp c_33
            refine lv_aload_n hx hb dX1_takePieces_36 rfl (lv_at hl 0 rfl) ?_
            obtain ⟨p5, hp5⟩ := kW_pos hco
            refine va_get (D := D) (ci := 1) (v := .ref ((ad (cb)))) (C := RX1) (T := TX1) (N := 8) hx hb hts (by decide +kernel) hown hK hP p5 (kW_get hp5 fL6_6) rfl 2 (by decide) (hts (.fieldLink RX1 9 "CaskYard$Cask" "boltOf" "[I") (by decide +kernel)) (fun _ h9 => h9) rfl dX1_takePieces_37 ?_
            refine lv_iload hx hb dX1_takePieces_40 (lv_at hl 4 rfl) ?_
            refine lv_iload hx hb dX1_takePieces_42 (lv_at hl 2 rfl) ?_
            obtain ⟨p6, hp6⟩ := kW_pos hcb
            refine g_iast hx hb hK hP hD hS p6 0 (kW_get hp6 hk_6_0) rfl (k) rfl (by omega) (by decide) dX1_takePieces_44 (fun H locs hP hD hS => ?_)
            rw [kW_set hnd hp6] at hP hD
            obtain ⟨Ew7, hEw7⟩ : ∃ G, G = va_up Ec (cb) (.inl (cy 0, 40, .inl (upd (g9) (k) (nI (bo))))) := ⟨_, rfl⟩
            have eEw7_8 : Ew7 (cb) = .inl (cy 0, 40, .inl (upd (g9) (k) (nI (bo)))) := by rw [hEw7]; exact va_up_self _ _ _
            rw [← hEw7] at hP hD
            refine lv_iinc (v := (nI (lf - 1))) (lv' := [(5, .int (nI (lf - 1))), (0, .ref ((ad (co)))), (2, .int (nI (w))), (4, .int (nI (bo))), (6, .int (nI (k)))]) hx hb dX1_takePieces_45 hl (k := 3) rfl ((zI_add ((lf : Nat) : Int) (-1)).trans (z_n (by omega))) (by decide) rfl (fun ls hl => ?_)
            refine lv_iinc (v := (nI (k + 1))) (lv' := [(6, .int (nI (k + 1))), (5, .int (nI (lf - 1))), (0, .ref ((ad (co)))), (2, .int (nI (w))), (4, .int (nI (bo)))]) hx hb dX1_takePieces_48 hl (k := 4) rfl (nI_add _ _) (by decide) rfl (fun ls hl => ?_)
            refine lv_goto (tgt := 6) hx hb dX1_takePieces_51 (by decide) ?_
            exact ih_6 (lf - 1) (k + 1) (upd (g9) (k) (nI (bo))) (Ew7) H locs hP hD hS (by omega) (by omega) (by rw [pcN_t hw1 hiw]; omega) (tk_t hg9 (by omega) hiw) eEw7_8 (fun j_ h0_ => by rw [hEw7, va_up_ne _ _ h0_, hO_6 j_ h0_]) (by omega) ls (lv_sub hl [2, 3, 4, 1, 0] rfl)
  exact loop_6 _ (mn) (k0) (fb) (E) s.heap [] hP hD hS (Nat.le_refl _) (by omega) rfl (fun j => (if_neg (by omega)).symm) hEcb (fun j_ h0_ => rfl) (Nat.lt_succ_self _) ls (lv_sub hl [2, 4, 6, 1, 0] rfl)
set_option maxHeartbeats 4000000 in
set_option maxRecDepth 100000 in
theorem c_X1_wholePast (l : Launch) (D : va_G) (cy : Nat → ClassId) (K : List Nat) (ad : Nat → Nat) (E : Nat → va_E) (co cb cp cd ct ck kf : Nat) (hco : co ∈ K) (fn : Int32) (nE : Nat) (hEco : E co = .inr (1, [.int (fn), .ref ((ad (kf))), .ref ((ad (cb))), .ref ((ad (cp))), .ref ((ad (cd))), .ref ((ad (ct))), .ref ((ad (ck))), .int (nI (nE))])) (hcp : cp ∈ K) (fp : Nat → Int32) (hEcp : E cp = rowI cy 40 fp) (hkf : kf ∈ K) (hh gg ee nn : Nat) (hEf : E kf = cellF hh gg ee nn) (hfo : formOk hh gg ee nn) (pa : Nat → Nat) (hpa : ∀ k, k < nn → fp k = nI (pa k)) : Met l yX1_wholePast wsX1_wholePast ({ frames := 0, cells := 0, slots := 0, locals := 0 } : Room) (va_Pc [.ref ((ad (co)))] (rB2 D cy (kW K ad E))) (vp_Si (fun r : Int32 => r = nI (orN pa nn))) 0 0 (fun _ => False) := by
  refine Met.ofW (cc := cX1_wholePast) (maxL := 3) (ret := (some .int)) (by decide) rfl ?_
  intro p e s m args below meth c s₁ B hml hv
  obtain ⟨rfl, hv⟩ := hv
  have hx := B.exec
  have hb := B.bytes
  have hr := B.returns
  have hts := atoms_spec (ws := wsX1_wholePast) B.pre
  have hown : s.vm.findClass RX1 = some m.cls := findClass_of_methodNamed B.named
  have hlocks := B.notSynchronized
  obtain ⟨⟨hP, hK⟩, hN⟩ := hv
  have hl := lv_entry ([.ref ((ad (co)))]) (n := 3) (Nat.le_of_ble_eq_true rfl)
  rw [lg_entry_eq]
  generalize (lg_sl ([.ref ((ad (co)))]) ++ List.replicate (3 - (lg_sl ([.ref ((ad (co)))])).length) Slot.unset).toArray = ls at hl ⊢
  have hl : lv_has ls 3 [(0, .ref ((ad (co))))] := hl
  refine lv_iconst (v := (nI (0))) hx hb dX1_wholePast_0 (by decide) ?_
  refine lv_istore_n (lv' := [(1, .int (nI (0))), (0, .ref ((ad (co))))]) hx hb dX1_wholePast_1 rfl hl (by decide) rfl (fun ls hl => ?_)
  refine lv_iconst (v := (nI (0))) hx hb dX1_wholePast_2 (by decide) ?_
  refine lv_istore_n (lv' := [(2, .int (nI (0))), (1, .int (nI (0))), (0, .ref ((ad (co))))]) hx hb dX1_wholePast_3 rfl hl (by decide) rfl (fun ls hl => ?_)
  have loop_4 : ∀ (n_ : Nat) (i : Nat), (i ≤ nn) → nn - i < n_ → ∀ (ls : Array Slot), lv_has ls 3 [(0, .ref ((ad (co)))), (1, .int (nI (orN pa i))), (2, .int (nI (i)))] → W p l e (headSpec wsX1_wholePast ({ frames := 0, cells := 0, slots := 0, locals := 0 } : Room)).room s m ([.ref ((ad (co)))] : List Value).toArray below meth c s.heap [] 0 0 (MQ below (vp_Si (fun r : Int32 => r = nI (orN pa nn))) ([.ref ((ad (co)))] : List Value).toArray s 0 0 (fun _ => False)) (F0 m 4 ls []) := by
    intro n_
    induction n_ with
    | zero => intro i hi hm_; exact absurd hm_ (Nat.not_lt_zero _)
    | succ n_ ih_4 =>
      intro i hi hm_ ls hl
      refine lv_iload_n hx hb dX1_wholePast_4 rfl (lv_at hl 2 rfl) ?_
      refine lv_aload_n hx hb dX1_wholePast_5 rfl (lv_at hl 0 rfl) ?_
      obtain ⟨p1, hp1⟩ := kW_pos hco
      refine va_get (D := D) (ci := 1) (v := .ref ((ad (kf)))) (C := RX1) (T := TX1) (N := 8) hx hb hts (by decide +kernel) hown hK hP p1 (kW_get hp1 hEco) rfl 1 (by decide) (hts (.fieldLink RX1 31 "CaskYard$Cask" "shape" "LCaskYard$Form;") (by decide +kernel)) (fun _ h9 => h9) rfl dX1_wholePast_6 ?_
      obtain ⟨p2, hp2⟩ := kW_pos hkf
      refine va_get (D := D) (ci := 2) (v := .int (nI (nn))) (C := RX2) (T := TX2) (N := 4) hx hb hts (by decide +kernel) hown hK hP p2 (kW_get hp2 hEf) rfl 3 (by decide) (hts (.fieldLink RX1 35 "CaskYard$Form" "staves" "I") (by decide +kernel)) (fun _ h9 => h9) rfl dX1_wholePast_9 ?_
      refine g_icmp_ge (tgt := 30) hx hb dX1_wholePast_12 (by decide) (n_i (by omega)) (n_i (by omega)) (fun c_12 => ?_) (fun c_12 => ?_)
      · skip
        obtain rfl : i = nn := by omega
        refine lv_iload_n hx hb dX1_wholePast_30 rfl (lv_at hl 1 rfl) ?_
        exact W.iret (v := (nI (orN pa i))) hx hb hr (fun t ht hW => ⟨_, rfl, rfl, ht⟩) (fun _ h => nomatch h) dX1_wholePast_31
      · skip
        refine lv_iload_n hx hb dX1_wholePast_15 rfl (lv_at hl 1 rfl) ?_
        refine lv_aload_n hx hb dX1_wholePast_16 rfl (lv_at hl 0 rfl) ?_
        obtain ⟨p3, hp3⟩ := kW_pos hco
        refine va_get (D := D) (ci := 1) (v := .ref ((ad (cp)))) (C := RX1) (T := TX1) (N := 8) hx hb hts (by decide +kernel) hown hK hP p3 (kW_get hp3 hEco) rfl 3 (by decide) (hts (.fieldLink RX1 15 "CaskYard$Cask" "past" "[I") (by decide +kernel)) (fun _ h9 => h9) rfl dX1_wholePast_17 ?_
        refine lv_iload_n hx hb dX1_wholePast_20 rfl (lv_at hl 2 rfl) ?_
        obtain ⟨p4, hp4⟩ := kW_pos hcp
        refine g_iald hx hb hK hP p4 0 (kW_get hp4 hEcp) rfl (i) rfl (by omega) (by decide) dX1_wholePast_21 ?_
        refine g_top (y := (nI (pa i))) (hpa i (by omega)) ?_
        refine lv_ior hx hb dX1_wholePast_22 ?_
        refine g_top (y := (nI (orN pa i ||| pa i))) (n_or _ _) ?_
        refine lv_istore_n (lv' := [(1, .int (nI (orN pa i ||| pa i))), (0, .ref ((ad (co)))), (2, .int (nI (i)))]) hx hb dX1_wholePast_23 rfl hl (by decide) rfl (fun ls hl => ?_)
        refine lv_iinc (v := (nI (i + 1))) (lv' := [(2, .int (nI (i + 1))), (1, .int (nI (orN pa i ||| pa i))), (0, .ref ((ad (co))))]) hx hb dX1_wholePast_24 hl (k := 2) rfl (nI_add _ _) (by decide) rfl (fun ls hl => ?_)
        refine lv_goto (tgt := 4) hx hb dX1_wholePast_27 (by decide) ?_
        exact ih_4 (i + 1)  (by omega) (by omega) ls (lv_sub hl [2, 1, 0] rfl)
  exact loop_4 _ (0)  (by omega) (Nat.lt_succ_self _) ls (lv_sub hl [2, 1, 0] rfl)
set_option maxHeartbeats 4000000 in
set_option maxRecDepth 100000 in
theorem c_X1_meet (l : Launch) (D : va_G) (cy : Nat → ClassId) (sz : Nat) (K : List Nat) (ad : Nat → Nat) (E : Nat → va_E) (co cb cp cd ct ck kf : Nat) (hco : co ∈ K) (fn : Int32) (nE : Nat) (hEco : E co = .inr (1, [.int (fn), .ref ((ad (kf))), .ref ((ad (cb))), .ref ((ad (cp))), .ref ((ad (cd))), .ref ((ad (ct))), .ref ((ad (ck))), .int (nI (nE))])) (hcp : cp ∈ K) (fp : Nat → Int32) (hEcp : E cp = rowI cy 40 fp) (hkf : kf ∈ K) (hh gg ee nn : Nat) (hEf : E kf = cellF hh gg ee nn) (hfo : formOk hh gg ee nn) (hne : co ≠ cp ∧ cp ≠ kf) (pa : Nat → Nat) (hpa : ∀ k, k < nn → fp k = nI (pa k)) (kd : Nat) (hkd : kd < 16) : Met l yX1_meet wsX1_meet ({ frames := 0, cells := 0, slots := 0, locals := 0 } : Room) (va_Pc [.ref ((ad (co))), .int (nI (kd))] (wB2 D cy sz (kW K ad E))) (va_Qv (fun (u : Nat → va_E) => ∃ (f' : Nat → Int32), u (cp) = .inl (cy 0, 40, .inl (f')) ∧ (∀ j_ : Nat, j_ ≠ cp → u j_ = E j_) ∧ ∀ j, f' j = if j < nn then nI (pa j ||| 2 ^ kd) else fp j) (fun u t => wE D cy (va_A (kW K ad E) sz) (kW K ad u) t) (va_A (kW K ad E) sz)) 0 0 (va_A (kW K ad E) sz) := by
  refine Met.ofW (cc := cX1_meet) (maxL := 3) (ret := none) (by decide) rfl ?_
  intro p e s m args below meth c s₁ B hml hv
  obtain ⟨rfl, ⟨hsz, hP, hK, hD0⟩, hN⟩ := hv
  have hx := B.exec
  have hb := B.bytes
  have hr := B.returns
  have hts := atoms_spec (ws := wsX1_meet) B.pre
  have hown : s.vm.findClass RX1 = some m.cls := findClass_of_methodNamed B.named
  have hlocks := B.notSynchronized
  subst hsz
  have hD := hD0.self (sz := s.heap.size)
  generalize hAe : va_A (kW K ad E) s.heap.size = A at hD ⊢
  have hA : ∀ q : Nat, s.heap.size ≤ q → A q := w_A hAe
  have hS : va_S A s.heap s.heap [] := va_S.rf
  have hnd := kW_nd hD
  have hl := lv_entry ([.ref ((ad (co))), .int (nI (kd))]) (n := 3) (Nat.le_of_ble_eq_true rfl)
  rw [lg_entry_eq]
  generalize (lg_sl ([.ref ((ad (co))), .int (nI (kd))]) ++ List.replicate (3 - (lg_sl ([.ref ((ad (co))), .int (nI (kd))])).length) Slot.unset).toArray = ls at hl ⊢
  have hl : lv_has ls 3 [(0, .ref ((ad (co)))), (1, .int (nI (kd)))] := hl
  refine lv_iconst (v := (nI (0))) hx hb dX1_meet_0 (by decide) ?_
  refine lv_istore_n (lv' := [(2, .int (nI (0))), (0, .ref ((ad (co)))), (1, .int (nI (kd)))]) hx hb dX1_meet_1 rfl hl (by decide) rfl (fun ls hl => ?_)
  have loop_2 : ∀ (n_ : Nat) (i : Nat) (g9 : Nat → Int32) (Ec : Nat → va_E) (H : Heap) (locs : List Loc), va_P D vwCl (kW K ad Ec) H → va_D A (kW K ad Ec) → va_S A s.heap H locs → (i ≤ nn) → (∀ j, g9 j = if j < i then nI (pa j ||| 2 ^ kd) else fp j) → (Ec (cp) = .inl (cy 0, 40, .inl (g9))) → (∀ j_ : Nat, j_ ≠ cp → Ec j_ = E j_) → nn - i < n_ → ∀ (ls : Array Slot), lv_has ls 3 [(0, .ref ((ad (co)))), (1, .int (nI (kd))), (2, .int (nI (i)))] → W p l e (headSpec wsX1_meet ({ frames := 0, cells := 0, slots := 0, locals := 0 } : Room)).room s m ([.ref ((ad (co))), .int (nI (kd))] : List Value).toArray below meth c H locs 0 0 (MQ below (va_Qv (fun (u : Nat → va_E) => ∃ (f' : Nat → Int32), u (cp) = .inl (cy 0, 40, .inl (f')) ∧ (∀ j_ : Nat, j_ ≠ cp → u j_ = E j_) ∧ ∀ j, f' j = if j < nn then nI (pa j ||| 2 ^ kd) else fp j) (fun u t => wE D cy A (kW K ad u) t) A) ([.ref ((ad (co))), .int (nI (kd))] : List Value).toArray s 0 0 A) (F0 m 2 ls []) := by
    intro n_
    induction n_ with
    | zero => intro i g9 Ec H locs hP hD hS hi hg9 hk_2_0 hO_2 hm_; exact absurd hm_ (Nat.not_lt_zero _)
    | succ n_ ih_2 =>
      intro i g9 Ec H locs hP hD hS hi hg9 hk_2_0 hO_2 hm_ ls hl
      have fL2_6 : Ec (co) = .inr (1, [.int (fn), .ref ((ad (kf))), .ref ((ad (cb))), .ref ((ad (cp))), .ref ((ad (cd))), .ref ((ad (ct))), .ref ((ad (ck))), .int (nI (nE))]) := (hO_2 (co) (by omega)).trans hEco
      have fL2_7 : Ec (kf) = .inr (2, [.int (nI (hh)), .int (nI (gg)), .int (nI (ee)), .int (nI (nn))]) := (hO_2 (kf) (by omega)).trans hEf
      refine lv_iload_n hx hb dX1_meet_2 rfl (lv_at hl 2 rfl) ?_
      refine lv_aload_n hx hb dX1_meet_3 rfl (lv_at hl 0 rfl) ?_
      obtain ⟨p1, hp1⟩ := kW_pos hco
      refine va_get (D := D) (ci := 1) (v := .ref ((ad (kf)))) (C := RX1) (T := TX1) (N := 8) hx hb hts (by decide +kernel) hown hK hP p1 (kW_get hp1 fL2_6) rfl 1 (by decide) (hts (.fieldLink RX1 31 "CaskYard$Cask" "shape" "LCaskYard$Form;") (by decide +kernel)) (fun _ h9 => h9) rfl dX1_meet_4 ?_
      obtain ⟨p2, hp2⟩ := kW_pos hkf
      refine va_get (D := D) (ci := 2) (v := .int (nI (nn))) (C := RX2) (T := TX2) (N := 4) hx hb hts (by decide +kernel) hown hK hP p2 (kW_get hp2 fL2_7) rfl 3 (by decide) (hts (.fieldLink RX1 35 "CaskYard$Form" "staves" "I") (by decide +kernel)) (fun _ h9 => h9) rfl dX1_meet_7 ?_
      refine g_icmp_ge (tgt := 31) hx hb dX1_meet_10 (by decide) (n_i (by omega)) (n_i (by omega)) (fun c_10 => ?_) (fun c_10 => ?_)
      · skip
        obtain rfl : i = nn := by omega
        exact W.vret hx hb hr (fun t ht hW => ⟨⟨Ec, rfl, ⟨g9, hk_2_0, (fun j_ h0_ => by rw [hO_2 j_ h0_]), hg9⟩, by rw [ht]; exact hP, va_K.moved hW.alike hK, hD⟩, hS.F ht⟩) hS.2.2 dX1_meet_31
      · skip
        refine lv_aload_n hx hb dX1_meet_13 rfl (lv_at hl 0 rfl) ?_
        obtain ⟨p3, hp3⟩ := kW_pos hco
        refine va_get (D := D) (ci := 1) (v := .ref ((ad (cp)))) (C := RX1) (T := TX1) (N := 8) hx hb hts (by decide +kernel) hown hK hP p3 (kW_get hp3 fL2_6) rfl 3 (by decide) (hts (.fieldLink RX1 15 "CaskYard$Cask" "past" "[I") (by decide +kernel)) (fun _ h9 => h9) rfl dX1_meet_14 ?_
        refine lv_iload_n hx hb dX1_meet_17 rfl (lv_at hl 2 rfl) ?_
        refine lv_dup2_11 hx hb dX1_meet_18 rfl rfl ?_
        obtain ⟨p4, hp4⟩ := kW_pos hcp
        refine g_iald hx hb hK hP p4 0 (kW_get hp4 hk_2_0) rfl (i) rfl (by omega) (by decide) dX1_meet_19 ?_
        refine g_top (y := (nI (pa i))) ((hg9 i).trans ((if_neg (by omega)).trans (hpa i (by omega)))) ?_
        refine lv_iconst (v := (nI (1))) hx hb dX1_meet_20 (by decide) ?_
        refine lv_iload_n hx hb dX1_meet_21 rfl (lv_at hl 1 rfl) ?_
        refine lv_ishl hx hb dX1_meet_22 ?_
        refine g_top (y := (nI (2 ^ kd))) (n_shl1 (by omega)) ?_
        refine lv_ior hx hb dX1_meet_23 ?_
        refine g_top (y := (nI (pa i ||| 2 ^ kd))) (n_or _ _) ?_
        obtain ⟨p5, hp5⟩ := kW_pos hcp
        refine g_iast hx hb hK hP hD hS p5 0 (kW_get hp5 hk_2_0) rfl (i) rfl (by omega) (by decide) dX1_meet_24 (fun H locs hP hD hS => ?_)
        rw [kW_set hnd hp5] at hP hD
        obtain ⟨Ew6, hEw6⟩ : ∃ G, G = va_up Ec (cp) (.inl (cy 0, 40, .inl (upd (g9) (i) (nI (pa i ||| 2 ^ kd))))) := ⟨_, rfl⟩
        have eEw6_9 : Ew6 (cp) = .inl (cy 0, 40, .inl (upd (g9) (i) (nI (pa i ||| 2 ^ kd)))) := by rw [hEw6]; exact va_up_self _ _ _
        rw [← hEw6] at hP hD
        refine lv_iinc (v := (nI (i + 1))) (lv' := [(2, .int (nI (i + 1))), (0, .ref ((ad (co)))), (1, .int (nI (kd)))]) hx hb dX1_meet_25 hl (k := 2) rfl (nI_add _ _) (by decide) rfl (fun ls hl => ?_)
        refine lv_goto (tgt := 2) hx hb dX1_meet_28 (by decide) ?_
        exact ih_2 (i + 1) (upd (g9) (i) (nI (pa i ||| 2 ^ kd))) (Ew6) H locs hP hD hS (by omega) (meet_s hg9) eEw6_9 (fun j_ h0_ => by rw [hEw6, va_up_ne _ _ h0_, hO_2 j_ h0_]) (by omega) ls (lv_sub hl [1, 2, 0] rfl)
  exact loop_2 _ (0) (fp) (E) s.heap [] hP hD hS (by omega) (fun j => (if_neg (by omega)).symm) hEcp (fun j_ h0_ => rfl) (Nat.lt_succ_self _) ls (lv_sub hl [1, 2, 0] rfl)
set_option maxHeartbeats 4000000 in
set_option maxRecDepth 100000 in
theorem c_X1_addEntry (l : Launch) (D : va_G) (cy : Nat → ClassId) (sz : Nat) (K : List Nat) (ad : Nat → Nat) (E : Nat → va_E) (co cb cp cd ct ck kf : Nat) (hco : co ∈ K) (fn : Int32) (nE : Nat) (hEco : E co = .inr (1, [.int (fn), .ref ((ad (kf))), .ref ((ad (cb))), .ref ((ad (cp))), .ref ((ad (cd))), .ref ((ad (ct))), .ref ((ad (ck))), .int (nI (nE))])) (hcd : cd ∈ K) (fd : Nat → Int32) (hEcd : E cd = rowI cy 40 fd) (hct : ct ∈ K) (ft : Nat → Int32) (hEct : E ct = rowI cy 40 ft) (hck : ck ∈ K) (fk : Nat → Int32) (hEck : E ck = rowI cy 40 fk) (hne : co ≠ cd ∧ co ≠ ct ∧ co ≠ ck ∧ cd ≠ ct ∧ cd ≠ ck ∧ ct ≠ ck) (hnE : nE < 40) (dy td kd : Nat) : Met l yX1_addEntry wsX1_addEntry ({ frames := 0, cells := 0, slots := 0, locals := 0 } : Room) (va_Pc [.ref ((ad (co))), .int (nI (dy)), .int (nI (td)), .int (nI (kd))] (wB2 D cy sz (kW K ad E))) (va_Qv (fun (u : Nat → va_E) => u (co) = .inr (1, [.int (fn), .ref ((ad (kf))), .ref ((ad (cb))), .ref ((ad (cp))), .ref ((ad (cd))), .ref ((ad (ct))), .ref ((ad (ck))), .int (nI (nE + 1))]) ∧ u (cd) = .inl (cy 0, 40, .inl (upd fd nE (nI dy))) ∧ u (ct) = .inl (cy 0, 40, .inl (upd ft nE (nI td))) ∧ u (ck) = .inl (cy 0, 40, .inl (upd fk nE (nI kd))) ∧ (∀ j_ : Nat, j_ ≠ co → j_ ≠ cd → j_ ≠ ct → j_ ≠ ck → u j_ = E j_)) (fun u t => wE D cy (va_A (kW K ad E) sz) (kW K ad u) t) (va_A (kW K ad E) sz)) 0 0 (va_A (kW K ad E) sz) := by
  refine Met.ofW (cc := cX1_addEntry) (maxL := 4) (ret := none) (by decide) rfl ?_
  intro p e s m args below meth c s₁ B hml hv
  obtain ⟨rfl, ⟨hsz, hP, hK, hD0⟩, hN⟩ := hv
  have hx := B.exec
  have hb := B.bytes
  have hr := B.returns
  have hts := atoms_spec (ws := wsX1_addEntry) B.pre
  have hown : s.vm.findClass RX1 = some m.cls := findClass_of_methodNamed B.named
  have hlocks := B.notSynchronized
  subst hsz
  have hD := hD0.self (sz := s.heap.size)
  generalize hAe : va_A (kW K ad E) s.heap.size = A at hD ⊢
  have hA : ∀ q : Nat, s.heap.size ≤ q → A q := w_A hAe
  have hS : va_S A s.heap s.heap [] := va_S.rf
  have hnd := kW_nd hD
  have hl := lv_entry ([.ref ((ad (co))), .int (nI (dy)), .int (nI (td)), .int (nI (kd))]) (n := 4) (Nat.le_of_ble_eq_true rfl)
  rw [lg_entry_eq]
  generalize (lg_sl ([.ref ((ad (co))), .int (nI (dy)), .int (nI (td)), .int (nI (kd))]) ++ List.replicate (4 - (lg_sl ([.ref ((ad (co))), .int (nI (dy)), .int (nI (td)), .int (nI (kd))])).length) Slot.unset).toArray = ls at hl ⊢
  have hl : lv_has ls 4 [(0, .ref ((ad (co)))), (1, .int (nI (dy))), (2, .int (nI (td))), (3, .int (nI (kd)))] := hl
  refine lv_aload_n hx hb dX1_addEntry_0 rfl (lv_at hl 0 rfl) ?_
  obtain ⟨p1, hp1⟩ := kW_pos hco
  refine va_get (D := D) (ci := 1) (v := .int (nI (nE))) (C := RX1) (T := TX1) (N := 8) hx hb hts (by decide +kernel) hown hK hP p1 (kW_get hp1 hEco) rfl 7 (by decide) (hts (.fieldLink RX1 44 "CaskYard$Cask" "entries" "I") (by decide +kernel)) (fun _ h9 => h9) rfl dX1_addEntry_1 ?_
  refine lv_bipush (v := (nI (40))) hx hb dX1_addEntry_4 (by decide) ?_
  refine g_icmp_ge (tgt := 49) hx hb dX1_addEntry_6 (by decide) (n_i (by omega)) (n_i (by omega)) (fun c_6 => ?_) (fun c_6 => ?_)
  · skip
    exfalso; omega
  · skip
    refine lv_aload_n hx hb dX1_addEntry_9 rfl (lv_at hl 0 rfl) ?_
    obtain ⟨p2, hp2⟩ := kW_pos hco
    refine va_get (D := D) (ci := 1) (v := .ref ((ad (cd)))) (C := RX1) (T := TX1) (N := 8) hx hb hts (by decide +kernel) hown hK hP p2 (kW_get hp2 hEco) rfl 4 (by decide) (hts (.fieldLink RX1 18 "CaskYard$Cask" "entryDay" "[I") (by decide +kernel)) (fun _ h9 => h9) rfl dX1_addEntry_10 ?_
    refine lv_aload_n hx hb dX1_addEntry_13 rfl (lv_at hl 0 rfl) ?_
    obtain ⟨p3, hp3⟩ := kW_pos hco
    refine va_get (D := D) (ci := 1) (v := .int (nI (nE))) (C := RX1) (T := TX1) (N := 8) hx hb hts (by decide +kernel) hown hK hP p3 (kW_get hp3 hEco) rfl 7 (by decide) (hts (.fieldLink RX1 44 "CaskYard$Cask" "entries" "I") (by decide +kernel)) (fun _ h9 => h9) rfl dX1_addEntry_14 ?_
    refine lv_iload_n hx hb dX1_addEntry_17 rfl (lv_at hl 1 rfl) ?_
    obtain ⟨p4, hp4⟩ := kW_pos hcd
    refine g_iast hx hb hK hP hD hS p4 0 (kW_get hp4 hEcd) rfl (nE) rfl (by omega) (by decide) dX1_addEntry_18 (fun H locs hP hD hS => ?_)
    rw [kW_set hnd hp4] at hP hD
    obtain ⟨Ew5, hEw5⟩ : ∃ G, G = va_up E (cd) (.inl (cy 0, 40, .inl (upd (fd) (nE) (nI (dy))))) := ⟨_, rfl⟩
    have eEw5_10 : Ew5 (cd) = .inl (cy 0, 40, .inl (upd (fd) (nE) (nI (dy)))) := by rw [hEw5]; exact va_up_self _ _ _
    rw [← hEw5] at hP hD
    refine lv_aload_n hx hb dX1_addEntry_19 rfl (lv_at hl 0 rfl) ?_
    obtain ⟨p6, hp6⟩ := kW_pos hco
    refine va_get (D := D) (ci := 1) (v := .ref ((ad (ct)))) (C := RX1) (T := TX1) (N := 8) hx hb hts (by decide +kernel) hown hK hP p6 (kW_get hp6 (show Ew5 (co) = .inr (1, [.int (fn), .ref ((ad (kf))), .ref ((ad (cb))), .ref ((ad (cp))), .ref ((ad (cd))), .ref ((ad (ct))), .ref ((ad (ck))), .int (nI (nE))]) by rw [hEw5, va_up_ne _ _ (by omega)]; exact hEco)) rfl 5 (by decide) (hts (.fieldLink RX1 21 "CaskYard$Cask" "entryTold" "[I") (by decide +kernel)) (fun _ h9 => h9) rfl dX1_addEntry_20 ?_
    refine lv_aload_n hx hb dX1_addEntry_23 rfl (lv_at hl 0 rfl) ?_
    obtain ⟨p7, hp7⟩ := kW_pos hco
    refine va_get (D := D) (ci := 1) (v := .int (nI (nE))) (C := RX1) (T := TX1) (N := 8) hx hb hts (by decide +kernel) hown hK hP p7 (kW_get hp7 (show Ew5 (co) = .inr (1, [.int (fn), .ref ((ad (kf))), .ref ((ad (cb))), .ref ((ad (cp))), .ref ((ad (cd))), .ref ((ad (ct))), .ref ((ad (ck))), .int (nI (nE))]) by rw [hEw5, va_up_ne _ _ (by omega)]; exact hEco)) rfl 7 (by decide) (hts (.fieldLink RX1 44 "CaskYard$Cask" "entries" "I") (by decide +kernel)) (fun _ h9 => h9) rfl dX1_addEntry_24 ?_
    refine lv_iload_n hx hb dX1_addEntry_27 rfl (lv_at hl 2 rfl) ?_
    obtain ⟨p8, hp8⟩ := kW_pos hct
    refine g_iast hx hb hK hP hD hS p8 0 (kW_get hp8 (show Ew5 (ct) = .inl (cy 0, 40, .inl (ft)) by rw [hEw5, va_up_ne _ _ (by omega)]; exact hEct)) rfl (nE) rfl (by omega) (by decide) dX1_addEntry_28 (fun H locs hP hD hS => ?_)
    rw [kW_set hnd hp8] at hP hD
    obtain ⟨Ew9, hEw9⟩ : ∃ G, G = va_up Ew5 (ct) (.inl (cy 0, 40, .inl (upd (ft) (nE) (nI (td))))) := ⟨_, rfl⟩
    have eEw9_11 : Ew9 (ct) = .inl (cy 0, 40, .inl (upd (ft) (nE) (nI (td)))) := by rw [hEw9]; exact va_up_self _ _ _
    have eEw9_10 : Ew9 (cd) = .inl (cy 0, 40, .inl (upd (fd) (nE) (nI (dy)))) := by rw [hEw9, va_up_ne _ _ (by omega)]; exact eEw5_10
    rw [← hEw9] at hP hD
    refine lv_aload_n hx hb dX1_addEntry_29 rfl (lv_at hl 0 rfl) ?_
    obtain ⟨p10, hp10⟩ := kW_pos hco
    refine va_get (D := D) (ci := 1) (v := .ref ((ad (ck)))) (C := RX1) (T := TX1) (N := 8) hx hb hts (by decide +kernel) hown hK hP p10 (kW_get hp10 (show Ew9 (co) = .inr (1, [.int (fn), .ref ((ad (kf))), .ref ((ad (cb))), .ref ((ad (cp))), .ref ((ad (cd))), .ref ((ad (ct))), .ref ((ad (ck))), .int (nI (nE))]) by rw [hEw9, va_up_ne _ _ (by omega), hEw5, va_up_ne _ _ (by omega)]; exact hEco)) rfl 6 (by decide) (hts (.fieldLink RX1 24 "CaskYard$Cask" "entryKind" "[I") (by decide +kernel)) (fun _ h9 => h9) rfl dX1_addEntry_30 ?_
    refine lv_aload_n hx hb dX1_addEntry_33 rfl (lv_at hl 0 rfl) ?_
    obtain ⟨p11, hp11⟩ := kW_pos hco
    refine va_get (D := D) (ci := 1) (v := .int (nI (nE))) (C := RX1) (T := TX1) (N := 8) hx hb hts (by decide +kernel) hown hK hP p11 (kW_get hp11 (show Ew9 (co) = .inr (1, [.int (fn), .ref ((ad (kf))), .ref ((ad (cb))), .ref ((ad (cp))), .ref ((ad (cd))), .ref ((ad (ct))), .ref ((ad (ck))), .int (nI (nE))]) by rw [hEw9, va_up_ne _ _ (by omega), hEw5, va_up_ne _ _ (by omega)]; exact hEco)) rfl 7 (by decide) (hts (.fieldLink RX1 44 "CaskYard$Cask" "entries" "I") (by decide +kernel)) (fun _ h9 => h9) rfl dX1_addEntry_34 ?_
    refine lv_iload_n hx hb dX1_addEntry_37 rfl (lv_at hl 3 rfl) ?_
    obtain ⟨p12, hp12⟩ := kW_pos hck
    refine g_iast hx hb hK hP hD hS p12 0 (kW_get hp12 (show Ew9 (ck) = .inl (cy 0, 40, .inl (fk)) by rw [hEw9, va_up_ne _ _ (by omega), hEw5, va_up_ne _ _ (by omega)]; exact hEck)) rfl (nE) rfl (by omega) (by decide) dX1_addEntry_38 (fun H locs hP hD hS => ?_)
    rw [kW_set hnd hp12] at hP hD
    obtain ⟨Ew13, hEw13⟩ : ∃ G, G = va_up Ew9 (ck) (.inl (cy 0, 40, .inl (upd (fk) (nE) (nI (kd))))) := ⟨_, rfl⟩
    have eEw13_12 : Ew13 (ck) = .inl (cy 0, 40, .inl (upd (fk) (nE) (nI (kd)))) := by rw [hEw13]; exact va_up_self _ _ _
    have eEw13_10 : Ew13 (cd) = .inl (cy 0, 40, .inl (upd (fd) (nE) (nI (dy)))) := by rw [hEw13, va_up_ne _ _ (by omega)]; exact eEw9_10
    have eEw13_11 : Ew13 (ct) = .inl (cy 0, 40, .inl (upd (ft) (nE) (nI (td)))) := by rw [hEw13, va_up_ne _ _ (by omega)]; exact eEw9_11
    rw [← hEw13] at hP hD
    refine lv_aload_n hx hb dX1_addEntry_39 rfl (lv_at hl 0 rfl) ?_
    refine lv_dup hx hb dX1_addEntry_40 rfl ?_
    obtain ⟨p14, hp14⟩ := kW_pos hco
    refine va_get (D := D) (ci := 1) (v := .int (nI (nE))) (C := RX1) (T := TX1) (N := 8) hx hb hts (by decide +kernel) hown hK hP p14 (kW_get hp14 (show Ew13 (co) = .inr (1, [.int (fn), .ref ((ad (kf))), .ref ((ad (cb))), .ref ((ad (cp))), .ref ((ad (cd))), .ref ((ad (ct))), .ref ((ad (ck))), .int (nI (nE))]) by rw [hEw13, va_up_ne _ _ (by omega), hEw9, va_up_ne _ _ (by omega), hEw5, va_up_ne _ _ (by omega)]; exact hEco)) rfl 7 (by decide) (hts (.fieldLink RX1 44 "CaskYard$Cask" "entries" "I") (by decide +kernel)) (fun _ h9 => h9) rfl dX1_addEntry_41 ?_
    refine lv_iconst (v := (nI (1))) hx hb dX1_addEntry_44 (by decide) ?_
    refine g_iadd_n hx hb dX1_addEntry_45 ?_
    obtain ⟨p15, hp15⟩ := kW_pos hco
    refine va_put (D := D) (ci := 1) (v := .int (nI (nE + 1))) (ty := .int) (C := RX1) (T := TX1) (N := 8) hx hb hts (by decide +kernel) tyX1 tyX1_ok nmX1 hown hK hP hD hS p15 (kW_get hp15 (show Ew13 (co) = .inr (1, [.int (fn), .ref ((ad (kf))), .ref ((ad (cb))), .ref ((ad (cp))), .ref ((ad (cd))), .ref ((ad (ct))), .ref ((ad (ck))), .int (nI (nE))]) by rw [hEw13, va_up_ne _ _ (by omega), hEw9, va_up_ne _ _ (by omega), hEw5, va_up_ne _ _ (by omega)]; exact hEco)) rfl 7 (by decide) (hts (.fieldLink RX1 44 "CaskYard$Cask" "entries" "I") (by decide +kernel)) (fun _ h9 => h9) rfl (by decide +kernel) rfl rfl (Nat.le_of_ble_eq_true rfl) dX1_addEntry_46 (fun H locs hP hD hS => ?_)
    rw [show ([.int (fn), .ref ((ad (kf))), .ref ((ad (cb))), .ref ((ad (cp))), .ref ((ad (cd))), .ref ((ad (ct))), .ref ((ad (ck))), .int (nI (nE))] : List Value).set 7 (.int (nI (nE + 1))) = [.int (fn), .ref ((ad (kf))), .ref ((ad (cb))), .ref ((ad (cp))), .ref ((ad (cd))), .ref ((ad (ct))), .ref ((ad (ck))), .int (nI (nE + 1))] from rfl] at hP hD
    rw [kW_set hnd hp15] at hP hD
    obtain ⟨Ew16, hEw16⟩ : ∃ G, G = va_up Ew13 (co) (.inr (1, [.int (fn), .ref ((ad (kf))), .ref ((ad (cb))), .ref ((ad (cp))), .ref ((ad (cd))), .ref ((ad (ct))), .ref ((ad (ck))), .int (nI (nE + 1))])) := ⟨_, rfl⟩
    have eEw16_6 : Ew16 (co) = .inr (1, [.int (fn), .ref ((ad (kf))), .ref ((ad (cb))), .ref ((ad (cp))), .ref ((ad (cd))), .ref ((ad (ct))), .ref ((ad (ck))), .int (nI (nE + 1))]) := by rw [hEw16]; exact va_up_self _ _ _
    have eEw16_10 : Ew16 (cd) = .inl (cy 0, 40, .inl (upd (fd) (nE) (nI (dy)))) := by rw [hEw16, va_up_ne _ _ (by omega)]; exact eEw13_10
    have eEw16_11 : Ew16 (ct) = .inl (cy 0, 40, .inl (upd (ft) (nE) (nI (td)))) := by rw [hEw16, va_up_ne _ _ (by omega)]; exact eEw13_11
    have eEw16_12 : Ew16 (ck) = .inl (cy 0, 40, .inl (upd (fk) (nE) (nI (kd)))) := by rw [hEw16, va_up_ne _ _ (by omega)]; exact eEw13_12
    rw [← hEw16] at hP hD
    exact W.vret hx hb hr (fun t ht hW => ⟨⟨Ew16, rfl, ⟨eEw16_6, eEw16_10, eEw16_11, eEw16_12, (fun j_ h0_ h1_ h2_ h3_ => by rw [hEw16, va_up_ne _ _ h0_, hEw13, va_up_ne _ _ h3_, hEw9, va_up_ne _ _ h2_, hEw5, va_up_ne _ _ h1_])⟩, by rw [ht]; exact hP, va_K.moved hW.alike hK, hD⟩, hS.F ht⟩) hS.2.2 dX1_addEntry_49
set_option maxHeartbeats 4000000 in
set_option maxRecDepth 100000 in
theorem c_X1_heldOn (l : Launch) (D : va_G) (cy : Nat → ClassId) (K : List Nat) (ad : Nat → Nat) (E : Nat → va_E) (co cb cp cd ct ck kf : Nat) (hco : co ∈ K) (fn : Int32) (L : List (Nat × Nat × Nat)) (hEco : E co = .inr (1, [.int (fn), .ref ((ad (kf))), .ref ((ad (cb))), .ref ((ad (cp))), .ref ((ad (cd))), .ref ((ad (ct))), .ref ((ad (ck))), .int (nI (L.length))])) (hcd : cd ∈ K) (fd : Nat → Int32) (hEcd : E cd = rowI cy 40 fd) (hct : ct ∈ K) (ft : Nat → Int32) (hEct : E ct = rowI cy 40 ft) (hck : ck ∈ K) (fk : Nat → Int32) (hEck : E ck = rowI cy 40 fk) (hL : L.length ≤ 40) (hAr : arrE fd ft fk 0 L) (hq : ∀ q ∈ L, q.1 ≤ 100000 ∧ q.2.1 ≤ 100000 ∧ q.2.2 ≤ 16) (d k : Int32) : Met l yX1_heldOn wsX1_heldOn ({ frames := 0, cells := 0, slots := 0, locals := 0 } : Room) (va_Pc [.ref ((ad (co))), .int (d), .int (k)] (rB2 D cy (kW K ad E))) (vp_Si (fun r : Int32 => r = zI (heldS L d.toInt k.toInt).2)) 0 0 (fun _ => False) := by
  refine Met.ofW (cc := cX1_heldOn) (maxL := 6) (ret := (some .int)) (by decide) rfl ?_
  intro p e s m args below meth c s₁ B hml hv
  obtain ⟨rfl, hv⟩ := hv
  have hx := B.exec
  have hb := B.bytes
  have hr := B.returns
  have hts := atoms_spec (ws := wsX1_heldOn) B.pre
  have hown : s.vm.findClass RX1 = some m.cls := findClass_of_methodNamed B.named
  have hlocks := B.notSynchronized
  obtain ⟨⟨hP, hK⟩, hN⟩ := hv
  have hl := lv_entry ([.ref ((ad (co))), .int (d), .int (k)]) (n := 6) (Nat.le_of_ble_eq_true rfl)
  rw [lg_entry_eq]
  generalize (lg_sl ([.ref ((ad (co))), .int (d), .int (k)]) ++ List.replicate (6 - (lg_sl ([.ref ((ad (co))), .int (d), .int (k)])).length) Slot.unset).toArray = ls at hl ⊢
  have hl : lv_has ls 6 [(0, .ref ((ad (co)))), (1, .int (d)), (2, .int (k))] := hl
  refine lv_iconst (v := (zI ((-1)))) hx hb dX1_heldOn_0 (by decide) ?_
  refine lv_istore_n (lv' := [(3, .int (zI ((-1)))), (0, .ref ((ad (co)))), (1, .int (d)), (2, .int (k))]) hx hb dX1_heldOn_1 rfl hl (by decide) rfl (fun ls hl => ?_)
  refine lv_iconst (v := (zI ((-1)))) hx hb dX1_heldOn_2 (by decide) ?_
  refine lv_istore (lv' := [(4, .int (zI ((-1)))), (3, .int (zI ((-1)))), (0, .ref ((ad (co)))), (1, .int (d)), (2, .int (k))]) hx hb dX1_heldOn_3 hl (by decide) rfl (fun ls hl => ?_)
  refine lv_iconst (v := (nI (0))) hx hb dX1_heldOn_5 (by decide) ?_
  refine lv_istore (lv' := [(5, .int (nI (0))), (4, .int (zI ((-1)))), (3, .int (zI ((-1)))), (0, .ref ((ad (co)))), (1, .int (d)), (2, .int (k))]) hx hb dX1_heldOn_6 hl (by decide) rfl (fun ls hl => ?_)
  have loop_8 : ∀ (n_ : Nat) (i : Nat) (z : Int × Int), (i ≤ L.length) → (z = heldS (L.take (i)) d.toInt k.toInt) → L.length - i < n_ → ∀ (ls : Array Slot), lv_has ls 6 [(0, .ref ((ad (co)))), (1, .int (d)), (2, .int (k)), (3, .int (zI (z.1))), (4, .int (zI (z.2))), (5, .int (nI (i)))] → W p l e (headSpec wsX1_heldOn ({ frames := 0, cells := 0, slots := 0, locals := 0 } : Room)).room s m ([.ref ((ad (co))), .int (d), .int (k)] : List Value).toArray below meth c s.heap [] 0 0 (MQ below (vp_Si (fun r : Int32 => r = zI (heldS L d.toInt k.toInt).2)) ([.ref ((ad (co))), .int (d), .int (k)] : List Value).toArray s 0 0 (fun _ => False)) (F0 m 8 ls []) := by
    intro n_
    induction n_ with
    | zero => intro i z hi hz hm_; exact absurd hm_ (Nat.not_lt_zero _)
    | succ n_ ih_8 =>
      intro i z hi hz hm_ ls hl
      have hzb := heldS_bd1 (L := L) (fun q h => (hq q h).1) i d.toInt k.toInt
      rw [← hz] at hzb
      refine lv_iload hx hb dX1_heldOn_8 (lv_at hl 5 rfl) ?_
      refine lv_aload_n hx hb dX1_heldOn_10 rfl (lv_at hl 0 rfl) ?_
      obtain ⟨p1, hp1⟩ := kW_pos hco
      refine va_get (D := D) (ci := 1) (v := .int (nI (L.length))) (C := RX1) (T := TX1) (N := 8) hx hb hts (by decide +kernel) hown hK hP p1 (kW_get hp1 hEco) rfl 7 (by decide) (hts (.fieldLink RX1 44 "CaskYard$Cask" "entries" "I") (by decide +kernel)) (fun _ h9 => h9) rfl dX1_heldOn_11 ?_
      refine g_icmp_ge (tgt := 73) hx hb dX1_heldOn_14 (by decide) (n_i (by omega)) (n_i (by omega)) (fun c_14 => ?_) (fun c_14 => ?_)
      · skip
        have hii : i = L.length := by omega
        refine lv_iload hx hb dX1_heldOn_73 (lv_at hl 4 rfl) ?_
        exact W.iret (v := (zI (z.2))) hx hb hr (fun t ht hW => ⟨_, rfl, (by rw [hz, hii, List.take_length]), ht⟩) (fun _ h => nomatch h) dX1_heldOn_75
      · skip
        have hq9 := hq _ (enD_mem (L := L) (i := i) (by omega))
        refine lv_aload_n hx hb dX1_heldOn_17 rfl (lv_at hl 0 rfl) ?_
        obtain ⟨p2, hp2⟩ := kW_pos hco
        refine va_get (D := D) (ci := 1) (v := .ref ((ad (ct)))) (C := RX1) (T := TX1) (N := 8) hx hb hts (by decide +kernel) hown hK hP p2 (kW_get hp2 hEco) rfl 5 (by decide) (hts (.fieldLink RX1 21 "CaskYard$Cask" "entryTold" "[I") (by decide +kernel)) (fun _ h9 => h9) rfl dX1_heldOn_18 ?_
        refine lv_iload hx hb dX1_heldOn_21 (lv_at hl 5 rfl) ?_
        obtain ⟨p3, hp3⟩ := kW_pos hct
        refine g_iald hx hb hK hP p3 0 (kW_get hp3 hEct) rfl (i) rfl (by omega) (by decide) dX1_heldOn_23 ?_
        refine g_top (y := (nI ((enD L i).2.1))) ((arrE_0 hAr (by omega)).2.1) ?_
        refine lv_iload_n hx hb dX1_heldOn_24 rfl (lv_at hl 2 rfl) ?_
        refine g_icmp_gt (tgt := 67) hx hb dX1_heldOn_25 (by decide) (n_i (by omega)) rfl (fun c_25 => ?_) (fun c_25 => ?_)
        · skip
          refine lv_iinc (v := (nI (i + 1))) (lv' := [(5, .int (nI (i + 1))), (0, .ref ((ad (co)))), (1, .int (d)), (2, .int (k)), (3, .int (zI (z.1))), (4, .int (zI (z.2)))]) hx hb dX1_heldOn_67 hl (k := 5) rfl (nI_add _ _) (by decide) rfl (fun ls hl => ?_)
          refine lv_goto (tgt := 8) hx hb dX1_heldOn_70 (by decide) ?_
          exact ih_8 (i + 1) (z)  (by omega) (by rw [heldS_keep (by omega) (by rw [← hz]; omega)]; exact hz) (by omega) ls (lv_sub hl [1, 2, 3, 4, 5, 0] rfl)
        · skip
          refine lv_aload_n hx hb dX1_heldOn_28 rfl (lv_at hl 0 rfl) ?_
          obtain ⟨p4, hp4⟩ := kW_pos hco
          refine va_get (D := D) (ci := 1) (v := .ref ((ad (cd)))) (C := RX1) (T := TX1) (N := 8) hx hb hts (by decide +kernel) hown hK hP p4 (kW_get hp4 hEco) rfl 4 (by decide) (hts (.fieldLink RX1 18 "CaskYard$Cask" "entryDay" "[I") (by decide +kernel)) (fun _ h9 => h9) rfl dX1_heldOn_29 ?_
          refine lv_iload hx hb dX1_heldOn_32 (lv_at hl 5 rfl) ?_
          obtain ⟨p5, hp5⟩ := kW_pos hcd
          refine g_iald hx hb hK hP p5 0 (kW_get hp5 hEcd) rfl (i) rfl (by omega) (by decide) dX1_heldOn_34 ?_
          refine g_top (y := (nI ((enD L i).1))) ((arrE_0 hAr (by omega)).1) ?_
          refine lv_iload_n hx hb dX1_heldOn_35 rfl (lv_at hl 1 rfl) ?_
          refine g_icmp_gt (tgt := 67) hx hb dX1_heldOn_36 (by decide) (n_i (by omega)) rfl (fun c_36 => ?_) (fun c_36 => ?_)
          · skip
            refine lv_iinc (v := (nI (i + 1))) (lv' := [(5, .int (nI (i + 1))), (0, .ref ((ad (co)))), (1, .int (d)), (2, .int (k)), (3, .int (zI (z.1))), (4, .int (zI (z.2)))]) hx hb dX1_heldOn_67 hl (k := 5) rfl (nI_add _ _) (by decide) rfl (fun ls hl => ?_)
            refine lv_goto (tgt := 8) hx hb dX1_heldOn_70 (by decide) ?_
            exact ih_8 (i + 1) (z)  (by omega) (by rw [heldS_keep (by omega) (by rw [← hz]; omega)]; exact hz) (by omega) ls (lv_sub hl [1, 2, 3, 4, 5, 0] rfl)
          · skip
            refine lv_aload_n hx hb dX1_heldOn_39 rfl (lv_at hl 0 rfl) ?_
            obtain ⟨p6, hp6⟩ := kW_pos hco
            refine va_get (D := D) (ci := 1) (v := .ref ((ad (cd)))) (C := RX1) (T := TX1) (N := 8) hx hb hts (by decide +kernel) hown hK hP p6 (kW_get hp6 hEco) rfl 4 (by decide) (hts (.fieldLink RX1 18 "CaskYard$Cask" "entryDay" "[I") (by decide +kernel)) (fun _ h9 => h9) rfl dX1_heldOn_40 ?_
            refine lv_iload hx hb dX1_heldOn_43 (lv_at hl 5 rfl) ?_
            obtain ⟨p7, hp7⟩ := kW_pos hcd
            refine g_iald hx hb hK hP p7 0 (kW_get hp7 hEcd) rfl (i) rfl (by omega) (by decide) dX1_heldOn_45 ?_
            refine g_top (y := (nI ((enD L i).1))) ((arrE_0 hAr (by omega)).1) ?_
            refine lv_iload_n hx hb dX1_heldOn_46 rfl (lv_at hl 3 rfl) ?_
            refine g_icmp_lt (tgt := 67) hx hb dX1_heldOn_47 (by decide) (n_i (by omega)) (zI_toInt (by omega) (by omega)) (fun c_47 => ?_) (fun c_47 => ?_)
            · skip
              refine lv_iinc (v := (nI (i + 1))) (lv' := [(5, .int (nI (i + 1))), (0, .ref ((ad (co)))), (1, .int (d)), (2, .int (k)), (3, .int (zI (z.1))), (4, .int (zI (z.2)))]) hx hb dX1_heldOn_67 hl (k := 5) rfl (nI_add _ _) (by decide) rfl (fun ls hl => ?_)
              refine lv_goto (tgt := 8) hx hb dX1_heldOn_70 (by decide) ?_
              exact ih_8 (i + 1) (z)  (by omega) (by rw [heldS_keep (by omega) (by rw [← hz]; omega)]; exact hz) (by omega) ls (lv_sub hl [1, 2, 3, 4, 5, 0] rfl)
            · skip
              refine lv_aload_n hx hb dX1_heldOn_50 rfl (lv_at hl 0 rfl) ?_
              obtain ⟨p8, hp8⟩ := kW_pos hco
              refine va_get (D := D) (ci := 1) (v := .ref ((ad (cd)))) (C := RX1) (T := TX1) (N := 8) hx hb hts (by decide +kernel) hown hK hP p8 (kW_get hp8 hEco) rfl 4 (by decide) (hts (.fieldLink RX1 18 "CaskYard$Cask" "entryDay" "[I") (by decide +kernel)) (fun _ h9 => h9) rfl dX1_heldOn_51 ?_
              refine lv_iload hx hb dX1_heldOn_54 (lv_at hl 5 rfl) ?_
              obtain ⟨p9, hp9⟩ := kW_pos hcd
              refine g_iald hx hb hK hP p9 0 (kW_get hp9 hEcd) rfl (i) rfl (by omega) (by decide) dX1_heldOn_56 ?_
              refine g_top (y := (nI ((enD L i).1))) ((arrE_0 hAr (by omega)).1) ?_
              refine lv_istore_n (lv' := [(3, .int (nI ((enD L i).1))), (0, .ref ((ad (co)))), (1, .int (d)), (2, .int (k)), (4, .int (zI (z.2))), (5, .int (nI (i)))]) hx hb dX1_heldOn_57 rfl hl (by decide) rfl (fun ls hl => ?_)
              refine lv_aload_n hx hb dX1_heldOn_58 rfl (lv_at hl 1 rfl) ?_
              obtain ⟨p10, hp10⟩ := kW_pos hco
              refine va_get (D := D) (ci := 1) (v := .ref ((ad (ck)))) (C := RX1) (T := TX1) (N := 8) hx hb hts (by decide +kernel) hown hK hP p10 (kW_get hp10 hEco) rfl 6 (by decide) (hts (.fieldLink RX1 24 "CaskYard$Cask" "entryKind" "[I") (by decide +kernel)) (fun _ h9 => h9) rfl dX1_heldOn_59 ?_
              refine lv_iload hx hb dX1_heldOn_62 (lv_at hl 5 rfl) ?_
              obtain ⟨p11, hp11⟩ := kW_pos hck
              refine g_iald hx hb hK hP p11 0 (kW_get hp11 hEck) rfl (i) rfl (by omega) (by decide) dX1_heldOn_64 ?_
              refine g_top (y := (nI ((enD L i).2.2))) ((arrE_0 hAr (by omega)).2.2) ?_
              refine lv_istore (lv' := [(4, .int (nI ((enD L i).2.2))), (3, .int (nI ((enD L i).1))), (0, .ref ((ad (co)))), (1, .int (d)), (2, .int (k)), (5, .int (nI (i)))]) hx hb dX1_heldOn_65 hl (by decide) rfl (fun ls hl => ?_)
              refine lv_iinc (v := (nI (i + 1))) (lv' := [(5, .int (nI (i + 1))), (4, .int (nI ((enD L i).2.2))), (3, .int (nI ((enD L i).1))), (0, .ref ((ad (co)))), (1, .int (d)), (2, .int (k))]) hx hb dX1_heldOn_67 hl (k := 5) rfl (nI_add _ _) (by decide) rfl (fun ls hl => ?_)
              refine lv_goto (tgt := 8) hx hb dX1_heldOn_70 (by decide) ?_
              exact ih_8 (i + 1) (((((enD L i).1 : Nat) : Int), (((enD L i).2.2 : Nat) : Int)))  (by omega) (by rw [heldS_take (by omega) (by rw [← hz]; exact ⟨by omega, by omega, by omega⟩)]) (by omega) ls (lv_sub hl [3, 4, 5, 2, 1, 0] rfl)
  exact loop_8 _ (0) ((-1, -1))  (by omega) rfl (Nat.lt_succ_self _) ls (lv_sub hl [3, 4, 5, 2, 1, 0] rfl)
set_option maxHeartbeats 4000000 in
set_option maxRecDepth 100000 in
theorem c_X1_nextEntryDay (l : Launch) (D : va_G) (cy : Nat → ClassId) (K : List Nat) (ad : Nat → Nat) (E : Nat → va_E) (co cb cp cd ct ck kf : Nat) (hco : co ∈ K) (fn : Int32) (L : List (Nat × Nat × Nat)) (hEco : E co = .inr (1, [.int (fn), .ref ((ad (kf))), .ref ((ad (cb))), .ref ((ad (cp))), .ref ((ad (cd))), .ref ((ad (ct))), .ref ((ad (ck))), .int (nI (L.length))])) (hcd : cd ∈ K) (fd : Nat → Int32) (hEcd : E cd = rowI cy 40 fd) (hL : L.length ≤ 40) (ft fk : Nat → Int32) (hAr : arrE fd ft fk 0 L) (hq : ∀ q ∈ L, q.1 ≤ 100000 ∧ q.2.1 ≤ 100000 ∧ q.2.2 ≤ 16) (d : Nat) (hd9 : d ≤ 200000) : Met l yX1_nextEntryDay wsX1_nextEntryDay ({ frames := 1, cells := 0, slots := 0, locals := 40 } : Room) (va_Pc [.ref ((ad (co))), .int (nI (d))] (rB2 D cy (kW K ad E))) (vp_Si (fun r : Int32 => r = nI (nxtN L d L.length))) 0 0 (fun _ => False) := by
  refine Met.ofW (cc := cX1_nextEntryDay) (maxL := 4) (ret := (some .int)) (by decide) rfl ?_
  intro p e s m args below meth c s₁ B hml hv
  obtain ⟨rfl, hv⟩ := hv
  have hx := B.exec
  have hb := B.bytes
  have hr := B.returns
  have hts := atoms_spec (ws := wsX1_nextEntryDay) B.pre
  have hown : s.vm.findClass RX1 = some m.cls := findClass_of_methodNamed B.named
  have hlocks := B.notSynchronized
  obtain ⟨⟨hP, hK⟩, hN⟩ := hv
  have hl := lv_entry ([.ref ((ad (co))), .int (nI (d))]) (n := 4) (Nat.le_of_ble_eq_true rfl)
  rw [lg_entry_eq]
  generalize (lg_sl ([.ref ((ad (co))), .int (nI (d))]) ++ List.replicate (4 - (lg_sl ([.ref ((ad (co))), .int (nI (d))])).length) Slot.unset).toArray = ls at hl ⊢
  have hl : lv_has ls 4 [(0, .ref ((ad (co)))), (1, .int (nI (d)))] := hl
  refine lv_ldc hx hb hown (hts (.constant RX1 47 (100001)) (by decide +kernel)) dX1_nextEntryDay_0 ?_
  refine g_top (y := (nI (100001))) (by decide) ?_
  refine lv_istore_n (lv' := [(2, .int (nI (100001))), (0, .ref ((ad (co)))), (1, .int (nI (d)))]) hx hb dX1_nextEntryDay_2 rfl hl (by decide) rfl (fun ls hl => ?_)
  refine lv_iconst (v := (nI (0))) hx hb dX1_nextEntryDay_3 (by decide) ?_
  refine lv_istore_n (lv' := [(3, .int (nI (0))), (2, .int (nI (100001))), (0, .ref ((ad (co)))), (1, .int (nI (d)))]) hx hb dX1_nextEntryDay_4 rfl hl (by decide) rfl (fun ls hl => ?_)
  have loop_5 : ∀ (n_ : Nat) (i : Nat) (z : Nat), (i ≤ L.length) → (z = nxtN L d i) → L.length - i < n_ → ∀ (ls : Array Slot), lv_has ls 4 [(0, .ref ((ad (co)))), (1, .int (nI (d))), (2, .int (nI (z))), (3, .int (nI (i)))] → W p l e (headSpec wsX1_nextEntryDay ({ frames := 1, cells := 0, slots := 0, locals := 40 } : Room)).room s m ([.ref ((ad (co))), .int (nI (d))] : List Value).toArray below meth c s.heap [] 0 0 (MQ below (vp_Si (fun r : Int32 => r = nI (nxtN L d L.length))) ([.ref ((ad (co))), .int (nI (d))] : List Value).toArray s 0 0 (fun _ => False)) (F0 m 5 ls []) := by
    intro n_
    induction n_ with
    | zero => intro i z hi hz hm_; exact absurd hm_ (Nat.not_lt_zero _)
    | succ n_ ih_5 =>
      intro i z hi hz hm_ ls hl
      have hzb := nxtN_le L d i
      refine lv_iload_n hx hb dX1_nextEntryDay_5 rfl (lv_at hl 3 rfl) ?_
      refine lv_aload_n hx hb dX1_nextEntryDay_6 rfl (lv_at hl 0 rfl) ?_
      obtain ⟨p1, hp1⟩ := kW_pos hco
      refine va_get (D := D) (ci := 1) (v := .int (nI (L.length))) (C := RX1) (T := TX1) (N := 8) hx hb hts (by decide +kernel) hown hK hP p1 (kW_get hp1 hEco) rfl 7 (by decide) (hts (.fieldLink RX1 44 "CaskYard$Cask" "entries" "I") (by decide +kernel)) (fun _ h9 => h9) rfl dX1_nextEntryDay_7 ?_
      refine g_icmp_ge (tgt := 40) hx hb dX1_nextEntryDay_10 (by decide) (n_i (by omega)) (n_i (by omega)) (fun c_10 => ?_) (fun c_10 => ?_)
      · skip
        have hii : i = L.length := by omega
        refine lv_iload_n hx hb dX1_nextEntryDay_40 rfl (lv_at hl 2 rfl) ?_
        exact W.iret (v := (nI (z))) hx hb hr (fun t ht hW => ⟨_, rfl, (by rw [hz, hii]), ht⟩) (fun _ h => nomatch h) dX1_nextEntryDay_41
      · skip
        have hq9 := hq _ (enD_mem (L := L) (i := i) (by omega))
        refine lv_aload_n hx hb dX1_nextEntryDay_13 rfl (lv_at hl 0 rfl) ?_
        obtain ⟨p2, hp2⟩ := kW_pos hco
        refine va_get (D := D) (ci := 1) (v := .ref ((ad (cd)))) (C := RX1) (T := TX1) (N := 8) hx hb hts (by decide +kernel) hown hK hP p2 (kW_get hp2 hEco) rfl 4 (by decide) (hts (.fieldLink RX1 18 "CaskYard$Cask" "entryDay" "[I") (by decide +kernel)) (fun _ h9 => h9) rfl dX1_nextEntryDay_14 ?_
        refine lv_iload_n hx hb dX1_nextEntryDay_17 rfl (lv_at hl 3 rfl) ?_
        obtain ⟨p3, hp3⟩ := kW_pos hcd
        refine g_iald hx hb hK hP p3 0 (kW_get hp3 hEcd) rfl (i) rfl (by omega) (by decide) dX1_nextEntryDay_18 ?_
        refine g_top (y := (nI ((enD L i).1))) ((arrE_0 hAr (by omega)).1) ?_
        refine lv_iload_n hx hb dX1_nextEntryDay_19 rfl (lv_at hl 1 rfl) ?_
        refine g_icmp_le (tgt := 34) hx hb dX1_nextEntryDay_20 (by decide) (n_i (by omega)) (n_i (by omega)) (fun c_20 => ?_) (fun c_20 => ?_)
        · skip
          refine lv_iinc (v := (nI (i + 1))) (lv' := [(3, .int (nI (i + 1))), (0, .ref ((ad (co)))), (1, .int (nI (d))), (2, .int (nI (z)))]) hx hb dX1_nextEntryDay_34 hl (k := 3) rfl (nI_add _ _) (by decide) rfl (fun ls hl => ?_)
          refine lv_goto (tgt := 5) hx hb dX1_nextEntryDay_37 (by decide) ?_
          exact ih_5 (i + 1) (z)  (by omega) (by rw [nxt_f (by omega)]; exact hz) (by omega) ls (lv_sub hl [1, 2, 3, 0] rfl)
        · skip
          refine lv_iload_n hx hb dX1_nextEntryDay_23 rfl (lv_at hl 2 rfl) ?_
          refine lv_aload_n hx hb dX1_nextEntryDay_24 rfl (lv_at hl 0 rfl) ?_
          obtain ⟨p4, hp4⟩ := kW_pos hco
          refine va_get (D := D) (ci := 1) (v := .ref ((ad (cd)))) (C := RX1) (T := TX1) (N := 8) hx hb hts (by decide +kernel) hown hK hP p4 (kW_get hp4 hEco) rfl 4 (by decide) (hts (.fieldLink RX1 18 "CaskYard$Cask" "entryDay" "[I") (by decide +kernel)) (fun _ h9 => h9) rfl dX1_nextEntryDay_25 ?_
          refine lv_iload_n hx hb dX1_nextEntryDay_28 rfl (lv_at hl 3 rfl) ?_
          obtain ⟨p5, hp5⟩ := kW_pos hcd
          refine g_iald hx hb hK hP p5 0 (kW_get hp5 hEcd) rfl (i) rfl (by omega) (by decide) dX1_nextEntryDay_29 ?_
          refine g_top (y := (nI ((enD L i).1))) ((arrE_0 hAr (by omega)).1) ?_
          refine va_mmin hx hb (hml.trans hl.1.symm) hown (hts (.methodLink RX1 48 Lib.Math.min.name) (by decide +kernel)) (hts (.static Lib.Math.min.name) (by decide +kernel)) (hts (.initialized "java/lang/Math") (by decide +kernel)) (hts (.code Lib.Math.min.name Lib.Math.min.code 2 (some .int)) (by decide +kernel)) (Nat.le_of_ble_eq_true rfl) (Nat.le_of_ble_eq_true rfl) (Nat.le_of_ble_eq_true rfl) (Nat.le_of_ble_eq_true rfl) dX1_nextEntryDay_30 ?_
          refine g_top (y := (nI (min (z) ((enD L i).1)))) (n_min (by omega) (by omega)) ?_
          refine lv_istore_n (lv' := [(2, .int (nI (min (z) ((enD L i).1)))), (0, .ref ((ad (co)))), (1, .int (nI (d))), (3, .int (nI (i)))]) hx hb dX1_nextEntryDay_33 rfl hl (by decide) rfl (fun ls hl => ?_)
          refine lv_iinc (v := (nI (i + 1))) (lv' := [(3, .int (nI (i + 1))), (2, .int (nI (min (z) ((enD L i).1)))), (0, .ref ((ad (co)))), (1, .int (nI (d)))]) hx hb dX1_nextEntryDay_34 hl (k := 3) rfl (nI_add _ _) (by decide) rfl (fun ls hl => ?_)
          refine lv_goto (tgt := 5) hx hb dX1_nextEntryDay_37 (by decide) ?_
          exact ih_5 (i + 1) (min (z) ((enD L i).1))  (by omega) (by rw [nxt_t (by omega), hz]) (by omega) ls (lv_sub hl [2, 3, 1, 0] rfl)
  exact loop_5 _ (0) (100001)  (by omega) rfl (Nat.lt_succ_self _) ls (lv_sub hl [2, 3, 1, 0] rfl)
