set_option maxHeartbeats 4000000 in
set_option maxRecDepth 100000 in
theorem c_X3_sortIn (l : Launch) (D : va_G) (cy : Nat → ClassId) (sz : Nat) (K : List Nat) (ad : Nat → Nat) (E : Nat → va_E) (h6 : 6 ∈ K) (nr bl n : Nat) (hE6 : E 6 = .inr (3, [.ref ((ad (7))), .ref ((ad (8))), .ref ((ad (9))), .ref ((ad (10))), .ref ((ad (11))), .ref ((ad (12))), .ref ((ad (13))), .ref ((ad (14))), .ref ((ad (15))), .ref ((ad (16))), .ref ((ad (17))), .int (nI (bl)), .int (nI (n)), .int (nI (nr))])) (h13 : 13 ∈ K) (f13 : Nat → Int32) (hE13 : E 13 = .inl (cy 0, 32, .inl (f13))) (h14 : 14 ∈ K) (f14 : Nat → Int32) (hE14 : E 14 = .inl (cy 0, 32, .inl (f14))) (hn32 : n < 32) (lo : Nat → Nat) (hlsb : ∀ i, lo i ≤ 3000) (SS : List Nat) (hSl : SS.length = n) (hSb : ∀ i, i < n → SS.getD i 0 < n) (hL13 : ∀ i, i ≤ n → f13 i = nI (lo i)) (hS14 : ∀ i, i < n → f14 i = nI (SS.getD i 0)) (hSp : SS.Pairwise (fun x y => lo x ≤ lo y)) : Met l yX3_sortIn wsX3_sortIn ({ frames := 0, cells := 0, slots := 0, locals := 0 } : Room) (va_Pc [.ref ((ad (6))), .int (nI (n))] (wB2 D cy sz (kW K ad E))) (va_Qv (fun (u : Nat → va_E) => ∃ (f' : Nat → Int32) (q : Nat), u (14) = .inl (cy 0, 32, .inl (f')) ∧ (∀ j_ : Nat, j_ ≠ 14 → u j_ = E j_) ∧ q ≤ n ∧ (∀ i, i ≤ n → f' i = nI ((SS.take q ++ n :: SS.drop q).getD i 0)) ∧ (SS.take q ++ n :: SS.drop q).Pairwise (fun x y => lo x ≤ lo y)) (fun u t => wE D cy (va_A (kW K ad E) sz) (kW K ad u) t) (va_A (kW K ad E) sz)) 0 0 (va_A (kW K ad E) sz) := by
  refine Met.ofW (cc := cX3_sortIn) (maxL := 3) (ret := none) (by decide) rfl ?_
  intro p e s m args below meth c s₁ B hml hv
  obtain ⟨rfl, ⟨hsz, hP, hK, hD0⟩, hN⟩ := hv
  have hx := B.exec
  have hb := B.bytes
  have hr := B.returns
  have hts := atoms_spec (ws := wsX3_sortIn) B.pre
  have hown : s.vm.findClass RX3 = some m.cls := findClass_of_methodNamed B.named
  have hlocks := B.notSynchronized
  subst hsz
  have hD := hD0.self (sz := s.heap.size)
  generalize hAe : va_A (kW K ad E) s.heap.size = A at hD ⊢
  have hA : ∀ q : Nat, s.heap.size ≤ q → A q := w_A hAe
  have hS : va_S A s.heap s.heap [] := va_S.rf
  have hnd := kW_nd hD
  have hl := lv_entry ([.ref ((ad (6))), .int (nI (n))]) (n := 3) (Nat.le_of_ble_eq_true rfl)
  rw [lg_entry_eq]
  generalize (lg_sl ([.ref ((ad (6))), .int (nI (n))]) ++ List.replicate (3 - (lg_sl ([.ref ((ad (6))), .int (nI (n))])).length) Slot.unset).toArray = ls at hl ⊢
  have hl : lv_has ls 3 [(0, .ref ((ad (6)))), (1, .int (nI (n)))] := hl
  refine lv_iload_n hx hb dX3_sortIn_0 rfl (lv_at hl 1 rfl) ?_
  refine lv_istore_n (lv' := [(2, .int (nI (n))), (0, .ref ((ad (6)))), (1, .int (nI (n)))]) hx hb dX3_sortIn_1 rfl hl (by decide) rfl (fun ls hl => ?_)
  have loop_2 : ∀ (n_ : Nat) (q : Nat) (g9 : Nat → Int32) (Ec : Nat → va_E) (H : Heap) (locs : List Loc), va_P D vwCl (kW K ad Ec) H → va_D A (kW K ad Ec) → va_S A s.heap H locs → (q ≤ n) → (∀ j, j < q → g9 j = nI (SS.getD j 0)) → (∀ j, q ≤ j → j < n → g9 (j + 1) = nI (SS.getD j 0) ∧ lo n < lo (SS.getD j 0)) → (Ec (14) = .inl (cy 0, 32, .inl (g9))) → (∀ j_ : Nat, j_ ≠ 14 → Ec j_ = E j_) → q < n_ → ∀ (ls : Array Slot), lv_has ls 3 [(0, .ref ((ad (6)))), (1, .int (nI (n))), (2, .int (nI (q)))] → W p l e (headSpec wsX3_sortIn ({ frames := 0, cells := 0, slots := 0, locals := 0 } : Room)).room s m ([.ref ((ad (6))), .int (nI (n))] : List Value).toArray below meth c H locs 0 0 (MQ below (va_Qv (fun (u : Nat → va_E) => ∃ (f' : Nat → Int32) (q : Nat), u (14) = .inl (cy 0, 32, .inl (f')) ∧ (∀ j_ : Nat, j_ ≠ 14 → u j_ = E j_) ∧ q ≤ n ∧ (∀ i, i ≤ n → f' i = nI ((SS.take q ++ n :: SS.drop q).getD i 0)) ∧ (SS.take q ++ n :: SS.drop q).Pairwise (fun x y => lo x ≤ lo y)) (fun u t => wE D cy A (kW K ad u) t) A) ([.ref ((ad (6))), .int (nI (n))] : List Value).toArray s 0 0 A) (F0 m 2 ls []) := by
    intro n_
    induction n_ with
    | zero => intro q g9 Ec H locs hP hD hS hq hg1 hg2 hk_2_0 hO_2 hm_; exact absurd hm_ (Nat.not_lt_zero _)
    | succ n_ ih_2 =>
      intro q g9 Ec H locs hP hD hS hq hg1 hg2 hk_2_0 hO_2 hm_ ls hl
      have fL2_13 : Ec (6) = .inr (3, [.ref ((ad (7))), .ref ((ad (8))), .ref ((ad (9))), .ref ((ad (10))), .ref ((ad (11))), .ref ((ad (12))), .ref ((ad (13))), .ref ((ad (14))), .ref ((ad (15))), .ref ((ad (16))), .ref ((ad (17))), .int (nI (bl)), .int (nI (n)), .int (nI (nr))]) := (hO_2 (6) (by omega)).trans hE6
      have fL2_16 : Ec (13) = .inl (cy 0, 32, .inl (f13)) := (hO_2 (13) (by omega)).trans hE13
      refine lv_iload_n hx hb dX3_sortIn_2 rfl (lv_at hl 2 rfl) ?_
      refine g_if_le (tgt := 48) hx hb dX3_sortIn_3 (by decide) (n_i (by omega)) (fun c_3 => ?_) (fun c_3 => ?_)
      · skip
        have hse := sort_end hSl hq hg1 hg2 hSp (Or.inl (by omega))
        refine lv_aload_n hx hb dX3_sortIn_48 rfl (lv_at hl 0 rfl) ?_
        obtain ⟨p1, hp1⟩ := kW_pos h6
        refine va_get (D := D) (ci := 3) (v := .ref ((ad (14)))) (C := RX3) (T := TX3) (N := 14) hx hb hts (by decide +kernel) hown hK hP p1 (kW_get hp1 fL2_13) rfl 7 (by decide) (hts (.fieldLink RX3 36 "CaskYard$Saw" "byLoss" "[I") (by decide +kernel)) (fun _ h9 => h9) rfl dX3_sortIn_49 ?_
        refine lv_iload_n hx hb dX3_sortIn_52 rfl (lv_at hl 2 rfl) ?_
        refine lv_iload_n hx hb dX3_sortIn_53 rfl (lv_at hl 1 rfl) ?_
        obtain ⟨p2, hp2⟩ := kW_pos h14
        refine g_iast hx hb hK hP hD hS p2 0 (kW_get hp2 hk_2_0) rfl (q) rfl (by omega) (by decide) dX3_sortIn_54 (fun H locs hP hD hS => ?_)
        rw [kW_set hnd hp2] at hP hD
        obtain ⟨Ew3, hEw3⟩ : ∃ G, G = va_up Ec (14) (.inl (cy 0, 32, .inl (upd (g9) (q) (nI (n))))) := ⟨_, rfl⟩
        have eEw3_17 : Ew3 (14) = .inl (cy 0, 32, .inl (upd (g9) (q) (nI (n)))) := by rw [hEw3]; exact va_up_self _ _ _
        rw [← hEw3] at hP hD
        exact W.vret hx hb hr (fun t ht hW => ⟨⟨Ew3, rfl, ⟨upd g9 q (nI n), q, eEw3_17, (fun j_ h0_ => by rw [hEw3, va_up_ne _ _ h0_, hO_2 j_ h0_]), hq, hse.1, hse.2⟩, by rw [ht]; exact hP, va_K.moved hW.alike hK, hD⟩, hS.F ht⟩) hS.2.2 dX3_sortIn_55
      · skip
        have hsb := hSb (q - 1) (by omega)
        have hb1 := hlsb (SS.getD (q - 1) 0)
        have hb2 := hlsb n
        refine lv_aload_n hx hb dX3_sortIn_6 rfl (lv_at hl 0 rfl) ?_
        obtain ⟨p4, hp4⟩ := kW_pos h6
        refine va_get (D := D) (ci := 3) (v := .ref ((ad (13)))) (C := RX3) (T := TX3) (N := 14) hx hb hts (by decide +kernel) hown hK hP p4 (kW_get hp4 fL2_13) rfl 6 (by decide) (hts (.fieldLink RX3 33 "CaskYard$Saw" "loss" "[I") (by decide +kernel)) (fun _ h9 => h9) rfl dX3_sortIn_7 ?_
        refine lv_aload_n hx hb dX3_sortIn_10 rfl (lv_at hl 0 rfl) ?_
        obtain ⟨p5, hp5⟩ := kW_pos h6
        refine va_get (D := D) (ci := 3) (v := .ref ((ad (14)))) (C := RX3) (T := TX3) (N := 14) hx hb hts (by decide +kernel) hown hK hP p5 (kW_get hp5 fL2_13) rfl 7 (by decide) (hts (.fieldLink RX3 36 "CaskYard$Saw" "byLoss" "[I") (by decide +kernel)) (fun _ h9 => h9) rfl dX3_sortIn_11 ?_
        refine lv_iload_n hx hb dX3_sortIn_14 rfl (lv_at hl 2 rfl) ?_
        refine lv_iconst (v := (nI (1))) hx hb dX3_sortIn_15 (by decide) ?_
        refine g_isub_n hx hb dX3_sortIn_16 (by omega) ?_
        obtain ⟨p6, hp6⟩ := kW_pos h14
        refine g_iald hx hb hK hP p6 0 (kW_get hp6 hk_2_0) rfl (q - 1) rfl (by omega) (by decide) dX3_sortIn_17 ?_
        refine g_top (y := (nI (SS.getD (q - 1) 0))) (hg1 (q - 1) (by omega)) ?_
        obtain ⟨p7, hp7⟩ := kW_pos h13
        refine g_iald hx hb hK hP p7 0 (kW_get hp7 fL2_16) rfl (SS.getD (q - 1) 0) rfl (by omega) (by decide) dX3_sortIn_18 ?_
        refine g_top (y := (nI (lo (SS.getD (q - 1) 0)))) (hL13 (SS.getD (q - 1) 0) (by omega)) ?_
        refine lv_aload_n hx hb dX3_sortIn_19 rfl (lv_at hl 0 rfl) ?_
        obtain ⟨p8, hp8⟩ := kW_pos h6
        refine va_get (D := D) (ci := 3) (v := .ref ((ad (13)))) (C := RX3) (T := TX3) (N := 14) hx hb hts (by decide +kernel) hown hK hP p8 (kW_get hp8 fL2_13) rfl 6 (by decide) (hts (.fieldLink RX3 33 "CaskYard$Saw" "loss" "[I") (by decide +kernel)) (fun _ h9 => h9) rfl dX3_sortIn_20 ?_
        refine lv_iload_n hx hb dX3_sortIn_23 rfl (lv_at hl 1 rfl) ?_
        obtain ⟨p9, hp9⟩ := kW_pos h13
        refine g_iald hx hb hK hP p9 0 (kW_get hp9 fL2_16) rfl (n) rfl (by omega) (by decide) dX3_sortIn_24 ?_
        refine g_top (y := (nI (lo (n)))) (hL13 (n) (by omega)) ?_
        refine g_icmp_le (tgt := 48) hx hb dX3_sortIn_25 (by decide) (n_i (by omega)) (n_i (by omega)) (fun c_25 => ?_) (fun c_25 => ?_)
        · skip
          have hse := sort_end hSl hq hg1 hg2 hSp (Or.inr (by omega))
          refine lv_aload_n hx hb dX3_sortIn_48 rfl (lv_at hl 0 rfl) ?_
          obtain ⟨p10, hp10⟩ := kW_pos h6
          refine va_get (D := D) (ci := 3) (v := .ref ((ad (14)))) (C := RX3) (T := TX3) (N := 14) hx hb hts (by decide +kernel) hown hK hP p10 (kW_get hp10 fL2_13) rfl 7 (by decide) (hts (.fieldLink RX3 36 "CaskYard$Saw" "byLoss" "[I") (by decide +kernel)) (fun _ h9 => h9) rfl dX3_sortIn_49 ?_
          refine lv_iload_n hx hb dX3_sortIn_52 rfl (lv_at hl 2 rfl) ?_
          refine lv_iload_n hx hb dX3_sortIn_53 rfl (lv_at hl 1 rfl) ?_
          obtain ⟨p11, hp11⟩ := kW_pos h14
          refine g_iast hx hb hK hP hD hS p11 0 (kW_get hp11 hk_2_0) rfl (q) rfl (by omega) (by decide) dX3_sortIn_54 (fun H locs hP hD hS => ?_)
          rw [kW_set hnd hp11] at hP hD
          obtain ⟨Ew12, hEw12⟩ : ∃ G, G = va_up Ec (14) (.inl (cy 0, 32, .inl (upd (g9) (q) (nI (n))))) := ⟨_, rfl⟩
          have eEw12_17 : Ew12 (14) = .inl (cy 0, 32, .inl (upd (g9) (q) (nI (n)))) := by rw [hEw12]; exact va_up_self _ _ _
          rw [← hEw12] at hP hD
          exact W.vret hx hb hr (fun t ht hW => ⟨⟨Ew12, rfl, ⟨upd g9 q (nI n), q, eEw12_17, (fun j_ h0_ => by rw [hEw12, va_up_ne _ _ h0_, hO_2 j_ h0_]), hq, hse.1, hse.2⟩, by rw [ht]; exact hP, va_K.moved hW.alike hK, hD⟩, hS.F ht⟩) hS.2.2 dX3_sortIn_55
        · skip
          refine lv_aload_n hx hb dX3_sortIn_28 rfl (lv_at hl 0 rfl) ?_
          obtain ⟨p13, hp13⟩ := kW_pos h6
          refine va_get (D := D) (ci := 3) (v := .ref ((ad (14)))) (C := RX3) (T := TX3) (N := 14) hx hb hts (by decide +kernel) hown hK hP p13 (kW_get hp13 fL2_13) rfl 7 (by decide) (hts (.fieldLink RX3 36 "CaskYard$Saw" "byLoss" "[I") (by decide +kernel)) (fun _ h9 => h9) rfl dX3_sortIn_29 ?_
          refine lv_iload_n hx hb dX3_sortIn_32 rfl (lv_at hl 2 rfl) ?_
          refine lv_aload_n hx hb dX3_sortIn_33 rfl (lv_at hl 0 rfl) ?_
          obtain ⟨p14, hp14⟩ := kW_pos h6
          refine va_get (D := D) (ci := 3) (v := .ref ((ad (14)))) (C := RX3) (T := TX3) (N := 14) hx hb hts (by decide +kernel) hown hK hP p14 (kW_get hp14 fL2_13) rfl 7 (by decide) (hts (.fieldLink RX3 36 "CaskYard$Saw" "byLoss" "[I") (by decide +kernel)) (fun _ h9 => h9) rfl dX3_sortIn_34 ?_
          refine lv_iload_n hx hb dX3_sortIn_37 rfl (lv_at hl 2 rfl) ?_
          refine lv_iconst (v := (nI (1))) hx hb dX3_sortIn_38 (by decide) ?_
          refine g_isub_n hx hb dX3_sortIn_39 (by omega) ?_
          obtain ⟨p15, hp15⟩ := kW_pos h14
          refine g_iald hx hb hK hP p15 0 (kW_get hp15 hk_2_0) rfl (q - 1) rfl (by omega) (by decide) dX3_sortIn_40 ?_
          refine g_top (y := (nI (SS.getD (q - 1) 0))) (hg1 (q - 1) (by omega)) ?_
          obtain ⟨p16, hp16⟩ := kW_pos h14
          refine g_iast hx hb hK hP hD hS p16 0 (kW_get hp16 hk_2_0) rfl (q) rfl (by omega) (by decide) dX3_sortIn_41 (fun H locs hP hD hS => ?_)
          rw [kW_set hnd hp16] at hP hD
          obtain ⟨Ew17, hEw17⟩ : ∃ G, G = va_up Ec (14) (.inl (cy 0, 32, .inl (upd (g9) (q) (nI (SS.getD (q - 1) 0))))) := ⟨_, rfl⟩
          have eEw17_17 : Ew17 (14) = .inl (cy 0, 32, .inl (upd (g9) (q) (nI (SS.getD (q - 1) 0)))) := by rw [hEw17]; exact va_up_self _ _ _
          rw [← hEw17] at hP hD
          refine lv_iinc (v := (nI (q - 1))) (lv' := [(2, .int (nI (q - 1))), (0, .ref ((ad (6)))), (1, .int (nI (n)))]) hx hb dX3_sortIn_42 hl (k := 2) rfl ((zI_add ((q : Nat) : Int) (-1)).trans (z_n (by omega))) (by decide) rfl (fun ls hl => ?_)
          refine lv_goto (tgt := 2) hx hb dX3_sortIn_45 (by decide) ?_
          exact ih_2 (q - 1) (upd (g9) (q) (nI (SS.getD (q - 1) 0))) (Ew17) H locs hP hD hS (by omega) (fun j hj => by rw [upd_n (by omega)]; exact hg1 j (by omega)) (fun j h1 h2 => by by_cases e9 : j = q - 1 <;> first | (subst e9; exact ⟨by rw [show q - 1 + 1 = q by omega, upd_s], by omega⟩) | (rw [upd_n (by omega)]; exact hg2 j (by omega) h2)) eEw17_17 (fun j_ h0_ => by rw [hEw17, va_up_ne _ _ h0_, hO_2 j_ h0_]) (by omega) ls (lv_sub hl [1, 2, 0] rfl)
  exact loop_2 _ (n) (f14) (E) s.heap [] hP hD hS (Nat.le_refl _) (fun j hj => hS14 j hj) (fun j h1 h2 => by omega) hE14 (fun j_ h0_ => rfl) (Nat.lt_succ_self _) ls (lv_sub hl [1, 2, 0] rfl)
set_option maxHeartbeats 4000000 in
set_option maxRecDepth 100000 in
theorem c_X3_layPart (l : Launch) (D : va_G) (cy : Nat → ClassId) (sz : Nat) (K : List Nat) (ad : Nat → Nat) (E : Nat → va_E) (h6 : 6 ∈ K) (nr bl : Nat) (PP : List (Nat × Nat × Nat)) (hE6 : E 6 = .inr (3, [.ref ((ad (7))), .ref ((ad (8))), .ref ((ad (9))), .ref ((ad (10))), .ref ((ad (11))), .ref ((ad (12))), .ref ((ad (13))), .ref ((ad (14))), .ref ((ad (15))), .ref ((ad (16))), .ref ((ad (17))), .int (nI (bl)), .int (nI (PP.length)), .int (nI (nr))])) (h8 : 8 ∈ K) (f8 : Nat → Int32) (hE8 : E 8 = .inl (cy 0, 32, .inl (f8))) (h9 : 9 ∈ K) (f9 : Nat → Int32) (hE9 : E 9 = .inl (cy 0, 32, .inl (f9))) (h10 : 10 ∈ K) (f10 : Nat → Int32) (hE10 : E 10 = .inl (cy 0, 32, .inl (f10))) (h11 : 11 ∈ K) (f11 : Nat → Int32) (hE11 : E 11 = .inl (cy 0, 32, .inl (f11))) (h12 : 12 ∈ K) (f12 : Nat → Int32) (hE12 : E 12 = .inl (cy 0, 32, .inl (f12))) (h13 : 13 ∈ K) (f13 : Nat → Int32) (hE13 : E 13 = .inl (cy 0, 32, .inl (f13))) (h14 : 14 ∈ K) (f14 : Nat → Int32) (hE14 : E 14 = .inl (cy 0, 32, .inl (f14))) (SS : List Nat) (hsaw : sawR nr PP SS f8 f9 f10 f11 f12 f13 f14) (hnr : 1 ≤ nr ∧ nr ≤ 3000) (hP32 : PP.length < 32) (wo bn : Nat) (hwo : wo ≤ 600) : Met l yX3_layPart wsX3_layPart ({ frames := 1, cells := 0, slots := 0, locals := 22 } : Room) (va_Pc [.ref ((ad (6))), .int (nI (wo)), .int (nI (bn))] (wB2 D cy sz (kW K ad E))) (va_Qv (fun (u : Nat → va_E) => ∃ (g8 g9 g10 g11 g12 g13 g14 : Nat → Int32) (S' : List Nat), u (6) = .inr (3, [.ref ((ad (7))), .ref ((ad (8))), .ref ((ad (9))), .ref ((ad (10))), .ref ((ad (11))), .ref ((ad (12))), .ref ((ad (13))), .ref ((ad (14))), .ref ((ad (15))), .ref ((ad (16))), .ref ((ad (17))), .int (nI (bl)), .int (nI (PP.length + 1)), .int (nI (nr))]) ∧ u (8) = .inl (cy 0, 32, .inl (g8)) ∧ u (9) = .inl (cy 0, 32, .inl (g9)) ∧ u (10) = .inl (cy 0, 32, .inl (g10)) ∧ u (11) = .inl (cy 0, 32, .inl (g11)) ∧ u (12) = .inl (cy 0, 32, .inl (g12)) ∧ u (13) = .inl (cy 0, 32, .inl (g13)) ∧ u (14) = .inl (cy 0, 32, .inl (g14)) ∧ (∀ j_ : Nat, j_ ≠ 6 → j_ ≠ 8 → j_ ≠ 9 → j_ ≠ 10 → j_ ≠ 11 → j_ ≠ 12 → j_ ≠ 13 → j_ ≠ 14 → u j_ = E j_) ∧ sawR nr (PP ++ [(bl, bn, wo)]) S' g8 g9 g10 g11 g12 g13 g14) (fun u t => wE D cy (va_A (kW K ad E) sz) (kW K ad u) t) (va_A (kW K ad E) sz)) 0 0 (va_A (kW K ad E) sz) := by
  refine Met.ofW (cc := cX3_layPart) (maxL := 4) (ret := none) (by decide) rfl ?_
  intro p e s m args below meth c s₁ B hml hv
  obtain ⟨rfl, ⟨hsz, hP, hK, hD0⟩, hN⟩ := hv
  have hx := B.exec
  have hb := B.bytes
  have hr := B.returns
  have hts := atoms_spec (ws := wsX3_layPart) B.pre
  have hown : s.vm.findClass RX3 = some m.cls := findClass_of_methodNamed B.named
  have hlocks := B.notSynchronized
  subst hsz
  have hD := hD0.self (sz := s.heap.size)
  generalize hAe : va_A (kW K ad E) s.heap.size = A at hD ⊢
  have hA : ∀ q : Nat, s.heap.size ≤ q → A q := w_A hAe
  have hS : va_S A s.heap s.heap [] := va_S.rf
  have hnd := kW_nd hD
  have hl := lv_entry ([.ref ((ad (6))), .int (nI (wo)), .int (nI (bn))]) (n := 4) (Nat.le_of_ble_eq_true rfl)
  rw [lg_entry_eq]
  generalize (lg_sl ([.ref ((ad (6))), .int (nI (wo)), .int (nI (bn))]) ++ List.replicate (4 - (lg_sl ([.ref ((ad (6))), .int (nI (wo)), .int (nI (bn))])).length) Slot.unset).toArray = ls at hl ⊢
  have hl : lv_has ls 4 [(0, .ref ((ad (6)))), (1, .int (nI (wo))), (2, .int (nI (bn)))] := hl
  have hsl := srt_len hsaw.2.1
  have hqr := part_qr nr wo
  have haw := aWN_le nr wo
  have hawd : aWN nr wo = wo / (nr + 1) := rfl
  have hlay : wo - aWN nr wo * (nr + 1) ≤ nr := by
    obtain ⟨r9, h91, h92, _⟩ := hqr
    have h93 : aWN nr wo * (nr + 1) = aWN nr wo * nr + aWN nr wo := Nat.mul_succ _ _
    omega
  refine lv_aload_n hx hb dX3_layPart_0 rfl (lv_at hl 0 rfl) ?_
  obtain ⟨p1, hp1⟩ := kW_pos h6
  refine va_get (D := D) (ci := 3) (v := .int (nI (PP.length))) (C := RX3) (T := TX3) (N := 14) hx hb hts (by decide +kernel) hown hK hP p1 (kW_get hp1 hE6) rfl 12 (by decide) (hts (.fieldLink RX3 53 "CaskYard$Saw" "parts" "I") (by decide +kernel)) (fun _ h9 => h9) rfl dX3_layPart_1 ?_
  refine lv_bipush (v := (nI (32))) hx hb dX3_layPart_4 (by decide) ?_
  refine g_icmp_lt (tgt := 10) hx hb dX3_layPart_6 (by decide) (n_i (by omega)) (n_i (by omega)) (fun c_6 => ?_) (fun c_6 => ?_)
  · skip
    refine lv_iload_n hx hb dX3_layPart_10 rfl (lv_at hl 1 rfl) ?_
    refine lv_aload_n hx hb dX3_layPart_11 rfl (lv_at hl 0 rfl) ?_
    obtain ⟨p2, hp2⟩ := kW_pos h6
    refine va_get (D := D) (ci := 3) (v := .int (nI (nr))) (C := RX3) (T := TX3) (N := 14) hx hb hts (by decide +kernel) hown hK hP p2 (kW_get hp2 hE6) rfl 13 (by decide) (hts (.fieldLink RX3 56 "CaskYard$Saw" "narrow" "I") (by decide +kernel)) (fun _ h9 => h9) rfl dX3_layPart_12 ?_
    refine lv_iconst (v := (nI (1))) hx hb dX3_layPart_15 (by decide) ?_
    refine g_iadd_n hx hb dX3_layPart_16 ?_
    refine vp_callSi (va_Run.run (va_runSN (As := [.int (nI (wo)), .int (nI (nr + 1))]) (rest := []) ⟨hx, hb, hml, hown, hts⟩ (c_X4_parted l  (wo) (nr + 1) (by omega) (by omega) (by omega)) ⟨va_cnB 2 hts gX3_layPart_X4_parted_n70 rfl rfl rfl hN.2.1 (hts (.initialized RX4) (by decide +kernel)) (by decide +kernel) ⟨Nat.le_of_ble_eq_true rfl, Nat.le_of_ble_eq_true rfl⟩, hts (.static yX4_parted) (by decide +kernel), trivial⟩ ⟨nB_blind, nB_pre⟩ rfl rfl hl.1 rfl (lv_room (Nat.le_of_ble_eq_true rfl)) dX3_layPart_17 ⟨Nat.le_of_ble_eq_true rfl, Nat.le_of_ble_eq_true rfl⟩)) (fun r_17 hr_17 => ?_)
    refine g_top (y := (nI (aWN nr wo))) hr_17 ?_
    refine lv_istore_n (lv' := [(3, .int (nI (aWN nr wo))), (0, .ref ((ad (6)))), (1, .int (nI (wo))), (2, .int (nI (bn)))]) hx hb dX3_layPart_20 rfl hl (by decide) rfl (fun ls hl => ?_)
    refine lv_aload_n hx hb dX3_layPart_21 rfl (lv_at hl 1 rfl) ?_
    obtain ⟨p3, hp3⟩ := kW_pos h6
    refine va_get (D := D) (ci := 3) (v := .ref ((ad (8)))) (C := RX3) (T := TX3) (N := 14) hx hb hts (by decide +kernel) hown hK hP p3 (kW_get hp3 hE6) rfl 1 (by decide) (hts (.fieldLink RX3 17 "CaskYard$Saw" "place" "[I") (by decide +kernel)) (fun _ h9 => h9) rfl dX3_layPart_22 ?_
    refine lv_aload_n hx hb dX3_layPart_25 rfl (lv_at hl 1 rfl) ?_
    obtain ⟨p4, hp4⟩ := kW_pos h6
    refine va_get (D := D) (ci := 3) (v := .int (nI (PP.length))) (C := RX3) (T := TX3) (N := 14) hx hb hts (by decide +kernel) hown hK hP p4 (kW_get hp4 hE6) rfl 12 (by decide) (hts (.fieldLink RX3 53 "CaskYard$Saw" "parts" "I") (by decide +kernel)) (fun _ h9 => h9) rfl dX3_layPart_26 ?_
    refine lv_aload_n hx hb dX3_layPart_29 rfl (lv_at hl 1 rfl) ?_
    obtain ⟨p5, hp5⟩ := kW_pos h6
    refine va_get (D := D) (ci := 3) (v := .int (nI (bl))) (C := RX3) (T := TX3) (N := 14) hx hb hts (by decide +kernel) hown hK hP p5 (kW_get hp5 hE6) rfl 11 (by decide) (hts (.fieldLink RX3 49 "CaskYard$Saw" "boltsLaid" "I") (by decide +kernel)) (fun _ h9 => h9) rfl dX3_layPart_30 ?_
    obtain ⟨p6, hp6⟩ := kW_pos h8
    refine g_iast hx hb hK hP hD hS p6 0 (kW_get hp6 hE8) rfl (PP.length) rfl (by omega) (by decide) dX3_layPart_33 (fun H locs hP hD hS => ?_)
    rw [kW_set hnd hp6] at hP hD
    obtain ⟨Ew7, hEw7⟩ : ∃ G, G = va_up E (8) (.inl (cy 0, 32, .inl (upd (f8) (PP.length) (nI (bl))))) := ⟨_, rfl⟩
    have eEw7_14 : Ew7 (8) = .inl (cy 0, 32, .inl (upd (f8) (PP.length) (nI (bl)))) := by rw [hEw7]; exact va_up_self _ _ _
    rw [← hEw7] at hP hD
    refine lv_aload_n hx hb dX3_layPart_34 rfl (lv_at hl 1 rfl) ?_
    obtain ⟨p8, hp8⟩ := kW_pos h6
    refine va_get (D := D) (ci := 3) (v := .ref ((ad (9)))) (C := RX3) (T := TX3) (N := 14) hx hb hts (by decide +kernel) hown hK hP p8 (kW_get hp8 (show Ew7 (6) = .inr (3, [.ref ((ad (7))), .ref ((ad (8))), .ref ((ad (9))), .ref ((ad (10))), .ref ((ad (11))), .ref ((ad (12))), .ref ((ad (13))), .ref ((ad (14))), .ref ((ad (15))), .ref ((ad (16))), .ref ((ad (17))), .int (nI (bl)), .int (nI (PP.length)), .int (nI (nr))]) by rw [hEw7, va_up_ne _ _ (by omega)]; exact hE6)) rfl 2 (by decide) (hts (.fieldLink RX3 21 "CaskYard$Saw" "number" "[I") (by decide +kernel)) (fun _ h9 => h9) rfl dX3_layPart_35 ?_
    refine lv_aload_n hx hb dX3_layPart_38 rfl (lv_at hl 1 rfl) ?_
    obtain ⟨p9, hp9⟩ := kW_pos h6
    refine va_get (D := D) (ci := 3) (v := .int (nI (PP.length))) (C := RX3) (T := TX3) (N := 14) hx hb hts (by decide +kernel) hown hK hP p9 (kW_get hp9 (show Ew7 (6) = .inr (3, [.ref ((ad (7))), .ref ((ad (8))), .ref ((ad (9))), .ref ((ad (10))), .ref ((ad (11))), .ref ((ad (12))), .ref ((ad (13))), .ref ((ad (14))), .ref ((ad (15))), .ref ((ad (16))), .ref ((ad (17))), .int (nI (bl)), .int (nI (PP.length)), .int (nI (nr))]) by rw [hEw7, va_up_ne _ _ (by omega)]; exact hE6)) rfl 12 (by decide) (hts (.fieldLink RX3 53 "CaskYard$Saw" "parts" "I") (by decide +kernel)) (fun _ h9 => h9) rfl dX3_layPart_39 ?_
    refine lv_iload_n hx hb dX3_layPart_42 rfl (lv_at hl 3 rfl) ?_
    obtain ⟨p10, hp10⟩ := kW_pos h9
    refine g_iast hx hb hK hP hD hS p10 0 (kW_get hp10 (show Ew7 (9) = .inl (cy 0, 32, .inl (f9)) by rw [hEw7, va_up_ne _ _ (by omega)]; exact hE9)) rfl (PP.length) rfl (by omega) (by decide) dX3_layPart_43 (fun H locs hP hD hS => ?_)
    rw [kW_set hnd hp10] at hP hD
    obtain ⟨Ew11, hEw11⟩ : ∃ G, G = va_up Ew7 (9) (.inl (cy 0, 32, .inl (upd (f9) (PP.length) (nI (bn))))) := ⟨_, rfl⟩
    have eEw11_18 : Ew11 (9) = .inl (cy 0, 32, .inl (upd (f9) (PP.length) (nI (bn)))) := by rw [hEw11]; exact va_up_self _ _ _
    have eEw11_14 : Ew11 (8) = .inl (cy 0, 32, .inl (upd (f8) (PP.length) (nI (bl)))) := by rw [hEw11, va_up_ne _ _ (by omega)]; exact eEw7_14
    rw [← hEw11] at hP hD
    refine lv_aload_n hx hb dX3_layPart_44 rfl (lv_at hl 1 rfl) ?_
    obtain ⟨p12, hp12⟩ := kW_pos h6
    refine va_get (D := D) (ci := 3) (v := .ref ((ad (10)))) (C := RX3) (T := TX3) (N := 14) hx hb hts (by decide +kernel) hown hK hP p12 (kW_get hp12 (show Ew11 (6) = .inr (3, [.ref ((ad (7))), .ref ((ad (8))), .ref ((ad (9))), .ref ((ad (10))), .ref ((ad (11))), .ref ((ad (12))), .ref ((ad (13))), .ref ((ad (14))), .ref ((ad (15))), .ref ((ad (16))), .ref ((ad (17))), .int (nI (bl)), .int (nI (PP.length)), .int (nI (nr))]) by rw [hEw11, va_up_ne _ _ (by omega), hEw7, va_up_ne _ _ (by omega)]; exact hE6)) rfl 3 (by decide) (hts (.fieldLink RX3 24 "CaskYard$Saw" "length" "[I") (by decide +kernel)) (fun _ h9 => h9) rfl dX3_layPart_45 ?_
    refine lv_aload_n hx hb dX3_layPart_48 rfl (lv_at hl 1 rfl) ?_
    obtain ⟨p13, hp13⟩ := kW_pos h6
    refine va_get (D := D) (ci := 3) (v := .int (nI (PP.length))) (C := RX3) (T := TX3) (N := 14) hx hb hts (by decide +kernel) hown hK hP p13 (kW_get hp13 (show Ew11 (6) = .inr (3, [.ref ((ad (7))), .ref ((ad (8))), .ref ((ad (9))), .ref ((ad (10))), .ref ((ad (11))), .ref ((ad (12))), .ref ((ad (13))), .ref ((ad (14))), .ref ((ad (15))), .ref ((ad (16))), .ref ((ad (17))), .int (nI (bl)), .int (nI (PP.length)), .int (nI (nr))]) by rw [hEw11, va_up_ne _ _ (by omega), hEw7, va_up_ne _ _ (by omega)]; exact hE6)) rfl 12 (by decide) (hts (.fieldLink RX3 53 "CaskYard$Saw" "parts" "I") (by decide +kernel)) (fun _ h9 => h9) rfl dX3_layPart_49 ?_
    refine lv_iload_n hx hb dX3_layPart_52 rfl (lv_at hl 2 rfl) ?_
    obtain ⟨p14, hp14⟩ := kW_pos h10
    refine g_iast hx hb hK hP hD hS p14 0 (kW_get hp14 (show Ew11 (10) = .inl (cy 0, 32, .inl (f10)) by rw [hEw11, va_up_ne _ _ (by omega), hEw7, va_up_ne _ _ (by omega)]; exact hE10)) rfl (PP.length) rfl (by omega) (by decide) dX3_layPart_53 (fun H locs hP hD hS => ?_)
    rw [kW_set hnd hp14] at hP hD
    obtain ⟨Ew15, hEw15⟩ : ∃ G, G = va_up Ew11 (10) (.inl (cy 0, 32, .inl (upd (f10) (PP.length) (nI (wo))))) := ⟨_, rfl⟩
    have eEw15_19 : Ew15 (10) = .inl (cy 0, 32, .inl (upd (f10) (PP.length) (nI (wo)))) := by rw [hEw15]; exact va_up_self _ _ _
    have eEw15_14 : Ew15 (8) = .inl (cy 0, 32, .inl (upd (f8) (PP.length) (nI (bl)))) := by rw [hEw15, va_up_ne _ _ (by omega)]; exact eEw11_14
    have eEw15_18 : Ew15 (9) = .inl (cy 0, 32, .inl (upd (f9) (PP.length) (nI (bn)))) := by rw [hEw15, va_up_ne _ _ (by omega)]; exact eEw11_18
    rw [← hEw15] at hP hD
    refine lv_aload_n hx hb dX3_layPart_54 rfl (lv_at hl 1 rfl) ?_
    obtain ⟨p16, hp16⟩ := kW_pos h6
    refine va_get (D := D) (ci := 3) (v := .ref ((ad (11)))) (C := RX3) (T := TX3) (N := 14) hx hb hts (by decide +kernel) hown hK hP p16 (kW_get hp16 (show Ew15 (6) = .inr (3, [.ref ((ad (7))), .ref ((ad (8))), .ref ((ad (9))), .ref ((ad (10))), .ref ((ad (11))), .ref ((ad (12))), .ref ((ad (13))), .ref ((ad (14))), .ref ((ad (15))), .ref ((ad (16))), .ref ((ad (17))), .int (nI (bl)), .int (nI (PP.length)), .int (nI (nr))]) by rw [hEw15, va_up_ne _ _ (by omega), hEw11, va_up_ne _ _ (by omega), hEw7, va_up_ne _ _ (by omega)]; exact hE6)) rfl 4 (by decide) (hts (.fieldLink RX3 27 "CaskYard$Saw" "asWide" "[I") (by decide +kernel)) (fun _ h9 => h9) rfl dX3_layPart_55 ?_
    refine lv_aload_n hx hb dX3_layPart_58 rfl (lv_at hl 1 rfl) ?_
    obtain ⟨p17, hp17⟩ := kW_pos h6
    refine va_get (D := D) (ci := 3) (v := .int (nI (PP.length))) (C := RX3) (T := TX3) (N := 14) hx hb hts (by decide +kernel) hown hK hP p17 (kW_get hp17 (show Ew15 (6) = .inr (3, [.ref ((ad (7))), .ref ((ad (8))), .ref ((ad (9))), .ref ((ad (10))), .ref ((ad (11))), .ref ((ad (12))), .ref ((ad (13))), .ref ((ad (14))), .ref ((ad (15))), .ref ((ad (16))), .ref ((ad (17))), .int (nI (bl)), .int (nI (PP.length)), .int (nI (nr))]) by rw [hEw15, va_up_ne _ _ (by omega), hEw11, va_up_ne _ _ (by omega), hEw7, va_up_ne _ _ (by omega)]; exact hE6)) rfl 12 (by decide) (hts (.fieldLink RX3 53 "CaskYard$Saw" "parts" "I") (by decide +kernel)) (fun _ h9 => h9) rfl dX3_layPart_59 ?_
    refine lv_iload_n hx hb dX3_layPart_62 rfl (lv_at hl 0 rfl) ?_
    obtain ⟨p18, hp18⟩ := kW_pos h11
    refine g_iast hx hb hK hP hD hS p18 0 (kW_get hp18 (show Ew15 (11) = .inl (cy 0, 32, .inl (f11)) by rw [hEw15, va_up_ne _ _ (by omega), hEw11, va_up_ne _ _ (by omega), hEw7, va_up_ne _ _ (by omega)]; exact hE11)) rfl (PP.length) rfl (by omega) (by decide) dX3_layPart_63 (fun H locs hP hD hS => ?_)
    rw [kW_set hnd hp18] at hP hD
    obtain ⟨Ew19, hEw19⟩ : ∃ G, G = va_up Ew15 (11) (.inl (cy 0, 32, .inl (upd (f11) (PP.length) (nI (aWN nr wo))))) := ⟨_, rfl⟩
    have eEw19_20 : Ew19 (11) = .inl (cy 0, 32, .inl (upd (f11) (PP.length) (nI (aWN nr wo)))) := by rw [hEw19]; exact va_up_self _ _ _
    have eEw19_14 : Ew19 (8) = .inl (cy 0, 32, .inl (upd (f8) (PP.length) (nI (bl)))) := by rw [hEw19, va_up_ne _ _ (by omega)]; exact eEw15_14
    have eEw19_18 : Ew19 (9) = .inl (cy 0, 32, .inl (upd (f9) (PP.length) (nI (bn)))) := by rw [hEw19, va_up_ne _ _ (by omega)]; exact eEw15_18
    have eEw19_19 : Ew19 (10) = .inl (cy 0, 32, .inl (upd (f10) (PP.length) (nI (wo)))) := by rw [hEw19, va_up_ne _ _ (by omega)]; exact eEw15_19
    rw [← hEw19] at hP hD
    refine lv_aload_n hx hb dX3_layPart_64 rfl (lv_at hl 1 rfl) ?_
    obtain ⟨p20, hp20⟩ := kW_pos h6
    refine va_get (D := D) (ci := 3) (v := .ref ((ad (12)))) (C := RX3) (T := TX3) (N := 14) hx hb hts (by decide +kernel) hown hK hP p20 (kW_get hp20 (show Ew19 (6) = .inr (3, [.ref ((ad (7))), .ref ((ad (8))), .ref ((ad (9))), .ref ((ad (10))), .ref ((ad (11))), .ref ((ad (12))), .ref ((ad (13))), .ref ((ad (14))), .ref ((ad (15))), .ref ((ad (16))), .ref ((ad (17))), .int (nI (bl)), .int (nI (PP.length)), .int (nI (nr))]) by rw [hEw19, va_up_ne _ _ (by omega), hEw15, va_up_ne _ _ (by omega), hEw11, va_up_ne _ _ (by omega), hEw7, va_up_ne _ _ (by omega)]; exact hE6)) rfl 5 (by decide) (hts (.fieldLink RX3 30 "CaskYard$Saw" "more" "[I") (by decide +kernel)) (fun _ h9 => h9) rfl dX3_layPart_65 ?_
    refine lv_aload_n hx hb dX3_layPart_68 rfl (lv_at hl 1 rfl) ?_
    obtain ⟨p21, hp21⟩ := kW_pos h6
    refine va_get (D := D) (ci := 3) (v := .int (nI (PP.length))) (C := RX3) (T := TX3) (N := 14) hx hb hts (by decide +kernel) hown hK hP p21 (kW_get hp21 (show Ew19 (6) = .inr (3, [.ref ((ad (7))), .ref ((ad (8))), .ref ((ad (9))), .ref ((ad (10))), .ref ((ad (11))), .ref ((ad (12))), .ref ((ad (13))), .ref ((ad (14))), .ref ((ad (15))), .ref ((ad (16))), .ref ((ad (17))), .int (nI (bl)), .int (nI (PP.length)), .int (nI (nr))]) by rw [hEw19, va_up_ne _ _ (by omega), hEw15, va_up_ne _ _ (by omega), hEw11, va_up_ne _ _ (by omega), hEw7, va_up_ne _ _ (by omega)]; exact hE6)) rfl 12 (by decide) (hts (.fieldLink RX3 53 "CaskYard$Saw" "parts" "I") (by decide +kernel)) (fun _ h9 => h9) rfl dX3_layPart_69 ?_
    refine lv_iload_n hx hb dX3_layPart_72 rfl (lv_at hl 2 rfl) ?_
    refine lv_aload_n hx hb dX3_layPart_73 rfl (lv_at hl 1 rfl) ?_
    obtain ⟨p22, hp22⟩ := kW_pos h6
    refine va_get (D := D) (ci := 3) (v := .int (nI (nr))) (C := RX3) (T := TX3) (N := 14) hx hb hts (by decide +kernel) hown hK hP p22 (kW_get hp22 (show Ew19 (6) = .inr (3, [.ref ((ad (7))), .ref ((ad (8))), .ref ((ad (9))), .ref ((ad (10))), .ref ((ad (11))), .ref ((ad (12))), .ref ((ad (13))), .ref ((ad (14))), .ref ((ad (15))), .ref ((ad (16))), .ref ((ad (17))), .int (nI (bl)), .int (nI (PP.length)), .int (nI (nr))]) by rw [hEw19, va_up_ne _ _ (by omega), hEw15, va_up_ne _ _ (by omega), hEw11, va_up_ne _ _ (by omega), hEw7, va_up_ne _ _ (by omega)]; exact hE6)) rfl 13 (by decide) (hts (.fieldLink RX3 56 "CaskYard$Saw" "narrow" "I") (by decide +kernel)) (fun _ h9 => h9) rfl dX3_layPart_74 ?_
    refine vp_callSi (va_Run.run (va_runSN (As := [.int (nI (wo)), .int (nI (nr))]) (rest := [.int (nI (PP.length)), .ref ((ad (12)))]) ⟨hx, hb, hml, hown, hts⟩ (c_X4_parted l  (wo) (nr) (by omega) (by omega) (by omega)) ⟨va_cnB 2 hts gX3_layPart_X4_parted_n70 rfl rfl rfl hN.2.1 (hts (.initialized RX4) (by decide +kernel)) (by decide +kernel) ⟨Nat.le_of_ble_eq_true rfl, Nat.le_of_ble_eq_true rfl⟩, hts (.static yX4_parted) (by decide +kernel), trivial⟩ ⟨nB_blind, nB_pre⟩ rfl rfl hl.1 rfl (lv_room (Nat.le_of_ble_eq_true rfl)) dX3_layPart_77 ⟨Nat.le_of_ble_eq_true rfl, Nat.le_of_ble_eq_true rfl⟩)) (fun r_77 hr_77 => ?_)
    subst hr_77
    refine lv_iload_n hx hb dX3_layPart_80 rfl (lv_at hl 0 rfl) ?_
    refine g_isub_n hx hb dX3_layPart_81 (aW_le (by omega)) ?_
    refine g_top (y := (nI (mLN nr wo))) rfl ?_
    obtain ⟨p23, hp23⟩ := kW_pos h12
    refine g_iast hx hb hK hP hD hS p23 0 (kW_get hp23 (show Ew19 (12) = .inl (cy 0, 32, .inl (f12)) by rw [hEw19, va_up_ne _ _ (by omega), hEw15, va_up_ne _ _ (by omega), hEw11, va_up_ne _ _ (by omega), hEw7, va_up_ne _ _ (by omega)]; exact hE12)) rfl (PP.length) rfl (by omega) (by decide) dX3_layPart_82 (fun H locs hP hD hS => ?_)
    rw [kW_set hnd hp23] at hP hD
    obtain ⟨Ew24, hEw24⟩ : ∃ G, G = va_up Ew19 (12) (.inl (cy 0, 32, .inl (upd (f12) (PP.length) (nI (mLN nr wo))))) := ⟨_, rfl⟩
    have eEw24_21 : Ew24 (12) = .inl (cy 0, 32, .inl (upd (f12) (PP.length) (nI (mLN nr wo)))) := by rw [hEw24]; exact va_up_self _ _ _
    have eEw24_14 : Ew24 (8) = .inl (cy 0, 32, .inl (upd (f8) (PP.length) (nI (bl)))) := by rw [hEw24, va_up_ne _ _ (by omega)]; exact eEw19_14
    have eEw24_18 : Ew24 (9) = .inl (cy 0, 32, .inl (upd (f9) (PP.length) (nI (bn)))) := by rw [hEw24, va_up_ne _ _ (by omega)]; exact eEw19_18
    have eEw24_19 : Ew24 (10) = .inl (cy 0, 32, .inl (upd (f10) (PP.length) (nI (wo)))) := by rw [hEw24, va_up_ne _ _ (by omega)]; exact eEw19_19
    have eEw24_20 : Ew24 (11) = .inl (cy 0, 32, .inl (upd (f11) (PP.length) (nI (aWN nr wo)))) := by rw [hEw24, va_up_ne _ _ (by omega)]; exact eEw19_20
    rw [← hEw24] at hP hD
    refine lv_aload_n hx hb dX3_layPart_83 rfl (lv_at hl 1 rfl) ?_
    obtain ⟨p25, hp25⟩ := kW_pos h6
    refine va_get (D := D) (ci := 3) (v := .ref ((ad (13)))) (C := RX3) (T := TX3) (N := 14) hx hb hts (by decide +kernel) hown hK hP p25 (kW_get hp25 (show Ew24 (6) = .inr (3, [.ref ((ad (7))), .ref ((ad (8))), .ref ((ad (9))), .ref ((ad (10))), .ref ((ad (11))), .ref ((ad (12))), .ref ((ad (13))), .ref ((ad (14))), .ref ((ad (15))), .ref ((ad (16))), .ref ((ad (17))), .int (nI (bl)), .int (nI (PP.length)), .int (nI (nr))]) by rw [hEw24, va_up_ne _ _ (by omega), hEw19, va_up_ne _ _ (by omega), hEw15, va_up_ne _ _ (by omega), hEw11, va_up_ne _ _ (by omega), hEw7, va_up_ne _ _ (by omega)]; exact hE6)) rfl 6 (by decide) (hts (.fieldLink RX3 33 "CaskYard$Saw" "loss" "[I") (by decide +kernel)) (fun _ h9 => h9) rfl dX3_layPart_84 ?_
    refine lv_aload_n hx hb dX3_layPart_87 rfl (lv_at hl 1 rfl) ?_
    obtain ⟨p26, hp26⟩ := kW_pos h6
    refine va_get (D := D) (ci := 3) (v := .int (nI (PP.length))) (C := RX3) (T := TX3) (N := 14) hx hb hts (by decide +kernel) hown hK hP p26 (kW_get hp26 (show Ew24 (6) = .inr (3, [.ref ((ad (7))), .ref ((ad (8))), .ref ((ad (9))), .ref ((ad (10))), .ref ((ad (11))), .ref ((ad (12))), .ref ((ad (13))), .ref ((ad (14))), .ref ((ad (15))), .ref ((ad (16))), .ref ((ad (17))), .int (nI (bl)), .int (nI (PP.length)), .int (nI (nr))]) by rw [hEw24, va_up_ne _ _ (by omega), hEw19, va_up_ne _ _ (by omega), hEw15, va_up_ne _ _ (by omega), hEw11, va_up_ne _ _ (by omega), hEw7, va_up_ne _ _ (by omega)]; exact hE6)) rfl 12 (by decide) (hts (.fieldLink RX3 53 "CaskYard$Saw" "parts" "I") (by decide +kernel)) (fun _ h9 => h9) rfl dX3_layPart_88 ?_
    refine lv_aload_n hx hb dX3_layPart_91 rfl (lv_at hl 1 rfl) ?_
    obtain ⟨p27, hp27⟩ := kW_pos h6
    refine va_get (D := D) (ci := 3) (v := .int (nI (nr))) (C := RX3) (T := TX3) (N := 14) hx hb hts (by decide +kernel) hown hK hP p27 (kW_get hp27 (show Ew24 (6) = .inr (3, [.ref ((ad (7))), .ref ((ad (8))), .ref ((ad (9))), .ref ((ad (10))), .ref ((ad (11))), .ref ((ad (12))), .ref ((ad (13))), .ref ((ad (14))), .ref ((ad (15))), .ref ((ad (16))), .ref ((ad (17))), .int (nI (bl)), .int (nI (PP.length)), .int (nI (nr))]) by rw [hEw24, va_up_ne _ _ (by omega), hEw19, va_up_ne _ _ (by omega), hEw15, va_up_ne _ _ (by omega), hEw11, va_up_ne _ _ (by omega), hEw7, va_up_ne _ _ (by omega)]; exact hE6)) rfl 13 (by decide) (hts (.fieldLink RX3 56 "CaskYard$Saw" "narrow" "I") (by decide +kernel)) (fun _ h9 => h9) rfl dX3_layPart_92 ?_
    refine lv_iload_n hx hb dX3_layPart_95 rfl (lv_at hl 2 rfl) ?_
    refine lv_iload_n hx hb dX3_layPart_96 rfl (lv_at hl 0 rfl) ?_
    refine lv_aload_n hx hb dX3_layPart_97 rfl (lv_at hl 1 rfl) ?_
    obtain ⟨p28, hp28⟩ := kW_pos h6
    refine va_get (D := D) (ci := 3) (v := .int (nI (nr))) (C := RX3) (T := TX3) (N := 14) hx hb hts (by decide +kernel) hown hK hP p28 (kW_get hp28 (show Ew24 (6) = .inr (3, [.ref ((ad (7))), .ref ((ad (8))), .ref ((ad (9))), .ref ((ad (10))), .ref ((ad (11))), .ref ((ad (12))), .ref ((ad (13))), .ref ((ad (14))), .ref ((ad (15))), .ref ((ad (16))), .ref ((ad (17))), .int (nI (bl)), .int (nI (PP.length)), .int (nI (nr))]) by rw [hEw24, va_up_ne _ _ (by omega), hEw19, va_up_ne _ _ (by omega), hEw15, va_up_ne _ _ (by omega), hEw11, va_up_ne _ _ (by omega), hEw7, va_up_ne _ _ (by omega)]; exact hE6)) rfl 13 (by decide) (hts (.fieldLink RX3 56 "CaskYard$Saw" "narrow" "I") (by decide +kernel)) (fun _ h9 => h9) rfl dX3_layPart_98 ?_
    refine lv_iconst (v := (nI (1))) hx hb dX3_layPart_101 (by decide) ?_
    refine g_iadd_n hx hb dX3_layPart_102 ?_
    refine g_imul_n hx hb dX3_layPart_103 ?_
    refine g_isub_n hx hb dX3_layPart_104 (Nat.div_mul_le_self wo (nr + 1)) ?_
    refine g_isub_n hx hb dX3_layPart_105 hlay ?_
    refine g_top (y := (nI (lsN nr wo))) rfl ?_
    obtain ⟨p29, hp29⟩ := kW_pos h13
    refine g_iast hx hb hK hP hD hS p29 0 (kW_get hp29 (show Ew24 (13) = .inl (cy 0, 32, .inl (f13)) by rw [hEw24, va_up_ne _ _ (by omega), hEw19, va_up_ne _ _ (by omega), hEw15, va_up_ne _ _ (by omega), hEw11, va_up_ne _ _ (by omega), hEw7, va_up_ne _ _ (by omega)]; exact hE13)) rfl (PP.length) rfl (by omega) (by decide) dX3_layPart_106 (fun H locs hP hD hS => ?_)
    rw [kW_set hnd hp29] at hP hD
    obtain ⟨Ew30, hEw30⟩ : ∃ G, G = va_up Ew24 (13) (.inl (cy 0, 32, .inl (upd (f13) (PP.length) (nI (lsN nr wo))))) := ⟨_, rfl⟩
    have eEw30_16 : Ew30 (13) = .inl (cy 0, 32, .inl (upd (f13) (PP.length) (nI (lsN nr wo)))) := by rw [hEw30]; exact va_up_self _ _ _
    have eEw30_14 : Ew30 (8) = .inl (cy 0, 32, .inl (upd (f8) (PP.length) (nI (bl)))) := by rw [hEw30, va_up_ne _ _ (by omega)]; exact eEw24_14
    have eEw30_18 : Ew30 (9) = .inl (cy 0, 32, .inl (upd (f9) (PP.length) (nI (bn)))) := by rw [hEw30, va_up_ne _ _ (by omega)]; exact eEw24_18
    have eEw30_19 : Ew30 (10) = .inl (cy 0, 32, .inl (upd (f10) (PP.length) (nI (wo)))) := by rw [hEw30, va_up_ne _ _ (by omega)]; exact eEw24_19
    have eEw30_20 : Ew30 (11) = .inl (cy 0, 32, .inl (upd (f11) (PP.length) (nI (aWN nr wo)))) := by rw [hEw30, va_up_ne _ _ (by omega)]; exact eEw24_20
    have eEw30_21 : Ew30 (12) = .inl (cy 0, 32, .inl (upd (f12) (PP.length) (nI (mLN nr wo)))) := by rw [hEw30, va_up_ne _ _ (by omega)]; exact eEw24_21
    rw [← hEw30] at hP hD
    have hrw := rowsP_push (z := (bl, bn, wo)) hsaw.1 rfl
    have hll : (PP ++ [(bl, bn, wo)]).length = PP.length + 1 := by simp
    refine lv_aload_n hx hb dX3_layPart_107 rfl (lv_at hl 1 rfl) ?_
    refine lv_aload_n hx hb dX3_layPart_108 rfl (lv_at hl 1 rfl) ?_
    obtain ⟨p31, hp31⟩ := kW_pos h6
    refine va_get (D := D) (ci := 3) (v := .int (nI (PP.length))) (C := RX3) (T := TX3) (N := 14) hx hb hts (by decide +kernel) hown hK hP p31 (kW_get hp31 (show Ew30 (6) = .inr (3, [.ref ((ad (7))), .ref ((ad (8))), .ref ((ad (9))), .ref ((ad (10))), .ref ((ad (11))), .ref ((ad (12))), .ref ((ad (13))), .ref ((ad (14))), .ref ((ad (15))), .ref ((ad (16))), .ref ((ad (17))), .int (nI (bl)), .int (nI (PP.length)), .int (nI (nr))]) by rw [hEw30, va_up_ne _ _ (by omega), hEw24, va_up_ne _ _ (by omega), hEw19, va_up_ne _ _ (by omega), hEw15, va_up_ne _ _ (by omega), hEw11, va_up_ne _ _ (by omega), hEw7, va_up_ne _ _ (by omega)]; exact hE6)) rfl 12 (by decide) (hts (.fieldLink RX3 53 "CaskYard$Saw" "parts" "I") (by decide +kernel)) (fun _ h9 => h9) rfl dX3_layPart_109 ?_
    have hFc := w_free hD hS hA
    obtain ⟨p32, hp32⟩ := kW_pos h6
    refine va_callv (va_runV (As := [.int (nI (PP.length))]) (rest := []) ⟨hx, hb, hml, hown, hts⟩ (c_X3_sortIn l D cy H.size K ad Ew30 (h6) (nr) (bl) (PP.length) (show Ew30 (6) = .inr (3, [.ref ((ad (7))), .ref ((ad (8))), .ref ((ad (9))), .ref ((ad (10))), .ref ((ad (11))), .ref ((ad (12))), .ref ((ad (13))), .ref ((ad (14))), .ref ((ad (15))), .ref ((ad (16))), .ref ((ad (17))), .int (nI (bl)), .int (nI (PP.length)), .int (nI (nr))]) by rw [hEw30, va_up_ne _ _ (by omega), hEw24, va_up_ne _ _ (by omega), hEw19, va_up_ne _ _ (by omega), hEw15, va_up_ne _ _ (by omega), hEw11, va_up_ne _ _ (by omega), hEw7, va_up_ne _ _ (by omega)]; exact hE6) (h13) (upd (f13) (PP.length) (nI (lsN nr wo))) (eEw30_16) (h14) (f14) (show Ew30 (14) = .inl (cy 0, 32, .inl (f14)) by rw [hEw30, va_up_ne _ _ (by omega), hEw24, va_up_ne _ _ (by omega), hEw19, va_up_ne _ _ (by omega), hEw15, va_up_ne _ _ (by omega), hEw11, va_up_ne _ _ (by omega), hEw7, va_up_ne _ _ (by omega)]; exact hE14) (hP32) (fun i => lsN nr (lnP (PP ++ [(bl, bn, wo)]) i)) (fun i => Nat.le_trans (ls_le _ _) hnr.2) (SS) (hsl) (fun i hi => srt_lt hsaw.2.1 (by omega)) (fun i hi => (hrw i (by omega)).2.2.2.2.2) (hsaw.2.2) (srtP_ls hsaw.2.1)) (cwV 1 hts gX3_layPart_X3_sortIn rfl rfl rfl (by decide +kernel) ⟨Nat.le_of_ble_eq_true rfl, Nat.le_of_ble_eq_true rfl⟩) ⟨wB2_blind, va_recv hK hP (ci := 3) (q0 := p32) rfl (kW_get hp32 (show Ew30 (6) = .inr (3, [.ref ((ad (7))), .ref ((ad (8))), .ref ((ad (9))), .ref ((ad (10))), .ref ((ad (11))), .ref ((ad (12))), .ref ((ad (13))), .ref ((ad (14))), .ref ((ad (15))), .ref ((ad (16))), .ref ((ad (17))), .int (nI (bl)), .int (nI (PP.length)), .int (nI (nr))]) by rw [hEw30, va_up_ne _ _ (by omega), hEw24, va_up_ne _ _ (by omega), hEw19, va_up_ne _ _ (by omega), hEw15, va_up_ne _ _ (by omega), hEw11, va_up_ne _ _ (by omega), hEw7, va_up_ne _ _ (by omega)]; exact hE6)), wB2_pre hP hK hD hN⟩ rfl rfl hl.1 rfl (lv_room (Nat.le_of_ble_eq_true rfl)) dX3_layPart_112 ⟨Nat.le_of_ble_eq_true rfl, Nat.le_of_ble_eq_true rfl⟩) hS (fun q _ h => hFc q h) hFc (fun E_112 t_ H locs ht hvm hw_112 hB _ _ hS => ?_)
    obtain ⟨hP1, hK1, hD1⟩ := hB
    rw [ht] at hP1
    have hP := hP1
    have hD := hD1.weaken (fun _ _ _ h => hFc _ h)
    obtain ⟨f112, q112, k112_0, hO112, ha112, hb112, hc112⟩ := hw_112
    have fC112_13 : E_112 (6) = .inr (3, [.ref ((ad (7))), .ref ((ad (8))), .ref ((ad (9))), .ref ((ad (10))), .ref ((ad (11))), .ref ((ad (12))), .ref ((ad (13))), .ref ((ad (14))), .ref ((ad (15))), .ref ((ad (16))), .ref ((ad (17))), .int (nI (bl)), .int (nI (PP.length)), .int (nI (nr))]) := (hO112 (6) (by omega)).trans (show Ew30 (6) = .inr (3, [.ref ((ad (7))), .ref ((ad (8))), .ref ((ad (9))), .ref ((ad (10))), .ref ((ad (11))), .ref ((ad (12))), .ref ((ad (13))), .ref ((ad (14))), .ref ((ad (15))), .ref ((ad (16))), .ref ((ad (17))), .int (nI (bl)), .int (nI (PP.length)), .int (nI (nr))]) by rw [hEw30, va_up_ne _ _ (by omega), hEw24, va_up_ne _ _ (by omega), hEw19, va_up_ne _ _ (by omega), hEw15, va_up_ne _ _ (by omega), hEw11, va_up_ne _ _ (by omega), hEw7, va_up_ne _ _ (by omega)]; exact hE6)
    have fC112_14 : E_112 (8) = .inl (cy 0, 32, .inl (upd (f8) (PP.length) (nI (bl)))) := (hO112 (8) (by omega)).trans eEw30_14
    have fC112_18 : E_112 (9) = .inl (cy 0, 32, .inl (upd (f9) (PP.length) (nI (bn)))) := (hO112 (9) (by omega)).trans eEw30_18
    have fC112_19 : E_112 (10) = .inl (cy 0, 32, .inl (upd (f10) (PP.length) (nI (wo)))) := (hO112 (10) (by omega)).trans eEw30_19
    have fC112_20 : E_112 (11) = .inl (cy 0, 32, .inl (upd (f11) (PP.length) (nI (aWN nr wo)))) := (hO112 (11) (by omega)).trans eEw30_20
    have fC112_21 : E_112 (12) = .inl (cy 0, 32, .inl (upd (f12) (PP.length) (nI (mLN nr wo)))) := (hO112 (12) (by omega)).trans eEw30_21
    have fC112_16 : E_112 (13) = .inl (cy 0, 32, .inl (upd (f13) (PP.length) (nI (lsN nr wo)))) := (hO112 (13) (by omega)).trans eEw30_16
    refine lv_aload_n hx hb dX3_layPart_115 rfl (lv_at hl 1 rfl) ?_
    refine lv_dup hx hb dX3_layPart_116 rfl ?_
    obtain ⟨p33, hp33⟩ := kW_pos h6
    refine va_get (D := D) (ci := 3) (v := .int (nI (PP.length))) (C := RX3) (T := TX3) (N := 14) hx hb hts (by decide +kernel) hown hK hP p33 (kW_get hp33 fC112_13) rfl 12 (by decide) (hts (.fieldLink RX3 53 "CaskYard$Saw" "parts" "I") (by decide +kernel)) (fun _ h9 => h9) rfl dX3_layPart_117 ?_
    refine lv_iconst (v := (nI (1))) hx hb dX3_layPart_120 (by decide) ?_
    refine g_iadd_n hx hb dX3_layPart_121 ?_
    obtain ⟨p34, hp34⟩ := kW_pos h6
    refine va_put (D := D) (ci := 3) (v := .int (nI ((PP.length) + 1))) (ty := .int) (C := RX3) (T := TX3) (N := 14) hx hb hts (by decide +kernel) tyX3 tyX3_ok nmX3 hown hK hP hD hS p34 (kW_get hp34 fC112_13) rfl 12 (by decide) (hts (.fieldLink RX3 53 "CaskYard$Saw" "parts" "I") (by decide +kernel)) (fun _ h9 => h9) rfl (by decide +kernel) rfl rfl (Nat.le_of_ble_eq_true rfl) dX3_layPart_122 (fun H locs hP hD hS => ?_)
    rw [show ([.ref ((ad (7))), .ref ((ad (8))), .ref ((ad (9))), .ref ((ad (10))), .ref ((ad (11))), .ref ((ad (12))), .ref ((ad (13))), .ref ((ad (14))), .ref ((ad (15))), .ref ((ad (16))), .ref ((ad (17))), .int (nI (bl)), .int (nI (PP.length)), .int (nI (nr))] : List Value).set 12 (.int (nI ((PP.length) + 1))) = [.ref ((ad (7))), .ref ((ad (8))), .ref ((ad (9))), .ref ((ad (10))), .ref ((ad (11))), .ref ((ad (12))), .ref ((ad (13))), .ref ((ad (14))), .ref ((ad (15))), .ref ((ad (16))), .ref ((ad (17))), .int (nI (bl)), .int (nI ((PP.length) + 1)), .int (nI (nr))] from rfl] at hP hD
    rw [kW_set hnd hp34] at hP hD
    obtain ⟨Ew35, hEw35⟩ : ∃ G, G = va_up E_112 (6) (.inr (3, [.ref ((ad (7))), .ref ((ad (8))), .ref ((ad (9))), .ref ((ad (10))), .ref ((ad (11))), .ref ((ad (12))), .ref ((ad (13))), .ref ((ad (14))), .ref ((ad (15))), .ref ((ad (16))), .ref ((ad (17))), .int (nI (bl)), .int (nI ((PP.length) + 1)), .int (nI (nr))])) := ⟨_, rfl⟩
    have eEw35_13 : Ew35 (6) = .inr (3, [.ref ((ad (7))), .ref ((ad (8))), .ref ((ad (9))), .ref ((ad (10))), .ref ((ad (11))), .ref ((ad (12))), .ref ((ad (13))), .ref ((ad (14))), .ref ((ad (15))), .ref ((ad (16))), .ref ((ad (17))), .int (nI (bl)), .int (nI ((PP.length) + 1)), .int (nI (nr))]) := by rw [hEw35]; exact va_up_self _ _ _
    rw [← hEw35] at hP hD
    exact W.vret hx hb hr (fun t ht hW => ⟨⟨Ew35, rfl, ⟨upd (f8) (PP.length) (nI (bl)), upd (f9) (PP.length) (nI (bn)), upd (f10) (PP.length) (nI (wo)), upd (f11) (PP.length) (nI (aWN nr wo)), upd (f12) (PP.length) (nI (mLN nr wo)), upd (f13) (PP.length) (nI (lsN nr wo)), f112, _, eEw35_13, (show Ew35 (8) = .inl (cy 0, 32, .inl (upd (f8) (PP.length) (nI (bl)))) by rw [hEw35, va_up_ne _ _ (by omega)]; exact fC112_14), (show Ew35 (9) = .inl (cy 0, 32, .inl (upd (f9) (PP.length) (nI (bn)))) by rw [hEw35, va_up_ne _ _ (by omega)]; exact fC112_18), (show Ew35 (10) = .inl (cy 0, 32, .inl (upd (f10) (PP.length) (nI (wo)))) by rw [hEw35, va_up_ne _ _ (by omega)]; exact fC112_19), (show Ew35 (11) = .inl (cy 0, 32, .inl (upd (f11) (PP.length) (nI (aWN nr wo)))) by rw [hEw35, va_up_ne _ _ (by omega)]; exact fC112_20), (show Ew35 (12) = .inl (cy 0, 32, .inl (upd (f12) (PP.length) (nI (mLN nr wo)))) by rw [hEw35, va_up_ne _ _ (by omega)]; exact fC112_21), (show Ew35 (13) = .inl (cy 0, 32, .inl (upd (f13) (PP.length) (nI (lsN nr wo)))) by rw [hEw35, va_up_ne _ _ (by omega)]; exact fC112_16), (show Ew35 (14) = .inl (cy 0, 32, .inl (f112)) by rw [hEw35, va_up_ne _ _ (by omega)]; exact k112_0), (fun j_ h0_ h1_ h2_ h3_ h4_ h5_ h6_ h7_ => by rw [hEw35, va_up_ne _ _ h0_, hO112 j_ h7_, hEw30, va_up_ne _ _ h6_, hEw24, va_up_ne _ _ h5_, hEw19, va_up_ne _ _ h4_, hEw15, va_up_ne _ _ h3_, hEw11, va_up_ne _ _ h2_, hEw7, va_up_ne _ _ h1_]), hrw, srtP_push hsaw.2.1 hc112, fun i hi => hb112 i (by omega)⟩, by rw [ht]; exact hP, va_K.moved hW.alike hK, hD⟩, hS.F ht⟩) hS.2.2 dX3_layPart_125
  · skip
    exfalso; omega
