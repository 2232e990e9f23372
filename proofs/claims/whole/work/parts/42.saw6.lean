set_option maxHeartbeats 4000000 in
set_option maxRecDepth 100000 in
theorem c_X3_lay (l : Launch) (D : va_G) (cy : Nat → ClassId) (sz : Nat) (K : List Nat) (ad : Nat → Nat) (E : Nat → va_E) (h6 : 6 ∈ K) (nr bl : Nat) (PP : List (Nat × Nat × Nat)) (hE6 : E 6 = .inr (3, [.ref ((ad (7))), .ref ((ad (8))), .ref ((ad (9))), .ref ((ad (10))), .ref ((ad (11))), .ref ((ad (12))), .ref ((ad (13))), .ref ((ad (14))), .ref ((ad (15))), .ref ((ad (16))), .ref ((ad (17))), .int (nI (bl)), .int (nI (PP.length)), .int (nI (nr))])) (h7 : 7 ∈ K) (f7 : Nat → Option Nat) (hE7 : E 7 = .inl (cy 4, 8, .inr (.inr (.inr (.inr (f7)))))) (h8 : 8 ∈ K) (f8 : Nat → Int32) (hE8 : E 8 = .inl (cy 0, 32, .inl (f8))) (h9 : 9 ∈ K) (f9 : Nat → Int32) (hE9 : E 9 = .inl (cy 0, 32, .inl (f9))) (h10 : 10 ∈ K) (f10 : Nat → Int32) (hE10 : E 10 = .inl (cy 0, 32, .inl (f10))) (h11 : 11 ∈ K) (f11 : Nat → Int32) (hE11 : E 11 = .inl (cy 0, 32, .inl (f11))) (h12 : 12 ∈ K) (f12 : Nat → Int32) (hE12 : E 12 = .inl (cy 0, 32, .inl (f12))) (h13 : 13 ∈ K) (f13 : Nat → Int32) (hE13 : E 13 = .inl (cy 0, 32, .inl (f13))) (h14 : 14 ∈ K) (f14 : Nat → Int32) (hE14 : E 14 = .inl (cy 0, 32, .inl (f14))) (SS : List Nat) (hsaw : sawR nr PP SS f8 f9 f10 f11 f12 f13 f14) (hnr : 1 ≤ nr ∧ nr ≤ 3000) (ko kb ke : Nat) (hko : ko ∈ K) (hkb : kb ∈ K) (hke : ke ∈ K) (hne : ko ≠ kb ∧ ko ≠ ke ∧ kb ≠ ke ∧ 21 ≤ ko ∧ 21 ≤ kb ∧ 21 ≤ ke) (sp : Int32) (L : List (Nat × Nat)) (f g : Nat → Int32) (hEko : E ko = cellB (ad kb) (ad ke) sp (nI (L.length))) (hEkb : E kb = rowI cy 4 f) (hEke : E ke = rowI cy 4 g) (hL : L.length ≤ 4) (hAr : arrP f g 0 L) (hq : ∀ q ∈ L, q.1 < q.2 ∧ q.2 ≤ 600) (hPb : PP.length ≤ 4 * bl) (bn : Nat) (hbl : bl ≤ 8) : Met l yX3_lay wsX3_lay ({ frames := 2, cells := 0, slots := 0, locals := 45 } : Room) (va_Pc [.ref ((ad (6))), .ref ((ad (ko))), .int (nI (bn))] (wB2 D cy sz (kW K ad E))) (va_Qv (fun (u : Nat → va_E) => ∃ (P' : List (Nat × Nat × Nat)) (S' : List Nat) (b' : Nat) (g7 : Nat → Option Nat) (g8 g9 g10 g11 g12 g13 g14 : Nat → Int32), u (6) = .inr (3, [.ref ((ad (7))), .ref ((ad (8))), .ref ((ad (9))), .ref ((ad (10))), .ref ((ad (11))), .ref ((ad (12))), .ref ((ad (13))), .ref ((ad (14))), .ref ((ad (15))), .ref ((ad (16))), .ref ((ad (17))), .int (nI (b')), .int (nI (P'.length)), .int (nI (nr))]) ∧ u (7) = .inl (cy 4, 8, .inr (.inr (.inr (.inr (g7))))) ∧ u (8) = .inl (cy 0, 32, .inl (g8)) ∧ u (9) = .inl (cy 0, 32, .inl (g9)) ∧ u (10) = .inl (cy 0, 32, .inl (g10)) ∧ u (11) = .inl (cy 0, 32, .inl (g11)) ∧ u (12) = .inl (cy 0, 32, .inl (g12)) ∧ u (13) = .inl (cy 0, 32, .inl (g13)) ∧ u (14) = .inl (cy 0, 32, .inl (g14)) ∧ (∀ j_ : Nat, j_ ≠ 6 → j_ ≠ 7 → j_ ≠ 8 → j_ ≠ 9 → j_ ≠ 10 → j_ ≠ 11 → j_ ≠ 12 → j_ ≠ 13 → j_ ≠ 14 → u j_ = E j_) ∧ sawR nr P' S' g8 g9 g10 g11 g12 g13 g14 ∧ (bl < 8 → P' = PP ++ layL bl bn L ∧ b' = bl + 1 ∧ g7 = va_up f7 bl (some (ad ko))) ∧ (¬ bl < 8 → P' = PP ∧ b' = bl ∧ g7 = f7)) (fun u t => wE D cy (va_A (kW K ad E) sz) (kW K ad u) t) (va_A (kW K ad E) sz)) 0 0 (va_A (kW K ad E) sz) := by
  refine Met.ofW (cc := cX3_lay) (maxL := 4) (ret := none) (by decide) rfl ?_
  intro p e s m args below meth c s₁ B hml hv
  obtain ⟨rfl, ⟨hsz, hP, hK, hD0⟩, hN⟩ := hv
  have hx := B.exec
  have hb := B.bytes
  have hr := B.returns
  have hts := atoms_spec (ws := wsX3_lay) B.pre
  have hown : s.vm.findClass RX3 = some m.cls := findClass_of_methodNamed B.named
  have hlocks := B.notSynchronized
  subst hsz
  have hD := hD0.self (sz := s.heap.size)
  generalize hAe : va_A (kW K ad E) s.heap.size = A at hD ⊢
  have hA : ∀ q : Nat, s.heap.size ≤ q → A q := w_A hAe
  have hS : va_S A s.heap s.heap [] := va_S.rf
  have hnd := kW_nd hD
  have hl := lv_entry ([.ref ((ad (6))), .ref ((ad (ko))), .int (nI (bn))]) (n := 4) (Nat.le_of_ble_eq_true rfl)
  rw [lg_entry_eq]
  generalize (lg_sl ([.ref ((ad (6))), .ref ((ad (ko))), .int (nI (bn))]) ++ List.replicate (4 - (lg_sl ([.ref ((ad (6))), .ref ((ad (ko))), .int (nI (bn))])).length) Slot.unset).toArray = ls at hl ⊢
  have hl : lv_has ls 4 [(0, .ref ((ad (6)))), (1, .ref ((ad (ko)))), (2, .int (nI (bn)))] := hl
  refine lv_aload_n hx hb dX3_lay_0 rfl (lv_at hl 0 rfl) ?_
  obtain ⟨p1, hp1⟩ := kW_pos h6
  refine va_get (D := D) (ci := 3) (v := .int (nI (bl))) (C := RX3) (T := TX3) (N := 14) hx hb hts (by decide +kernel) hown hK hP p1 (kW_get hp1 hE6) rfl 11 (by decide) (hts (.fieldLink RX3 49 "CaskYard$Saw" "boltsLaid" "I") (by decide +kernel)) (fun _ h9 => h9) rfl dX3_lay_1 ?_
  refine lv_bipush (v := (nI (8))) hx hb dX3_lay_4 (by decide) ?_
  refine g_icmp_lt (tgt := 10) hx hb dX3_lay_6 (by decide) (n_i (by omega)) (n_i (by omega)) (fun c_6 => ?_) (fun c_6 => ?_)
  · skip
    refine lv_iconst (v := (nI (0))) hx hb dX3_lay_10 (by decide) ?_
    refine lv_istore_n (lv' := [(3, .int (nI (0))), (0, .ref ((ad (6)))), (1, .ref ((ad (ko)))), (2, .int (nI (bn)))]) hx hb dX3_lay_11 rfl hl (by decide) rfl (fun ls hl => ?_)
    have hE6b : E 6 = .inr (3, [.ref ((ad (7))), .ref ((ad (8))), .ref ((ad (9))), .ref ((ad (10))), .ref ((ad (11))), .ref ((ad (12))), .ref ((ad (13))), .ref ((ad (14))), .ref ((ad (15))), .ref ((ad (16))), .ref ((ad (17))), .int (nI (bl)), .int (nI ((PP ++ layL bl bn (L.take (0))).length)), .int (nI (nr))]) := by rw [show (PP ++ layL bl bn (L.take (0))) = PP by simp [layL]]; exact hE6
    have loop_12 : ∀ (n_ : Nat) (i : Nat) (SS2 : List Nat) (g8 : Nat → Int32) (g9 : Nat → Int32) (g10 : Nat → Int32) (g11 : Nat → Int32) (g12 : Nat → Int32) (g13 : Nat → Int32) (g14 : Nat → Int32) (Ec : Nat → va_E) (H : Heap) (locs : List Loc), va_P D vwCl (kW K ad Ec) H → va_D A (kW K ad Ec) → va_S A s.heap H locs → (i ≤ L.length) → (sawR nr (PP ++ layL bl bn (L.take (i))) SS2 g8 g9 g10 g11 g12 g13 g14) → (Ec (6) = .inr (3, [.ref ((ad (7))), .ref ((ad (8))), .ref ((ad (9))), .ref ((ad (10))), .ref ((ad (11))), .ref ((ad (12))), .ref ((ad (13))), .ref ((ad (14))), .ref ((ad (15))), .ref ((ad (16))), .ref ((ad (17))), .int (nI (bl)), .int (nI ((PP ++ layL bl bn (L.take (i))).length)), .int (nI (nr))])) → (Ec (8) = .inl (cy 0, 32, .inl (g8))) → (Ec (9) = .inl (cy 0, 32, .inl (g9))) → (Ec (10) = .inl (cy 0, 32, .inl (g10))) → (Ec (11) = .inl (cy 0, 32, .inl (g11))) → (Ec (12) = .inl (cy 0, 32, .inl (g12))) → (Ec (13) = .inl (cy 0, 32, .inl (g13))) → (Ec (14) = .inl (cy 0, 32, .inl (g14))) → (∀ j_ : Nat, j_ ≠ 6 → j_ ≠ 8 → j_ ≠ 9 → j_ ≠ 10 → j_ ≠ 11 → j_ ≠ 12 → j_ ≠ 13 → j_ ≠ 14 → Ec j_ = E j_) → L.length - i < n_ → ∀ (ls : Array Slot), lv_has ls 4 [(0, .ref ((ad (6)))), (1, .ref ((ad (ko)))), (2, .int (nI (bn))), (3, .int (nI (i)))] → W p l e (headSpec wsX3_lay ({ frames := 2, cells := 0, slots := 0, locals := 45 } : Room)).room s m ([.ref ((ad (6))), .ref ((ad (ko))), .int (nI (bn))] : List Value).toArray below meth c H locs 0 0 (MQ below (va_Qv (fun (u : Nat → va_E) => ∃ (P' : List (Nat × Nat × Nat)) (S' : List Nat) (b' : Nat) (g7 : Nat → Option Nat) (g8 g9 g10 g11 g12 g13 g14 : Nat → Int32), u (6) = .inr (3, [.ref ((ad (7))), .ref ((ad (8))), .ref ((ad (9))), .ref ((ad (10))), .ref ((ad (11))), .ref ((ad (12))), .ref ((ad (13))), .ref ((ad (14))), .ref ((ad (15))), .ref ((ad (16))), .ref ((ad (17))), .int (nI (b')), .int (nI (P'.length)), .int (nI (nr))]) ∧ u (7) = .inl (cy 4, 8, .inr (.inr (.inr (.inr (g7))))) ∧ u (8) = .inl (cy 0, 32, .inl (g8)) ∧ u (9) = .inl (cy 0, 32, .inl (g9)) ∧ u (10) = .inl (cy 0, 32, .inl (g10)) ∧ u (11) = .inl (cy 0, 32, .inl (g11)) ∧ u (12) = .inl (cy 0, 32, .inl (g12)) ∧ u (13) = .inl (cy 0, 32, .inl (g13)) ∧ u (14) = .inl (cy 0, 32, .inl (g14)) ∧ (∀ j_ : Nat, j_ ≠ 6 → j_ ≠ 7 → j_ ≠ 8 → j_ ≠ 9 → j_ ≠ 10 → j_ ≠ 11 → j_ ≠ 12 → j_ ≠ 13 → j_ ≠ 14 → u j_ = E j_) ∧ sawR nr P' S' g8 g9 g10 g11 g12 g13 g14 ∧ (bl < 8 → P' = PP ++ layL bl bn L ∧ b' = bl + 1 ∧ g7 = va_up f7 bl (some (ad ko))) ∧ (¬ bl < 8 → P' = PP ∧ b' = bl ∧ g7 = f7)) (fun u t => wE D cy A (kW K ad u) t) A) ([.ref ((ad (6))), .ref ((ad (ko))), .int (nI (bn))] : List Value).toArray s 0 0 A) (F0 m 12 ls []) := by
      intro n_
      induction n_ with
      | zero => intro i SS2 g8 g9 g10 g11 g12 g13 g14 Ec H locs hP hD hS hi hsw hk_12_0 hk_12_1 hk_12_2 hk_12_3 hk_12_4 hk_12_5 hk_12_6 hk_12_7 hO_12 hm_; exact absurd hm_ (Nat.not_lt_zero _)
      | succ n_ ih_12 =>
        intro i SS2 g8 g9 g10 g11 g12 g13 g14 Ec H locs hP hD hS hi hsw hk_12_0 hk_12_1 hk_12_2 hk_12_3 hk_12_4 hk_12_5 hk_12_6 hk_12_7 hO_12 hm_ ls hl
        have fL12_22 : Ec (7) = .inl (cy 4, 8, .inr (.inr (.inr (.inr (f7))))) := (hO_12 (7) (by omega) (by omega) (by omega) (by omega) (by omega) (by omega) (by omega) (by omega)).trans hE7
        have fL12_2 : Ec (ko) = .inr (0, [.int (sp), .ref ((ad (kb))), .ref ((ad (ke))), .int (nI (L.length))]) := (hO_12 (ko) (by omega) (by omega) (by omega) (by omega) (by omega) (by omega) (by omega) (by omega)).trans hEko
        have fL12_0 : Ec (kb) = .inl (cy 0, 4, .inl (f)) := (hO_12 (kb) (by omega) (by omega) (by omega) (by omega) (by omega) (by omega) (by omega) (by omega)).trans hEkb
        have fL12_1 : Ec (ke) = .inl (cy 0, 4, .inl (g)) := (hO_12 (ke) (by omega) (by omega) (by omega) (by omega) (by omega) (by omega) (by omega) (by omega)).trans hEke
        refine lv_iload_n hx hb dX3_lay_12 rfl (lv_at hl 3 rfl) ?_
        refine lv_aload_n hx hb dX3_lay_13 rfl (lv_at hl 1 rfl) ?_
        obtain ⟨p2, hp2⟩ := kW_pos hko
        refine va_get (D := D) (ci := 0) (v := .int (nI (L.length))) (C := RX0) (T := TX0) (N := 4) hx hb hts (by decide +kernel) hown hK hP p2 (kW_get hp2 fL12_2) rfl 3 (by decide) (hts (.fieldLink RX3 59 "CaskYard$Bolt" "parts" "I") (by decide +kernel)) (fun _ h9 => h9) rfl dX3_lay_14 ?_
        refine g_icmp_ge (tgt := 44) hx hb dX3_lay_17 (by decide) (n_i (by omega)) (n_i (by omega)) (fun c_17 => ?_) (fun c_17 => ?_)
        · skip
          have hii : i = L.length := by omega
          rw [hii, List.take_length] at hsw hk_12_0
          refine lv_aload_n hx hb dX3_lay_44 rfl (lv_at hl 0 rfl) ?_
          obtain ⟨p3, hp3⟩ := kW_pos h6
          refine va_get (D := D) (ci := 3) (v := .ref ((ad (7)))) (C := RX3) (T := TX3) (N := 14) hx hb hts (by decide +kernel) hown hK hP p3 (kW_get hp3 hk_12_0) rfl 0 (by decide) (hts (.fieldLink RX3 11 "CaskYard$Saw" "laid" "[LCaskYard$Bolt;") (by decide +kernel)) (fun _ h9 => h9) rfl dX3_lay_45 ?_
          refine lv_aload_n hx hb dX3_lay_48 rfl (lv_at hl 0 rfl) ?_
          obtain ⟨p4, hp4⟩ := kW_pos h6
          refine va_get (D := D) (ci := 3) (v := .int (nI (bl))) (C := RX3) (T := TX3) (N := 14) hx hb hts (by decide +kernel) hown hK hP p4 (kW_get hp4 hk_12_0) rfl 11 (by decide) (hts (.fieldLink RX3 49 "CaskYard$Saw" "boltsLaid" "I") (by decide +kernel)) (fun _ h9 => h9) rfl dX3_lay_49 ?_
          refine lv_aload_n hx hb dX3_lay_52 rfl (lv_at hl 1 rfl) ?_
          obtain ⟨p5, hp5⟩ := kW_pos h7
          obtain ⟨p6, hp6⟩ := kW_pos hko
          refine g_aast hx hb hK hP hD hS p5 4 p6 0 (kW_get hp5 fL12_22) rfl (kW_get hp6 fL12_2) rfl (bl) rfl (by omega) (by decide) dX3_lay_53 (fun H locs hP hD hS => ?_)
          rw [kW_set hnd hp5] at hP hD
          obtain ⟨Ew7, hEw7⟩ : ∃ G, G = va_up Ec (7) (.inl (cy 4, 8, .inr (.inr (.inr (.inr (va_up (f7) (bl) (some (ad (ko))))))))) := ⟨_, rfl⟩
          have eEw7_22 : Ew7 (7) = .inl (cy 4, 8, .inr (.inr (.inr (.inr (va_up (f7) (bl) (some (ad (ko)))))))) := by rw [hEw7]; exact va_up_self _ _ _
          rw [← hEw7] at hP hD
          refine lv_aload_n hx hb dX3_lay_54 rfl (lv_at hl 0 rfl) ?_
          refine lv_dup hx hb dX3_lay_55 rfl ?_
          obtain ⟨p8, hp8⟩ := kW_pos h6
          refine va_get (D := D) (ci := 3) (v := .int (nI (bl))) (C := RX3) (T := TX3) (N := 14) hx hb hts (by decide +kernel) hown hK hP p8 (kW_get hp8 (show Ew7 (6) = .inr (3, [.ref ((ad (7))), .ref ((ad (8))), .ref ((ad (9))), .ref ((ad (10))), .ref ((ad (11))), .ref ((ad (12))), .ref ((ad (13))), .ref ((ad (14))), .ref ((ad (15))), .ref ((ad (16))), .ref ((ad (17))), .int (nI (bl)), .int (nI ((PP ++ layL bl bn L).length)), .int (nI (nr))]) by rw [hEw7, va_up_ne _ _ (by omega)]; exact hk_12_0)) rfl 11 (by decide) (hts (.fieldLink RX3 49 "CaskYard$Saw" "boltsLaid" "I") (by decide +kernel)) (fun _ h9 => h9) rfl dX3_lay_56 ?_
          refine lv_iconst (v := (nI (1))) hx hb dX3_lay_59 (by decide) ?_
          refine g_iadd_n hx hb dX3_lay_60 ?_
          obtain ⟨p9, hp9⟩ := kW_pos h6
          refine va_put (D := D) (ci := 3) (v := .int (nI (bl + 1))) (ty := .int) (C := RX3) (T := TX3) (N := 14) hx hb hts (by decide +kernel) tyX3 tyX3_ok nmX3 hown hK hP hD hS p9 (kW_get hp9 (show Ew7 (6) = .inr (3, [.ref ((ad (7))), .ref ((ad (8))), .ref ((ad (9))), .ref ((ad (10))), .ref ((ad (11))), .ref ((ad (12))), .ref ((ad (13))), .ref ((ad (14))), .ref ((ad (15))), .ref ((ad (16))), .ref ((ad (17))), .int (nI (bl)), .int (nI ((PP ++ layL bl bn L).length)), .int (nI (nr))]) by rw [hEw7, va_up_ne _ _ (by omega)]; exact hk_12_0)) rfl 11 (by decide) (hts (.fieldLink RX3 49 "CaskYard$Saw" "boltsLaid" "I") (by decide +kernel)) (fun _ h9 => h9) rfl (by decide +kernel) rfl rfl (Nat.le_of_ble_eq_true rfl) dX3_lay_61 (fun H locs hP hD hS => ?_)
          rw [show ([.ref ((ad (7))), .ref ((ad (8))), .ref ((ad (9))), .ref ((ad (10))), .ref ((ad (11))), .ref ((ad (12))), .ref ((ad (13))), .ref ((ad (14))), .ref ((ad (15))), .ref ((ad (16))), .ref ((ad (17))), .int (nI (bl)), .int (nI ((PP ++ layL bl bn L).length)), .int (nI (nr))] : List Value).set 11 (.int (nI (bl + 1))) = [.ref ((ad (7))), .ref ((ad (8))), .ref ((ad (9))), .ref ((ad (10))), .ref ((ad (11))), .ref ((ad (12))), .ref ((ad (13))), .ref ((ad (14))), .ref ((ad (15))), .ref ((ad (16))), .ref ((ad (17))), .int (nI (bl + 1)), .int (nI ((PP ++ layL bl bn L).length)), .int (nI (nr))] from rfl] at hP hD
          rw [kW_set hnd hp9] at hP hD
          obtain ⟨Ew10, hEw10⟩ : ∃ G, G = va_up Ew7 (6) (.inr (3, [.ref ((ad (7))), .ref ((ad (8))), .ref ((ad (9))), .ref ((ad (10))), .ref ((ad (11))), .ref ((ad (12))), .ref ((ad (13))), .ref ((ad (14))), .ref ((ad (15))), .ref ((ad (16))), .ref ((ad (17))), .int (nI (bl + 1)), .int (nI ((PP ++ layL bl bn L).length)), .int (nI (nr))])) := ⟨_, rfl⟩
          have eEw10_13 : Ew10 (6) = .inr (3, [.ref ((ad (7))), .ref ((ad (8))), .ref ((ad (9))), .ref ((ad (10))), .ref ((ad (11))), .ref ((ad (12))), .ref ((ad (13))), .ref ((ad (14))), .ref ((ad (15))), .ref ((ad (16))), .ref ((ad (17))), .int (nI (bl + 1)), .int (nI ((PP ++ layL bl bn L).length)), .int (nI (nr))]) := by rw [hEw10]; exact va_up_self _ _ _
          have eEw10_22 : Ew10 (7) = .inl (cy 4, 8, .inr (.inr (.inr (.inr (va_up (f7) (bl) (some (ad (ko)))))))) := by rw [hEw10, va_up_ne _ _ (by omega)]; exact eEw7_22
          rw [← hEw10] at hP hD
          exact W.vret hx hb hr (fun t ht hW => ⟨⟨Ew10, rfl, ⟨PP ++ layL bl bn L, SS2, bl + 1, _, g8, g9, g10, g11, g12, g13, g14, eEw10_13, eEw10_22, (show Ew10 (8) = .inl (cy 0, 32, .inl (g8)) by rw [hEw10, va_up_ne _ _ (by omega), hEw7, va_up_ne _ _ (by omega)]; exact hk_12_1), (show Ew10 (9) = .inl (cy 0, 32, .inl (g9)) by rw [hEw10, va_up_ne _ _ (by omega), hEw7, va_up_ne _ _ (by omega)]; exact hk_12_2), (show Ew10 (10) = .inl (cy 0, 32, .inl (g10)) by rw [hEw10, va_up_ne _ _ (by omega), hEw7, va_up_ne _ _ (by omega)]; exact hk_12_3), (show Ew10 (11) = .inl (cy 0, 32, .inl (g11)) by rw [hEw10, va_up_ne _ _ (by omega), hEw7, va_up_ne _ _ (by omega)]; exact hk_12_4), (show Ew10 (12) = .inl (cy 0, 32, .inl (g12)) by rw [hEw10, va_up_ne _ _ (by omega), hEw7, va_up_ne _ _ (by omega)]; exact hk_12_5), (show Ew10 (13) = .inl (cy 0, 32, .inl (g13)) by rw [hEw10, va_up_ne _ _ (by omega), hEw7, va_up_ne _ _ (by omega)]; exact hk_12_6), (show Ew10 (14) = .inl (cy 0, 32, .inl (g14)) by rw [hEw10, va_up_ne _ _ (by omega), hEw7, va_up_ne _ _ (by omega)]; exact hk_12_7), (fun j_ h0_ h1_ h2_ h3_ h4_ h5_ h6_ h7_ h8_ => by rw [hEw10, va_up_ne _ _ h0_, hEw7, va_up_ne _ _ h1_, hO_12 j_ h0_ h2_ h3_ h4_ h5_ h6_ h7_ h8_]), hsw, (fun _ => ⟨rfl, rfl, rfl⟩), (fun h9 => absurd (by omega) h9)⟩, by rw [ht]; exact hP, va_K.moved hW.alike hK, hD⟩, hS.F ht⟩) hS.2.2 dX3_lay_64
        · skip
          have hq9 := hq _ (paD_mem (L := L) (i := i) (by omega))
          have hpl9 : (PP ++ layL bl bn (L.take (i))).length = PP.length + i := by simp [layL]; omega
          refine lv_aload_n hx hb dX3_lay_20 rfl (lv_at hl 0 rfl) ?_
          refine lv_aload_n hx hb dX3_lay_21 rfl (lv_at hl 1 rfl) ?_
          obtain ⟨p11, hp11⟩ := kW_pos hko
          refine va_get (D := D) (ci := 0) (v := .ref ((ad (ke)))) (C := RX0) (T := TX0) (N := 4) hx hb hts (by decide +kernel) hown hK hP p11 (kW_get hp11 fL12_2) rfl 2 (by decide) (hts (.fieldLink RX3 60 "CaskYard$Bolt" "end" "[I") (by decide +kernel)) (fun _ h9 => h9) rfl dX3_lay_22 ?_
          refine lv_iload_n hx hb dX3_lay_25 rfl (lv_at hl 3 rfl) ?_
          obtain ⟨p12, hp12⟩ := kW_pos hke
          refine g_iald hx hb hK hP p12 0 (kW_get hp12 fL12_1) rfl (i) rfl (by omega) (by decide) dX3_lay_26 ?_
          refine g_top (y := (nI ((paD L i).2))) ((arrP_0 hAr (by omega)).2) ?_
          refine lv_aload_n hx hb dX3_lay_27 rfl (lv_at hl 1 rfl) ?_
          obtain ⟨p13, hp13⟩ := kW_pos hko
          refine va_get (D := D) (ci := 0) (v := .ref ((ad (kb)))) (C := RX0) (T := TX0) (N := 4) hx hb hts (by decide +kernel) hown hK hP p13 (kW_get hp13 fL12_2) rfl 1 (by decide) (hts (.fieldLink RX3 63 "CaskYard$Bolt" "begin" "[I") (by decide +kernel)) (fun _ h9 => h9) rfl dX3_lay_28 ?_
          refine lv_iload_n hx hb dX3_lay_31 rfl (lv_at hl 3 rfl) ?_
          obtain ⟨p14, hp14⟩ := kW_pos hkb
          refine g_iald hx hb hK hP p14 0 (kW_get hp14 fL12_0) rfl (i) rfl (by omega) (by decide) dX3_lay_32 ?_
          refine g_top (y := (nI ((paD L i).1))) ((arrP_0 hAr (by omega)).1) ?_
          refine g_isub_n hx hb dX3_lay_33 (by omega) ?_
          refine lv_iload_n hx hb dX3_lay_34 rfl (lv_at hl 2 rfl) ?_
          have hFc := w_free hD hS hA
          obtain ⟨p15, hp15⟩ := kW_pos h6
          refine va_callv (va_runV (As := [.int (nI (((paD L i).2) - ((paD L i).1))), .int (nI (bn))]) (rest := []) ⟨hx, hb, hml, hown, hts⟩ (c_X3_layPart l D cy H.size K ad Ec (h6) (nr) (bl) (PP ++ layL bl bn (L.take (i))) (hk_12_0) (h8) (g8) (hk_12_1) (h9) (g9) (hk_12_2) (h10) (g10) (hk_12_3) (h11) (g11) (hk_12_4) (h12) (g12) (hk_12_5) (h13) (g13) (hk_12_6) (h14) (g14) (hk_12_7) (SS2) (hsw) (hnr) (by omega) (((paD L i).2) - ((paD L i).1)) (bn) (by omega)) (cwV 2 hts gX3_lay_X3_layPart rfl rfl rfl (by decide +kernel) ⟨Nat.le_of_ble_eq_true rfl, Nat.le_of_ble_eq_true rfl⟩) ⟨wB2_blind, va_recv hK hP (ci := 3) (q0 := p15) rfl (kW_get hp15 hk_12_0), wB2_pre hP hK hD hN⟩ rfl rfl hl.1 rfl (lv_room (Nat.le_of_ble_eq_true rfl)) dX3_lay_35 ⟨Nat.le_of_ble_eq_true rfl, Nat.le_of_ble_eq_true rfl⟩) hS (fun q _ h => hFc q h) hFc (fun E_35 t_ H locs ht hvm hw_35 hB _ _ hS => ?_)
          obtain ⟨hP1, hK1, hD1⟩ := hB
          rw [ht] at hP1
          have hP := hP1
          have hD := hD1.weaken (fun _ _ _ h => hFc _ h)
          obtain ⟨g8_35, g9_35, g10_35, g11_35, g12_35, g13_35, g14_35, S_35, k35_0, k35_1, k35_2, k35_3, k35_4, k35_5, k35_6, k35_7, hO35, hsw35⟩ := hw_35
          have fC35_22 : E_35 (7) = .inl (cy 4, 8, .inr (.inr (.inr (.inr (f7))))) := (hO35 (7) (by omega) (by omega) (by omega) (by omega) (by omega) (by omega) (by omega) (by omega)).trans fL12_22
          have fC35_2 : E_35 (ko) = .inr (0, [.int (sp), .ref ((ad (kb))), .ref ((ad (ke))), .int (nI (L.length))]) := (hO35 (ko) (by omega) (by omega) (by omega) (by omega) (by omega) (by omega) (by omega) (by omega)).trans fL12_2
          have fC35_0 : E_35 (kb) = .inl (cy 0, 4, .inl (f)) := (hO35 (kb) (by omega) (by omega) (by omega) (by omega) (by omega) (by omega) (by omega) (by omega)).trans fL12_0
          have fC35_1 : E_35 (ke) = .inl (cy 0, 4, .inl (g)) := (hO35 (ke) (by omega) (by omega) (by omega) (by omega) (by omega) (by omega) (by omega) (by omega)).trans fL12_1
          have hlen : (PP ++ layL bl bn (L.take (i))).length + 1 = (PP ++ layL bl bn (L.take (i + 1))).length := by rw [layL_s (by omega)]; simp; omega
          rw [hlen] at k35_0
          rw [List.append_assoc, ← layL_s (by omega)] at hsw35
          refine lv_iinc (v := (nI (i + 1))) (lv' := [(3, .int (nI (i + 1))), (0, .ref ((ad (6)))), (1, .ref ((ad (ko)))), (2, .int (nI (bn)))]) hx hb dX3_lay_38 hl (k := 3) rfl (nI_add _ _) (by decide) rfl (fun ls hl => ?_)
          refine lv_goto (tgt := 12) hx hb dX3_lay_41 (by decide) ?_
          exact ih_12 (i + 1) (S_35) (g8_35) (g9_35) (g10_35) (g11_35) (g12_35) (g13_35) (g14_35) (E_35) H locs hP hD hS (by omega) hsw35 k35_0 k35_1 k35_2 k35_3 k35_4 k35_5 k35_6 k35_7 (fun j_ h0_ h1_ h2_ h3_ h4_ h5_ h6_ h7_ => by rw [hO35 j_ h0_ h1_ h2_ h3_ h4_ h5_ h6_ h7_, hO_12 j_ h0_ h1_ h2_ h3_ h4_ h5_ h6_ h7_]) (by omega) ls (lv_sub hl [1, 2, 3, 0] rfl)
    exact loop_12 _ (0) (SS) (f8) (f9) (f10) (f11) (f12) (f13) (f14) (E) s.heap [] hP hD hS (by omega) (by simpa [layL] using hsaw) hE6b hE8 hE9 hE10 hE11 hE12 hE13 hE14 (fun j_ h0_ h1_ h2_ h3_ h4_ h5_ h6_ h7_ => rfl) (Nat.lt_succ_self _) ls (lv_sub hl [1, 2, 3, 0] rfl)
  · skip
    exact W.vret hx hb hr (fun t ht hW => ⟨⟨E, rfl, ⟨PP, SS, bl, f7, f8, f9, f10, f11, f12, f13, f14, hE6, hE7, hE8, hE9, hE10, hE11, hE12, hE13, hE14, (fun j_ h0_ h1_ h2_ h3_ h4_ h5_ h6_ h7_ h8_ => rfl), hsaw, (fun h9 => by omega), (fun _ => ⟨rfl, rfl, rfl⟩)⟩, by rw [ht]; exact hP, va_K.moved hW.alike hK, hD⟩, hS.F ht⟩) hS.2.2 dX3_lay_9
set_option maxHeartbeats 4000000 in
set_option maxRecDepth 100000 in
theorem c_X3_choose (l : Launch) (D : va_G) (cy : Nat → ClassId) (sz : Nat) (K : List Nat) (ad : Nat → Nat) (E : Nat → va_E) (h6 : 6 ∈ K) (nr bl : Nat) (PP : List (Nat × Nat × Nat)) (hE6 : E 6 = .inr (3, [.ref ((ad (7))), .ref ((ad (8))), .ref ((ad (9))), .ref ((ad (10))), .ref ((ad (11))), .ref ((ad (12))), .ref ((ad (13))), .ref ((ad (14))), .ref ((ad (15))), .ref ((ad (16))), .ref ((ad (17))), .int (nI (bl)), .int (nI (PP.length)), .int (nI (nr))])) (h10 : 10 ∈ K) (f10 : Nat → Int32) (hE10 : E 10 = .inl (cy 0, 32, .inl (f10))) (h11 : 11 ∈ K) (f11 : Nat → Int32) (hE11 : E 11 = .inl (cy 0, 32, .inl (f11))) (h12 : 12 ∈ K) (f12 : Nat → Int32) (hE12 : E 12 = .inl (cy 0, 32, .inl (f12))) (h13 : 13 ∈ K) (f13 : Nat → Int32) (hE13 : E 13 = .inl (cy 0, 32, .inl (f13))) (h14 : 14 ∈ K) (f14 : Nat → Int32) (hE14 : E 14 = .inl (cy 0, 32, .inl (f14))) (h15 : 15 ∈ K) (f15 : Nat → Int32) (hE15 : E 15 = .inl (cy 1, 32, .inl (f15))) (h16 : 16 ∈ K) (f16 : Nat → Int32) (hE16 : E 16 = .inl (cy 0, 32, .inl (f16))) (h17 : 17 ∈ K) (f17 : Nat → Int32) (hE17 : E 17 = .inl (cy 0, 32, .inl (f17))) (hP32 : PP.length ≤ 32) (hl6 : ∀ i, i < PP.length → lnP PP i ≤ 600) (hnr : 1 ≤ nr ∧ nr ≤ 3000) (o : Nat → Nat) (SS : List Nat) (hs : srtP nr PP SS) (hR11 : ∀ i, i < PP.length → f11 i = nI (aWN nr (lnP PP i))) (hR12 : ∀ i, i < PP.length → f12 i = nI (mLN nr (lnP PP i))) (hR13 : ∀ i, i < PP.length → f13 i = nI (lsN nr (lnP PP i))) (hR14 : ∀ i, i < PP.length → f14 i = nI (SS.getD i 0)) (hR15 : ∀ i, i < PP.length → f15 i = nI (o i) ∧ o i ≤ 1) (q wl nl : Nat) (hq : q < PP.length) (hwn : wl + nl ≤ 100) (hR10 : f10 q = nI (lnP PP q)) (hgx : goodN (nr + 1) nr (opnL PP o (List.range PP.length)) (lnP PP q) wl nl (chN (nr + 1) nr (opnL PP o (List.range PP.length)) (lnP PP q) wl nl (min wl (lnP PP q / (nr + 1))))) : Met l yX3_choose wsX3_choose ({ frames := 2, cells := 0, slots := 0, locals := 67 } : Room) (va_Pc [.ref ((ad (6))), .int (nI (q)), .int (nI (wl)), .int (nI (nl))] (wB2 D cy sz (kW K ad E))) (va_Qv (fun (u : Nat → va_E) => u (16) = .inl (cy 0, 32, .inl (upd f16 q (nI (chN (nr + 1) nr (opnL PP o (List.range PP.length)) (lnP PP q) wl nl (min wl (lnP PP q / (nr + 1))))))) ∧ u (17) = .inl (cy 0, 32, .inl (upd f17 q (nI (min nl ((lnP PP q - chN (nr + 1) nr (opnL PP o (List.range PP.length)) (lnP PP q) wl nl (min wl (lnP PP q / (nr + 1))) * (nr + 1)) / nr))))) ∧ (∀ j_ : Nat, j_ ≠ 16 → j_ ≠ 17 → u j_ = E j_)) (fun u t => wE D cy (va_A (kW K ad E) sz) (kW K ad u) t) (va_A (kW K ad E) sz)) 0 0 (va_A (kW K ad E) sz) := by
  refine Met.ofW (cc := cX3_choose) (maxL := 6) (ret := none) (by decide) rfl ?_
  intro p e s m args below meth c s₁ B hml hv
  obtain ⟨rfl, ⟨hsz, hP, hK, hD0⟩, hN⟩ := hv
  have hx := B.exec
  have hb := B.bytes
  have hr := B.returns
  have hts := atoms_spec (ws := wsX3_choose) B.pre
  have hown : s.vm.findClass RX3 = some m.cls := findClass_of_methodNamed B.named
  have hlocks := B.notSynchronized
  subst hsz
  have hD := hD0.self (sz := s.heap.size)
  generalize hAe : va_A (kW K ad E) s.heap.size = A at hD ⊢
  have hA : ∀ q : Nat, s.heap.size ≤ q → A q := w_A hAe
  have hS : va_S A s.heap s.heap [] := va_S.rf
  have hnd := kW_nd hD
  have hl := lv_entry ([.ref ((ad (6))), .int (nI (q)), .int (nI (wl)), .int (nI (nl))]) (n := 6) (Nat.le_of_ble_eq_true rfl)
  rw [lg_entry_eq]
  generalize (lg_sl ([.ref ((ad (6))), .int (nI (q)), .int (nI (wl)), .int (nI (nl))]) ++ List.replicate (6 - (lg_sl ([.ref ((ad (6))), .int (nI (q)), .int (nI (wl)), .int (nI (nl))])).length) Slot.unset).toArray = ls at hl ⊢
  have hl : lv_has ls 6 [(0, .ref ((ad (6)))), (1, .int (nI (q))), (2, .int (nI (wl))), (3, .int (nI (nl)))] := hl
  obtain ⟨hh0, hhe⟩ : ∃ x, x = min wl (lnP PP q / (nr + 1)) := ⟨_, rfl⟩
  rw [← hhe] at hgx
  have hlq := hl6 q hq
  have hdv : lnP PP q / (nr + 1) ≤ 600 := Nat.le_trans (Nat.div_le_self _ _) hlq
  have hqw : hh0 ≤ wl := by rw [hhe]; exact Nat.min_le_left _ _
  have hqf : hh0 * (nr + 1) ≤ lnP PP q := by rw [hhe]; exact Nat.le_trans (Nat.mul_le_mul_right _ (Nat.min_le_right _ _)) (Nat.div_mul_le_self _ _)
  refine lv_aload_n hx hb dX3_choose_0 rfl (lv_at hl 0 rfl) ?_
  obtain ⟨p1, hp1⟩ := kW_pos h6
  refine va_get (D := D) (ci := 3) (v := .ref ((ad (11)))) (C := RX3) (T := TX3) (N := 14) hx hb hts (by decide +kernel) hown hK hP p1 (kW_get hp1 hE6) rfl 4 (by decide) (hts (.fieldLink RX3 27 "CaskYard$Saw" "asWide" "[I") (by decide +kernel)) (fun _ h9 => h9) rfl dX3_choose_1 ?_
  refine lv_iload_n hx hb dX3_choose_4 rfl (lv_at hl 1 rfl) ?_
  obtain ⟨p2, hp2⟩ := kW_pos h11
  refine g_iald hx hb hK hP p2 0 (kW_get hp2 hE11) rfl (q) rfl (by omega) (by decide) dX3_choose_5 ?_
  refine g_top (y := (nI ((lnP PP q) / (nr + 1)))) (hR11 q hq) ?_
  refine lv_iload_n hx hb dX3_choose_6 rfl (lv_at hl 2 rfl) ?_
  refine va_mmin hx hb (hml.trans hl.1.symm) hown (hts (.methodLink RX3 103 Lib.Math.min.name) (by decide +kernel)) (hts (.static Lib.Math.min.name) (by decide +kernel)) (hts (.initialized "java/lang/Math") (by decide +kernel)) (hts (.code Lib.Math.min.name Lib.Math.min.code 2 (some .int)) (by decide +kernel)) (Nat.le_of_ble_eq_true rfl) (Nat.le_of_ble_eq_true rfl) (Nat.le_of_ble_eq_true rfl) (Nat.le_of_ble_eq_true rfl) dX3_choose_7 ?_
  refine g_top (y := (nI (min ((lnP PP q) / (nr + 1)) (wl)))) (n_min (by omega) (by omega)) ?_
  refine g_top (y := (nI (hh0))) (congrArg nI ((Nat.min_comm _ _).trans hhe.symm)) ?_
  refine lv_istore (lv' := [(4, .int (nI (hh0))), (0, .ref ((ad (6)))), (1, .int (nI (q))), (2, .int (nI (wl))), (3, .int (nI (nl)))]) hx hb dX3_choose_10 hl (by decide) rfl (fun ls hl => ?_)
  have loop_12 : ∀ (n_ : Nat) (h : Nat), (h ≤ hh0) → (h * (nr + 1) ≤ lnP PP q) → (chN (nr + 1) nr (opnL PP o (List.range PP.length)) (lnP PP q) wl nl (hh0) = chN (nr + 1) nr (opnL PP o (List.range PP.length)) (lnP PP q) wl nl (h)) → (goodN (nr + 1) nr (opnL PP o (List.range PP.length)) (lnP PP q) wl nl (chN (nr + 1) nr (opnL PP o (List.range PP.length)) (lnP PP q) wl nl (h))) → h < n_ → ∀ (ls : Array Slot), lv_has ls 6 [(0, .ref ((ad (6)))), (1, .int (nI (q))), (2, .int (nI (wl))), (3, .int (nI (nl))), (4, .int (nI (h)))] → W p l e (headSpec wsX3_choose ({ frames := 2, cells := 0, slots := 0, locals := 67 } : Room)).room s m ([.ref ((ad (6))), .int (nI (q)), .int (nI (wl)), .int (nI (nl))] : List Value).toArray below meth c s.heap [] 0 0 (MQ below (va_Qv (fun (u : Nat → va_E) => u (16) = .inl (cy 0, 32, .inl (upd f16 q (nI (chN (nr + 1) nr (opnL PP o (List.range PP.length)) (lnP PP q) wl nl (min wl (lnP PP q / (nr + 1))))))) ∧ u (17) = .inl (cy 0, 32, .inl (upd f17 q (nI (min nl ((lnP PP q - chN (nr + 1) nr (opnL PP o (List.range PP.length)) (lnP PP q) wl nl (min wl (lnP PP q / (nr + 1))) * (nr + 1)) / nr))))) ∧ (∀ j_ : Nat, j_ ≠ 16 → j_ ≠ 17 → u j_ = E j_)) (fun u t => wE D cy A (kW K ad u) t) A) ([.ref ((ad (6))), .int (nI (q)), .int (nI (wl)), .int (nI (nl))] : List Value).toArray s 0 0 A) (F0 m 12 ls []) := by
    intro n_
    induction n_ with
    | zero => intro h hh hhw hch hgd hm_; exact absurd hm_ (Nat.not_lt_zero _)
    | succ n_ ih_12 =>
      intro h hh hhw hch hgd hm_ ls hl
      refine lv_iload hx hb dX3_choose_12 (lv_at hl 4 rfl) ?_
      refine g_if_lt (tgt := 84) hx hb dX3_choose_14 (by decide) (n_i (by omega)) (fun c_14 => ?_) (fun c_14 => ?_)
      · skip
        exfalso; omega
      · skip
        refine lv_iload_n hx hb dX3_choose_17 rfl (lv_at hl 3 rfl) ?_
        refine lv_aload_n hx hb dX3_choose_18 rfl (lv_at hl 0 rfl) ?_
        obtain ⟨p3, hp3⟩ := kW_pos h6
        refine va_get (D := D) (ci := 3) (v := .ref ((ad (10)))) (C := RX3) (T := TX3) (N := 14) hx hb hts (by decide +kernel) hown hK hP p3 (kW_get hp3 hE6) rfl 3 (by decide) (hts (.fieldLink RX3 24 "CaskYard$Saw" "length" "[I") (by decide +kernel)) (fun _ h9 => h9) rfl dX3_choose_19 ?_
        refine lv_iload_n hx hb dX3_choose_22 rfl (lv_at hl 1 rfl) ?_
        obtain ⟨p4, hp4⟩ := kW_pos h10
        refine g_iald hx hb hK hP p4 0 (kW_get hp4 hE10) rfl (q) rfl (by omega) (by decide) dX3_choose_23 ?_
        refine g_top (y := (nI (lnP PP q))) hR10 ?_
        refine lv_iload hx hb dX3_choose_24 (lv_at hl 4 rfl) ?_
        refine lv_aload_n hx hb dX3_choose_26 rfl (lv_at hl 0 rfl) ?_
        obtain ⟨p5, hp5⟩ := kW_pos h6
        refine va_get (D := D) (ci := 3) (v := .int (nI (nr))) (C := RX3) (T := TX3) (N := 14) hx hb hts (by decide +kernel) hown hK hP p5 (kW_get hp5 hE6) rfl 13 (by decide) (hts (.fieldLink RX3 56 "CaskYard$Saw" "narrow" "I") (by decide +kernel)) (fun _ h9 => h9) rfl dX3_choose_27 ?_
        refine lv_iconst (v := (nI (1))) hx hb dX3_choose_30 (by decide) ?_
        refine g_iadd_n hx hb dX3_choose_31 ?_
        refine g_imul_n hx hb dX3_choose_32 ?_
        refine g_isub_n hx hb dX3_choose_33 hhw ?_
        refine lv_aload_n hx hb dX3_choose_34 rfl (lv_at hl 0 rfl) ?_
        obtain ⟨p6, hp6⟩ := kW_pos h6
        refine va_get (D := D) (ci := 3) (v := .int (nI (nr))) (C := RX3) (T := TX3) (N := 14) hx hb hts (by decide +kernel) hown hK hP p6 (kW_get hp6 hE6) rfl 13 (by decide) (hts (.fieldLink RX3 56 "CaskYard$Saw" "narrow" "I") (by decide +kernel)) (fun _ h9 => h9) rfl dX3_choose_35 ?_
        refine vp_callSi (va_Run.run (va_runSN (As := [.int (nI ((lnP PP q) - (h * (nr + 1)))), .int (nI (nr))]) (rest := [.int (nI (nl))]) ⟨hx, hb, hml, hown, hts⟩ (c_X4_parted l  ((lnP PP q) - (h * (nr + 1))) (nr) (by omega) (by omega) (by omega)) ⟨va_cnB 2 hts gX3_choose_X4_parted_n70 rfl rfl rfl hN.2.1 (hts (.initialized RX4) (by decide +kernel)) (by decide +kernel) ⟨Nat.le_of_ble_eq_true rfl, Nat.le_of_ble_eq_true rfl⟩, hts (.static yX4_parted) (by decide +kernel), trivial⟩ ⟨nB_blind, nB_pre⟩ rfl rfl hl.1 rfl (lv_room (Nat.le_of_ble_eq_true rfl)) dX3_choose_38 ⟨Nat.le_of_ble_eq_true rfl, Nat.le_of_ble_eq_true rfl⟩)) (fun r_38 hr_38 => ?_)
        subst hr_38
        have hdq : (lnP PP q - h * (nr + 1)) / nr ≤ 600 := Nat.le_trans (Nat.div_le_self _ _) (by omega)
        obtain ⟨m9, hm9⟩ : ∃ x, x = min nl ((lnP PP q - h * (nr + 1)) / nr) := ⟨_, rfl⟩
        have hm9l : m9 ≤ nl := by rw [hm9]; exact Nat.min_le_left _ _
        refine va_mmin hx hb (hml.trans hl.1.symm) hown (hts (.methodLink RX3 103 Lib.Math.min.name) (by decide +kernel)) (hts (.static Lib.Math.min.name) (by decide +kernel)) (hts (.initialized "java/lang/Math") (by decide +kernel)) (hts (.code Lib.Math.min.name Lib.Math.min.code 2 (some .int)) (by decide +kernel)) (Nat.le_of_ble_eq_true rfl) (Nat.le_of_ble_eq_true rfl) (Nat.le_of_ble_eq_true rfl) (Nat.le_of_ble_eq_true rfl) dX3_choose_41 ?_
        refine g_top (y := (nI (min (nl) (((lnP PP q) - (h * (nr + 1))) / (nr))))) (n_min (by omega) (by omega)) ?_
        refine g_top (y := (nI (m9))) (congrArg nI hm9.symm) ?_
        refine lv_istore (lv' := [(5, .int (nI (m9))), (0, .ref ((ad (6)))), (1, .int (nI (q))), (2, .int (nI (wl))), (3, .int (nI (nl))), (4, .int (nI (h)))]) hx hb dX3_choose_44 hl (by decide) rfl (fun ls hl => ?_)
        refine lv_aload_n hx hb dX3_choose_46 rfl (lv_at hl 1 rfl) ?_
        refine lv_iload_n hx hb dX3_choose_47 rfl (lv_at hl 3 rfl) ?_
        refine lv_iload hx hb dX3_choose_48 (lv_at hl 5 rfl) ?_
        refine g_isub_n hx hb dX3_choose_50 (by omega) ?_
        refine lv_iload_n hx hb dX3_choose_51 rfl (lv_at hl 4 rfl) ?_
        refine lv_iload hx hb dX3_choose_52 (lv_at hl 0 rfl) ?_
        refine g_isub_n hx hb dX3_choose_54 (by omega) ?_
        obtain ⟨p7, hp7⟩ := kW_pos h6
        refine vp_callSi (va_Run.run (va_runV (As := [.int (nI (wl - h)), .int (nI (nl - m9))]) (rest := []) ⟨hx, hb, hml, hown, hts⟩ (c_X3_canGive l D cy K ad E (h6) (nr) (bl) (PP) (hE6) (h11) (f11) (hE11) (h12) (f12) (hE12) (h13) (f13) (hE13) (h14) (f14) (hE14) (h15) (f15) (hE15) (hP32) (hl6) (hnr) (o) (SS) (hs) (hR11) (hR12) (hR13) (hR14) (hR15) (wl - h) (nl - m9) (by omega)) (cwV 2 hts gX3_choose_X3_canGive rfl rfl rfl (by decide +kernel) ⟨Nat.le_of_ble_eq_true rfl, Nat.le_of_ble_eq_true rfl⟩) ⟨rB2_blind, va_recv hK hP (ci := 3) (q0 := p7) rfl (kW_get hp7 hE6), (rB2_pre hP hK hN)⟩ rfl rfl hl.1 rfl (lv_room (Nat.le_of_ble_eq_true rfl)) dX3_choose_55 ⟨Nat.le_of_ble_eq_true rfl, Nat.le_of_ble_eq_true rfl⟩)) (fun r_55 hr_55 => ?_)
        subst hr_55
        refine g_ifeq_b (tgt := 78) hx hb dX3_choose_58 (by decide) (fun c_58 => ?_) (fun c_58 => ?_)
        · skip
          have hng : ¬ goodN (nr + 1) nr (opnL PP o (List.range PP.length)) (lnP PP q) wl nl h := fun q9 => c_58 (by rw [hm9]; exact q9)
          have hpos : 0 < h := by
            rcases Nat.eq_zero_or_pos h with e9 | e9
            · subst e9; exact absurd hgd hng
            · exact e9
          have hm1w : (h - 1) * (nr + 1) ≤ lnP PP q := Nat.le_trans (Nat.mul_le_mul_right _ (Nat.sub_le _ _)) hhw
          refine lv_iinc (v := (nI (h - 1))) (lv' := [(4, .int (nI (h - 1))), (5, .int (nI (m9))), (0, .ref ((ad (6)))), (1, .int (nI (q))), (2, .int (nI (wl))), (3, .int (nI (nl)))]) hx hb dX3_choose_78 hl (k := 5) rfl ((zI_add ((h : Nat) : Int) (-1)).trans (z_n (by omega))) (by decide) rfl (fun ls hl => ?_)
          refine lv_goto (tgt := 12) hx hb dX3_choose_81 (by decide) ?_
          exact ih_12 (h - 1)  (by omega) hm1w (hch.trans (chN_miss hng hpos)) (by rw [← chN_miss hng hpos]; exact hgd) (by omega) ls (lv_sub hl [2, 3, 4, 5, 0] rfl)
        · skip
          have hgd2 : goodN (nr + 1) nr (opnL PP o (List.range PP.length)) (lnP PP q) wl nl h := by show ((nl - min nl _ : Nat) : Int) ≤ _; rw [← hm9]; exact c_58
          have hce := hch.trans (chN_hit hgd2)
          refine lv_aload_n hx hb dX3_choose_61 rfl (lv_at hl 1 rfl) ?_
          obtain ⟨p8, hp8⟩ := kW_pos h6
          refine va_get (D := D) (ci := 3) (v := .ref ((ad (16)))) (C := RX3) (T := TX3) (N := 14) hx hb hts (by decide +kernel) hown hK hP p8 (kW_get hp8 hE6) rfl 9 (by decide) (hts (.fieldLink RX3 43 "CaskYard$Saw" "wideCut" "[I") (by decide +kernel)) (fun _ h9 => h9) rfl dX3_choose_62 ?_
          refine lv_iload_n hx hb dX3_choose_65 rfl (lv_at hl 2 rfl) ?_
          refine lv_iload hx hb dX3_choose_66 (lv_at hl 5 rfl) ?_
          obtain ⟨p9, hp9⟩ := kW_pos h16
          refine g_iast hx hb hK hP hD hS p9 0 (kW_get hp9 hE16) rfl (q) rfl (by omega) (by decide) dX3_choose_68 (fun H locs hP hD hS => ?_)
          rw [kW_set hnd hp9] at hP hD
          obtain ⟨Ew10, hEw10⟩ : ∃ G, G = va_up E (16) (.inl (cy 0, 32, .inl (upd (f16) (q) (nI (h))))) := ⟨_, rfl⟩
          have eEw10_23 : Ew10 (16) = .inl (cy 0, 32, .inl (upd (f16) (q) (nI (h)))) := by rw [hEw10]; exact va_up_self _ _ _
          rw [← hEw10] at hP hD
          refine lv_aload_n hx hb dX3_choose_69 rfl (lv_at hl 1 rfl) ?_
          obtain ⟨p11, hp11⟩ := kW_pos h6
          refine va_get (D := D) (ci := 3) (v := .ref ((ad (17)))) (C := RX3) (T := TX3) (N := 14) hx hb hts (by decide +kernel) hown hK hP p11 (kW_get hp11 (show Ew10 (6) = .inr (3, [.ref ((ad (7))), .ref ((ad (8))), .ref ((ad (9))), .ref ((ad (10))), .ref ((ad (11))), .ref ((ad (12))), .ref ((ad (13))), .ref ((ad (14))), .ref ((ad (15))), .ref ((ad (16))), .ref ((ad (17))), .int (nI (bl)), .int (nI (PP.length)), .int (nI (nr))]) by rw [hEw10, va_up_ne _ _ (by omega)]; exact hE6)) rfl 10 (by decide) (hts (.fieldLink RX3 46 "CaskYard$Saw" "narrowCut" "[I") (by decide +kernel)) (fun _ h9 => h9) rfl dX3_choose_70 ?_
          refine lv_iload_n hx hb dX3_choose_73 rfl (lv_at hl 2 rfl) ?_
          refine lv_iload hx hb dX3_choose_74 (lv_at hl 0 rfl) ?_
          obtain ⟨p12, hp12⟩ := kW_pos h17
          refine g_iast hx hb hK hP hD hS p12 0 (kW_get hp12 (show Ew10 (17) = .inl (cy 0, 32, .inl (f17)) by rw [hEw10, va_up_ne _ _ (by omega)]; exact hE17)) rfl (q) rfl (by omega) (by decide) dX3_choose_76 (fun H locs hP hD hS => ?_)
          rw [kW_set hnd hp12] at hP hD
          obtain ⟨Ew13, hEw13⟩ : ∃ G, G = va_up Ew10 (17) (.inl (cy 0, 32, .inl (upd (f17) (q) (nI (m9))))) := ⟨_, rfl⟩
          have eEw13_24 : Ew13 (17) = .inl (cy 0, 32, .inl (upd (f17) (q) (nI (m9)))) := by rw [hEw13]; exact va_up_self _ _ _
          have eEw13_23 : Ew13 (16) = .inl (cy 0, 32, .inl (upd (f16) (q) (nI (h)))) := by rw [hEw13, va_up_ne _ _ (by omega)]; exact eEw10_23
          rw [← hEw13] at hP hD
          exact W.vret hx hb hr (fun t ht hW => ⟨⟨Ew13, rfl, ⟨(by rw [← hhe, hce]; exact eEw13_23), (by rw [← hhe, hce, ← hm9]; exact eEw13_24), (fun j_ h0_ h1_ => by rw [hEw13, va_up_ne _ _ h1_, hEw10, va_up_ne _ _ h0_])⟩, by rw [ht]; exact hP, va_K.moved hW.alike hK, hD⟩, hS.F ht⟩) hS.2.2 dX3_choose_77
  exact loop_12 _ (hh0)  (Nat.le_refl _) hqf rfl hgx (Nat.lt_succ_self _) ls (lv_sub hl [1, 2, 3, 4, 0] rfl)
set_option maxHeartbeats 4000000 in
set_option maxRecDepth 100000 in
theorem c_X3_shortenBolt (l : Launch) (D : va_G) (cy : Nat → ClassId) (sz : Nat) (K : List Nat) (ad : Nat → Nat) (E : Nat → va_E) (h6 : 6 ∈ K) (nr bl : Nat) (PP : List (Nat × Nat × Nat)) (hE6 : E 6 = .inr (3, [.ref ((ad (7))), .ref ((ad (8))), .ref ((ad (9))), .ref ((ad (10))), .ref ((ad (11))), .ref ((ad (12))), .ref ((ad (13))), .ref ((ad (14))), .ref ((ad (15))), .ref ((ad (16))), .ref ((ad (17))), .int (nI (bl)), .int (nI (PP.length)), .int (nI (nr))])) (h16 : 16 ∈ K) (f16 : Nat → Int32) (hE16 : E 16 = .inl (cy 0, 32, .inl (f16))) (h17 : 17 ∈ K) (f17 : Nat → Int32) (hE17 : E 17 = .inl (cy 0, 32, .inl (f17))) (hP32 : PP.length ≤ 32) (hnr : 1 ≤ nr ∧ nr ≤ 3000) (ko kb ke : Nat) (hko : ko ∈ K) (hkb : kb ∈ K) (hke : ke ∈ K) (hne : ko ≠ kb ∧ ko ≠ ke ∧ kb ≠ ke ∧ 21 ≤ ko ∧ 21 ≤ kb ∧ 21 ≤ ke) (sp : Int32) (L : List (Nat × Nat)) (f g : Nat → Int32) (hEko : E ko = cellB (ad kb) (ad ke) sp (nI (L.length))) (hEkb : E kb = rowI cy 4 f) (hEke : E ke = rowI cy 4 g) (hL : L.length ≤ 4) (hAr : arrP f g 0 L) (hq : ∀ q ∈ L, q.1 < q.2 ∧ q.2 ≤ 600) (hc mc : Nat → Nat) (hR16 : ∀ i, i < PP.length → f16 i = nI (hc i)) (hR17 : ∀ i, i < PP.length → f17 i = nI (mc i)) (fr : Nat) (hfr : fr + L.length ≤ PP.length) (hcut : ∀ i, i < L.length → (paD L i).1 + (hc (fr + i) * (nr + 1) + mc (fr + i) * nr) ≤ (paD L i).2) : Met l yX3_shortenBolt wsX3_shortenBolt ({ frames := 2, cells := 0, slots := 0, locals := 44 } : Room) (va_Pc [.ref ((ad (6))), .ref ((ad (ko))), .int (nI (fr))] (wB2 D cy sz (kW K ad E))) (va_Qi (fun (r : Int32) (u : Nat → va_E) => ∃ f' g', u (ko) = .inr (0, [.int (sp), .ref ((ad (kb))), .ref ((ad (ke))), .int (nI ((dropP (cutPL L (fun i => hc (fr + i) * (nr + 1) + mc (fr + i) * nr))).length))]) ∧ u (kb) = .inl (cy 0, 4, .inl (f')) ∧ u (ke) = .inl (cy 0, 4, .inl (g')) ∧ (∀ j_ : Nat, j_ ≠ ko → j_ ≠ kb → j_ ≠ ke → u j_ = E j_) ∧ arrP f' g' 0 (dropP (cutPL L (fun i => hc (fr + i) * (nr + 1) + mc (fr + i) * nr))) ∧ r = nI (fr + L.length)) (fun u t => wE D cy (va_A (kW K ad E) sz) (kW K ad u) t) (va_A (kW K ad E) sz)) 0 0 (va_A (kW K ad E) sz) := by
  refine Met.ofW (cc := cX3_shortenBolt) (maxL := 5) (ret := (some .int)) (by decide) rfl ?_
  intro p e s m args below meth c s₁ B hml hv
  obtain ⟨rfl, ⟨hsz, hP, hK, hD0⟩, hN⟩ := hv
  have hx := B.exec
  have hb := B.bytes
  have hr := B.returns
  have hts := atoms_spec (ws := wsX3_shortenBolt) B.pre
  have hown : s.vm.findClass RX3 = some m.cls := findClass_of_methodNamed B.named
  have hlocks := B.notSynchronized
  subst hsz
  have hD := hD0.self (sz := s.heap.size)
  generalize hAe : va_A (kW K ad E) s.heap.size = A at hD ⊢
  have hA : ∀ q : Nat, s.heap.size ≤ q → A q := w_A hAe
  have hS : va_S A s.heap s.heap [] := va_S.rf
  have hnd := kW_nd hD
  have hl := lv_entry ([.ref ((ad (6))), .ref ((ad (ko))), .int (nI (fr))]) (n := 5) (Nat.le_of_ble_eq_true rfl)
  rw [lg_entry_eq]
  generalize (lg_sl ([.ref ((ad (6))), .ref ((ad (ko))), .int (nI (fr))]) ++ List.replicate (5 - (lg_sl ([.ref ((ad (6))), .ref ((ad (ko))), .int (nI (fr))])).length) Slot.unset).toArray = ls at hl ⊢
  have hl : lv_has ls 5 [(0, .ref ((ad (6)))), (1, .ref ((ad (ko)))), (2, .int (nI (fr)))] := hl
  refine lv_iload_n hx hb dX3_shortenBolt_0 rfl (lv_at hl 2 rfl) ?_
  refine lv_istore_n (lv' := [(3, .int (nI (fr))), (0, .ref ((ad (6)))), (1, .ref ((ad (ko)))), (2, .int (nI (fr)))]) hx hb dX3_shortenBolt_1 rfl hl (by decide) rfl (fun ls hl => ?_)
  refine lv_iconst (v := (nI (0))) hx hb dX3_shortenBolt_2 (by decide) ?_
  refine lv_istore (lv' := [(4, .int (nI (0))), (3, .int (nI (fr))), (0, .ref ((ad (6)))), (1, .ref ((ad (ko)))), (2, .int (nI (fr)))]) hx hb dX3_shortenBolt_3 hl (by decide) rfl (fun ls hl => ?_)
  have loop_5 : ∀ (n_ : Nat) (i : Nat) (g9 : Nat → Int32) (Ec : Nat → va_E) (H : Heap) (locs : List Loc), va_P D vwCl (kW K ad Ec) H → va_D A (kW K ad Ec) → va_S A s.heap H locs → (i ≤ L.length) → (∀ j, g9 j = if j < i then nI ((paD L j).1 + (hc (fr + j) * (nr + 1) + mc (fr + j) * nr)) else f j) → (Ec (kb) = .inl (cy 0, 4, .inl (g9))) → (∀ j_ : Nat, j_ ≠ kb → Ec j_ = E j_) → L.length - i < n_ → ∀ (ls : Array Slot), lv_has ls 5 [(0, .ref ((ad (6)))), (1, .ref ((ad (ko)))), (3, .int (nI (fr + i))), (4, .int (nI (i)))] → W p l e (headSpec wsX3_shortenBolt ({ frames := 2, cells := 0, slots := 0, locals := 44 } : Room)).room s m ([.ref ((ad (6))), .ref ((ad (ko))), .int (nI (fr))] : List Value).toArray below meth c H locs 0 0 (MQ below (va_Qi (fun (r : Int32) (u : Nat → va_E) => ∃ f' g', u (ko) = .inr (0, [.int (sp), .ref ((ad (kb))), .ref ((ad (ke))), .int (nI ((dropP (cutPL L (fun i => hc (fr + i) * (nr + 1) + mc (fr + i) * nr))).length))]) ∧ u (kb) = .inl (cy 0, 4, .inl (f')) ∧ u (ke) = .inl (cy 0, 4, .inl (g')) ∧ (∀ j_ : Nat, j_ ≠ ko → j_ ≠ kb → j_ ≠ ke → u j_ = E j_) ∧ arrP f' g' 0 (dropP (cutPL L (fun i => hc (fr + i) * (nr + 1) + mc (fr + i) * nr))) ∧ r = nI (fr + L.length)) (fun u t => wE D cy A (kW K ad u) t) A) ([.ref ((ad (6))), .ref ((ad (ko))), .int (nI (fr))] : List Value).toArray s 0 0 A) (F0 m 5 ls []) := by
    intro n_
    induction n_ with
    | zero => intro i g9 Ec H locs hP hD hS hi hg9 hk_5_0 hO_5 hm_; exact absurd hm_ (Nat.not_lt_zero _)
    | succ n_ ih_5 =>
      intro i g9 Ec H locs hP hD hS hi hg9 hk_5_0 hO_5 hm_ ls hl
      have fL5_13 : Ec (6) = .inr (3, [.ref ((ad (7))), .ref ((ad (8))), .ref ((ad (9))), .ref ((ad (10))), .ref ((ad (11))), .ref ((ad (12))), .ref ((ad (13))), .ref ((ad (14))), .ref ((ad (15))), .ref ((ad (16))), .ref ((ad (17))), .int (nI (bl)), .int (nI (PP.length)), .int (nI (nr))]) := (hO_5 (6) (by omega)).trans hE6
      have fL5_23 : Ec (16) = .inl (cy 0, 32, .inl (f16)) := (hO_5 (16) (by omega)).trans hE16
      have fL5_24 : Ec (17) = .inl (cy 0, 32, .inl (f17)) := (hO_5 (17) (by omega)).trans hE17
      have fL5_2 : Ec (ko) = .inr (0, [.int (sp), .ref ((ad (kb))), .ref ((ad (ke))), .int (nI (L.length))]) := (hO_5 (ko) (by omega)).trans hEko
      have fL5_1 : Ec (ke) = .inl (cy 0, 4, .inl (g)) := (hO_5 (ke) (by omega)).trans hEke
      refine lv_iload hx hb dX3_shortenBolt_5 (lv_at hl 3 rfl) ?_
      refine lv_aload_n hx hb dX3_shortenBolt_7 rfl (lv_at hl 1 rfl) ?_
      obtain ⟨p1, hp1⟩ := kW_pos hko
      refine va_get (D := D) (ci := 0) (v := .int (nI (L.length))) (C := RX0) (T := TX0) (N := 4) hx hb hts (by decide +kernel) hown hK hP p1 (kW_get hp1 fL5_2) rfl 3 (by decide) (hts (.fieldLink RX3 59 "CaskYard$Bolt" "parts" "I") (by decide +kernel)) (fun _ h9 => h9) rfl dX3_shortenBolt_8 ?_
      refine g_icmp_ge (tgt := 66) hx hb dX3_shortenBolt_11 (by decide) (n_i (by omega)) (n_i (by omega)) (fun c_11 => ?_) (fun c_11 => ?_)
      · skip
        have hii : i = L.length := by omega
        refine lv_aload_n hx hb dX3_shortenBolt_66 rfl (lv_at hl 1 rfl) ?_
        have hcl := cutPL_len L (fun i => hc (fr + i) * (nr + 1) + mc (fr + i) * nr)
        have hFc := w_free hD hS hA
        obtain ⟨p2, hp2⟩ := kW_pos hko
        refine va_callv (va_runV (As := []) (rest := []) ⟨hx, hb, hml, hown, hts⟩ (c_X0_dropEmptyParts l D cy H.size K ad Ec (ko) (kb) (ke) (hko) (hkb) (hke) (⟨by omega, by omega, by omega⟩) (sp) (cutPL L (fun i => hc (fr + i) * (nr + 1) + mc (fr + i) * nr)) (g9) (g) (by rw [hcl]; exact fL5_2) (hk_5_0) (fL5_1) (by rw [hcl]; exact hL) (cut_arr hAr (by rw [← hii]; exact hg9)) (cut_bd hq hcut)) (cwV 0 hts gX3_shortenBolt_X0_dropEmptyParts rfl rfl rfl (by decide +kernel) ⟨Nat.le_of_ble_eq_true rfl, Nat.le_of_ble_eq_true rfl⟩) ⟨wB2_blind, va_recv hK hP (ci := 0) (q0 := p2) rfl (kW_get hp2 fL5_2), wB2_pre hP hK hD hN⟩ rfl rfl hl.1 rfl (lv_room (Nat.le_of_ble_eq_true rfl)) dX3_shortenBolt_67 ⟨Nat.le_of_ble_eq_true rfl, Nat.le_of_ble_eq_true rfl⟩) hS (fun q _ h => hFc q h) hFc (fun E_67 t_ H locs ht hvm hw_67 hB _ _ hS => ?_)
        obtain ⟨hP1, hK1, hD1⟩ := hB
        rw [ht] at hP1
        have hP := hP1
        have hD := hD1.weaken (fun _ _ _ h => hFc _ h)
        obtain ⟨f67, g67, k67_0, k67_1, k67_2, hO67, ha67⟩ := hw_67
        have fC67_13 : E_67 (6) = .inr (3, [.ref ((ad (7))), .ref ((ad (8))), .ref ((ad (9))), .ref ((ad (10))), .ref ((ad (11))), .ref ((ad (12))), .ref ((ad (13))), .ref ((ad (14))), .ref ((ad (15))), .ref ((ad (16))), .ref ((ad (17))), .int (nI (bl)), .int (nI (PP.length)), .int (nI (nr))]) := (hO67 (6) (by omega) (by omega) (by omega)).trans fL5_13
        have fC67_23 : E_67 (16) = .inl (cy 0, 32, .inl (f16)) := (hO67 (16) (by omega) (by omega) (by omega)).trans fL5_23
        have fC67_24 : E_67 (17) = .inl (cy 0, 32, .inl (f17)) := (hO67 (17) (by omega) (by omega) (by omega)).trans fL5_24
        refine lv_iload_n hx hb dX3_shortenBolt_70 rfl (lv_at hl 2 rfl) ?_
        exact W.iret (v := (nI (fr + i))) hx hb hr (fun t ht hW => ⟨⟨_, E_67, rfl, ⟨f67, g67, k67_0, k67_1, k67_2, (fun j_ h0_ h1_ h2_ => by rw [hO67 j_ h0_ h1_ h2_, hO_5 j_ h1_]), ha67, by rw [hii]⟩, by rw [ht]; exact hP, va_K.moved hW.alike hK, hD⟩, hS.F ht⟩) hS.2.2 dX3_shortenBolt_71
      · skip
        refine lv_iload_n hx hb dX3_shortenBolt_14 rfl (lv_at hl 2 rfl) ?_
        refine lv_aload_n hx hb dX3_shortenBolt_15 rfl (lv_at hl 0 rfl) ?_
        obtain ⟨p3, hp3⟩ := kW_pos h6
        refine va_get (D := D) (ci := 3) (v := .int (nI (PP.length))) (C := RX3) (T := TX3) (N := 14) hx hb hts (by decide +kernel) hown hK hP p3 (kW_get hp3 fL5_13) rfl 12 (by decide) (hts (.fieldLink RX3 53 "CaskYard$Saw" "parts" "I") (by decide +kernel)) (fun _ h9 => h9) rfl dX3_shortenBolt_16 ?_
        refine g_icmp_ge (tgt := 66) hx hb dX3_shortenBolt_19 (by decide) (n_i (by omega)) (n_i (by omega)) (fun c_19 => ?_) (fun c_19 => ?_)
        · skip
          exfalso; omega
        · skip
          refine lv_aload_n hx hb dX3_shortenBolt_22 rfl (lv_at hl 1 rfl) ?_
          obtain ⟨p4, hp4⟩ := kW_pos hko
          refine va_get (D := D) (ci := 0) (v := .ref ((ad (kb)))) (C := RX0) (T := TX0) (N := 4) hx hb hts (by decide +kernel) hown hK hP p4 (kW_get hp4 fL5_2) rfl 1 (by decide) (hts (.fieldLink RX3 63 "CaskYard$Bolt" "begin" "[I") (by decide +kernel)) (fun _ h9 => h9) rfl dX3_shortenBolt_23 ?_
          refine lv_iload hx hb dX3_shortenBolt_26 (lv_at hl 3 rfl) ?_
          refine lv_dup2_11 hx hb dX3_shortenBolt_28 rfl rfl ?_
          obtain ⟨p5, hp5⟩ := kW_pos hkb
          refine g_iald hx hb hK hP p5 0 (kW_get hp5 hk_5_0) rfl (i) rfl (by omega) (by decide) dX3_shortenBolt_29 ?_
          refine g_top (y := (nI ((paD L i).1))) ((hg9 i).trans ((if_neg (by omega)).trans (arrP_0 hAr (by omega)).1)) ?_
          refine lv_aload_n hx hb dX3_shortenBolt_30 rfl (lv_at hl 0 rfl) ?_
          obtain ⟨p6, hp6⟩ := kW_pos h6
          refine va_get (D := D) (ci := 3) (v := .ref ((ad (16)))) (C := RX3) (T := TX3) (N := 14) hx hb hts (by decide +kernel) hown hK hP p6 (kW_get hp6 fL5_13) rfl 9 (by decide) (hts (.fieldLink RX3 43 "CaskYard$Saw" "wideCut" "[I") (by decide +kernel)) (fun _ h9 => h9) rfl dX3_shortenBolt_31 ?_
          refine lv_iload_n hx hb dX3_shortenBolt_34 rfl (lv_at hl 2 rfl) ?_
          obtain ⟨p7, hp7⟩ := kW_pos h16
          refine g_iald hx hb hK hP p7 0 (kW_get hp7 fL5_23) rfl (fr + i) rfl (by omega) (by decide) dX3_shortenBolt_35 ?_
          refine g_top (y := (nI (hc (fr + i)))) (hR16 (fr + i) (by omega)) ?_
          refine lv_aload_n hx hb dX3_shortenBolt_36 rfl (lv_at hl 0 rfl) ?_
          obtain ⟨p8, hp8⟩ := kW_pos h6
          refine va_get (D := D) (ci := 3) (v := .int (nI (nr))) (C := RX3) (T := TX3) (N := 14) hx hb hts (by decide +kernel) hown hK hP p8 (kW_get hp8 fL5_13) rfl 13 (by decide) (hts (.fieldLink RX3 56 "CaskYard$Saw" "narrow" "I") (by decide +kernel)) (fun _ h9 => h9) rfl dX3_shortenBolt_37 ?_
          refine lv_iconst (v := (nI (1))) hx hb dX3_shortenBolt_40 (by decide) ?_
          refine g_iadd_n hx hb dX3_shortenBolt_41 ?_
          refine g_imul_n hx hb dX3_shortenBolt_42 ?_
          refine lv_aload_n hx hb dX3_shortenBolt_43 rfl (lv_at hl 0 rfl) ?_
          obtain ⟨p9, hp9⟩ := kW_pos h6
          refine va_get (D := D) (ci := 3) (v := .ref ((ad (17)))) (C := RX3) (T := TX3) (N := 14) hx hb hts (by decide +kernel) hown hK hP p9 (kW_get hp9 fL5_13) rfl 10 (by decide) (hts (.fieldLink RX3 46 "CaskYard$Saw" "narrowCut" "[I") (by decide +kernel)) (fun _ h9 => h9) rfl dX3_shortenBolt_44 ?_
          refine lv_iload_n hx hb dX3_shortenBolt_47 rfl (lv_at hl 2 rfl) ?_
          obtain ⟨p10, hp10⟩ := kW_pos h17
          refine g_iald hx hb hK hP p10 0 (kW_get hp10 fL5_24) rfl (fr + i) rfl (by omega) (by decide) dX3_shortenBolt_48 ?_
          refine g_top (y := (nI (mc (fr + i)))) (hR17 (fr + i) (by omega)) ?_
          refine lv_aload_n hx hb dX3_shortenBolt_49 rfl (lv_at hl 0 rfl) ?_
          obtain ⟨p11, hp11⟩ := kW_pos h6
          refine va_get (D := D) (ci := 3) (v := .int (nI (nr))) (C := RX3) (T := TX3) (N := 14) hx hb hts (by decide +kernel) hown hK hP p11 (kW_get hp11 fL5_13) rfl 13 (by decide) (hts (.fieldLink RX3 56 "CaskYard$Saw" "narrow" "I") (by decide +kernel)) (fun _ h9 => h9) rfl dX3_shortenBolt_50 ?_
          refine g_imul_n hx hb dX3_shortenBolt_53 ?_
          refine g_iadd_n hx hb dX3_shortenBolt_54 ?_
          refine g_iadd_n hx hb dX3_shortenBolt_55 ?_
          obtain ⟨p12, hp12⟩ := kW_pos hkb
          refine g_iast hx hb hK hP hD hS p12 0 (kW_get hp12 hk_5_0) rfl (i) rfl (by omega) (by decide) dX3_shortenBolt_56 (fun H locs hP hD hS => ?_)
          rw [kW_set hnd hp12] at hP hD
          obtain ⟨Ew13, hEw13⟩ : ∃ G, G = va_up Ec (kb) (.inl (cy 0, 4, .inl (upd (g9) (i) (nI (((paD L i).1) + (((hc (fr + i)) * (nr + 1)) + ((mc (fr + i)) * nr))))))) := ⟨_, rfl⟩
          have eEw13_0 : Ew13 (kb) = .inl (cy 0, 4, .inl (upd (g9) (i) (nI (((paD L i).1) + (((hc (fr + i)) * (nr + 1)) + ((mc (fr + i)) * nr)))))) := by rw [hEw13]; exact va_up_self _ _ _
          rw [← hEw13] at hP hD
          refine lv_iinc (v := (nI (fr + i + 1))) (lv' := [(3, .int (nI (fr + i + 1))), (0, .ref ((ad (6)))), (1, .ref ((ad (ko)))), (4, .int (nI (i)))]) hx hb dX3_shortenBolt_57 hl (k := 2) rfl (nI_add _ _) (by decide) rfl (fun ls hl => ?_)
          refine lv_iinc (v := (nI (i + 1))) (lv' := [(4, .int (nI (i + 1))), (3, .int (nI (fr + i + 1))), (0, .ref ((ad (6)))), (1, .ref ((ad (ko))))]) hx hb dX3_shortenBolt_60 hl (k := 3) rfl (nI_add _ _) (by decide) rfl (fun ls hl => ?_)
          refine lv_goto (tgt := 5) hx hb dX3_shortenBolt_63 (by decide) ?_
          exact ih_5 (i + 1) (upd (g9) (i) (nI (((paD L i).1) + (((hc (fr + i)) * (nr + 1)) + ((mc (fr + i)) * nr))))) (Ew13) H locs hP hD hS (by omega) (cut_row hg9) eEw13_0 (fun j_ h0_ => by rw [hEw13, va_up_ne _ _ h0_, hO_5 j_ h0_]) (by omega) ls (lv_sub hl [2, 3, 1, 0] rfl)
  exact loop_5 _ (0) (f) (E) s.heap [] hP hD hS (by omega) (fun j => (if_neg (by omega)).symm) hEkb (fun j_ h0_ => rfl) (Nat.lt_succ_self _) ls (lv_sub hl [2, 3, 1, 0] rfl)
