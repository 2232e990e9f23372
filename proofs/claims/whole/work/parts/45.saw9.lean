set_option maxHeartbeats 4000000 in
set_option maxRecDepth 100000 in
theorem c_X3_cutSet (l : Launch) (D : va_G) (cy : Nat → ClassId) (sz : Nat) (K : List Nat) (ad : Nat → Nat) (E : Nat → va_E) (h6 : 6 ∈ K) (nr bl : Nat) (PP : List (Nat × Nat × Nat)) (hE6 : E 6 = .inr (3, [.ref ((ad (7))), .ref ((ad (8))), .ref ((ad (9))), .ref ((ad (10))), .ref ((ad (11))), .ref ((ad (12))), .ref ((ad (13))), .ref ((ad (14))), .ref ((ad (15))), .ref ((ad (16))), .ref ((ad (17))), .int (nI (bl)), .int (nI (PP.length)), .int (nI (nr))])) (h7 : 7 ∈ K) (f7 : Nat → Option Nat) (hE7 : E 7 = .inl (cy 4, 8, .inr (.inr (.inr (.inr (f7)))))) (h8 : 8 ∈ K) (f8 : Nat → Int32) (hE8 : E 8 = .inl (cy 0, 32, .inl (f8))) (h10 : 10 ∈ K) (f10 : Nat → Int32) (hE10 : E 10 = .inl (cy 0, 32, .inl (f10))) (h11 : 11 ∈ K) (f11 : Nat → Int32) (hE11 : E 11 = .inl (cy 0, 32, .inl (f11))) (h12 : 12 ∈ K) (f12 : Nat → Int32) (hE12 : E 12 = .inl (cy 0, 32, .inl (f12))) (h13 : 13 ∈ K) (f13 : Nat → Int32) (hE13 : E 13 = .inl (cy 0, 32, .inl (f13))) (h14 : 14 ∈ K) (f14 : Nat → Int32) (hE14 : E 14 = .inl (cy 0, 32, .inl (f14))) (h15 : 15 ∈ K) (f15 : Nat → Int32) (hE15 : E 15 = .inl (cy 1, 32, .inl (f15))) (h16 : 16 ∈ K) (f16 : Nat → Int32) (hE16 : E 16 = .inl (cy 0, 32, .inl (f16))) (h17 : 17 ∈ K) (f17 : Nat → Int32) (hE17 : E 17 = .inl (cy 0, 32, .inl (f17))) (hP32 : PP.length ≤ 32) (hl6 : ∀ i, i < PP.length → lnP PP i ≤ 600) (hnr : 1 ≤ nr ∧ nr ≤ 3000) (SS : List Nat) (hs : srtP nr PP SS) (hR8 : ∀ i, i < PP.length → f8 i = nI (enD PP i).1 ∧ (enD PP i).1 < bl) (hR10 : ∀ i, i < PP.length → f10 i = nI (lnP PP i)) (hR11 : ∀ i, i < PP.length → f11 i = nI (aWN nr (lnP PP i))) (hR12 : ∀ i, i < PP.length → f12 i = nI (mLN nr (lnP PP i))) (hR13 : ∀ i, i < PP.length → f13 i = nI (lsN nr (lnP PP i))) (hR14 : ∀ i, i < PP.length → f14 i = nI (SS.getD i 0)) (hbl : bl ≤ 8) (bn : Nat → Nat) (sp : Nat → Int32) (LL : Nat → List (Nat × Nat)) (hbn : ∀ p, p < bl → bn p < 40) (hmo : ∀ p r, p < r → r < bl → bn p < bn r) (hmm : ∀ p, p < bl → 2000 + bn p ∈ K ∧ 3000 + bn p ∈ K ∧ 4000 + bn p ∈ K) (hL7 : ∀ p, p < bl → f7 p = some (ad (2000 + bn p))) (hBA : ∀ p, p < bl → boltAt cy ad E (bn p) (sp p) (LL p)) (hpo : ∀ p, p < bl → partsOk (LL p)) (wi na x : Nat) (hx8 : x < 256) (hWN : wi + na ≤ 100) (o : Nat → Nat) (ho : o = bitO PP x) (hgv : (na : Int) ≤ dpN (nr + 1) nr (opnL PP o (List.range PP.length)) wi) (hof : offN LL bl ≤ PP.length) (hcut : ∀ p, p < bl → ∀ i, i < (LL p).length → (paD (LL p) i).1 + (cutH nr PP o wi na (offN LL (p) + i) * (nr + 1) + cutM nr PP o wi na (offN LL (p) + i) * nr) ≤ (paD (LL p) i).2) : Met l yX3_cutSet wsX3_cutSet ({ frames := 4, cells := 0, slots := 0, locals := 92 } : Room) (va_Pc [.ref ((ad (6))), .int (nI (x)), .int (nI (wi)), .int (nI (na))] (wB2 D cy sz (kW K ad E))) (va_Qv (fun (u : Nat → va_E) => ∃ (g15 g16 g17 : Nat → Int32), u 15 = .inl (cy 1, 32, .inl (g15)) ∧ u 16 = .inl (cy 0, 32, .inl (g16)) ∧ u 17 = .inl (cy 0, 32, .inl (g17)) ∧ (∀ j, j < PP.length → g16 j = nI (cutH nr PP o wi na j) ∧ g17 j = nI (cutM nr PP o wi na j)) ∧ shD cy ad bn sp (fun p => cutPL (LL (p)) (fun i => cutH nr PP o wi na (offN LL (p) + i) * (nr + 1) + cutM nr PP o wi na (offN LL (p) + i) * nr)) bl u ∧ ∀ k, k ≠ 15 → k ≠ 16 → k ≠ 17 → (∀ p, p < bl → k ≠ 2000 + bn p ∧ k ≠ 3000 + bn p ∧ k ≠ 4000 + bn p) → u k = E k) (fun u t => wE D cy (va_A (kW K ad E) sz) (kW K ad u) t) (va_A (kW K ad E) sz)) 0 0 (va_A (kW K ad E) sz) := by
  refine Met.ofW (cc := cX3_cutSet) (maxL := 7) (ret := none) (by decide) rfl ?_
  intro p e s m args below meth c s₁ B hml hv
  obtain ⟨rfl, ⟨hsz, hP, hK, hD0⟩, hN⟩ := hv
  have hx := B.exec
  have hb := B.bytes
  have hr := B.returns
  have hts := atoms_spec (ws := wsX3_cutSet) B.pre
  have hown : s.vm.findClass RX3 = some m.cls := findClass_of_methodNamed B.named
  have hlocks := B.notSynchronized
  subst hsz
  have hD := hD0.self (sz := s.heap.size)
  generalize hAe : va_A (kW K ad E) s.heap.size = A at hD ⊢
  have hA : ∀ q : Nat, s.heap.size ≤ q → A q := w_A hAe
  have hS : va_S A s.heap s.heap [] := va_S.rf
  have hnd := kW_nd hD
  have hl := lv_entry ([.ref ((ad (6))), .int (nI (x)), .int (nI (wi)), .int (nI (na))]) (n := 7) (Nat.le_of_ble_eq_true rfl)
  rw [lg_entry_eq]
  generalize (lg_sl ([.ref ((ad (6))), .int (nI (x)), .int (nI (wi)), .int (nI (na))]) ++ List.replicate (7 - (lg_sl ([.ref ((ad (6))), .int (nI (x)), .int (nI (wi)), .int (nI (na))])).length) Slot.unset).toArray = ls at hl ⊢
  have hl : lv_has ls 7 [(0, .ref ((ad (6)))), (1, .int (nI (x))), (2, .int (nI (wi))), (3, .int (nI (na)))] := hl
  have hob : ∀ i, o i ≤ 1 := fun i => by rw [ho]; exact bitO_le PP x i
  refine lv_iload_n hx hb dX3_cutSet_0 rfl (lv_at hl 2 rfl) ?_
  refine lv_istore (lv' := [(4, .int (nI (wi))), (0, .ref ((ad (6)))), (1, .int (nI (x))), (2, .int (nI (wi))), (3, .int (nI (na)))]) hx hb dX3_cutSet_1 hl (by decide) rfl (fun ls hl => ?_)
  refine lv_iload_n hx hb dX3_cutSet_3 rfl (lv_at hl 4 rfl) ?_
  refine lv_istore (lv' := [(5, .int (nI (na))), (4, .int (nI (wi))), (0, .ref ((ad (6)))), (1, .int (nI (x))), (2, .int (nI (wi))), (3, .int (nI (na)))]) hx hb dX3_cutSet_4 hl (by decide) rfl (fun ls hl => ?_)
  refine lv_aload_n hx hb dX3_cutSet_6 rfl (lv_at hl 2 rfl) ?_
  refine lv_iload_n hx hb dX3_cutSet_7 rfl (lv_at hl 3 rfl) ?_
  have hFc := w_free hD hS hA
  obtain ⟨p1, hp1⟩ := kW_pos h6
  refine va_callv (va_runV (As := [.int (nI (x))]) (rest := []) ⟨hx, hb, hml, hown, hts⟩ (c_X3_openSet l D cy s.heap.size K ad E (h6) (nr) (bl) (PP) (hE6) (h8) (f8) (hE8) (h15) (f15) (hE15) (hP32) (hl6) (hnr) (x) (by omega) (fun i hi => ⟨(hR8 i hi).1, by have := (hR8 i hi).2; omega⟩)) (cwV 1 hts gX3_cutSet_X3_openSet rfl rfl rfl (by decide +kernel) ⟨Nat.le_of_ble_eq_true rfl, Nat.le_of_ble_eq_true rfl⟩) ⟨wB2_blind, va_recv hK hP (ci := 3) (q0 := p1) rfl (kW_get hp1 hE6), wB2_pre hP hK hD hN⟩ rfl rfl hl.1 rfl (lv_room (Nat.le_of_ble_eq_true rfl)) dX3_cutSet_8 ⟨Nat.le_of_ble_eq_true rfl, Nat.le_of_ble_eq_true rfl⟩) hS (fun q _ h => hFc q h) hFc (fun E_8 t_ H locs ht hvm hw_8 hB _ _ hS => ?_)
  obtain ⟨hP1, hK1, hD1⟩ := hB
  rw [ht] at hP1
  have hP := hP1
  have hD := hD1.weaken (fun _ _ _ h => hFc _ h)
  obtain ⟨fo8, k8_0, hO8, ha8⟩ := hw_8
  have fC8_13 : E_8 (6) = .inr (3, [.ref ((ad (7))), .ref ((ad (8))), .ref ((ad (9))), .ref ((ad (10))), .ref ((ad (11))), .ref ((ad (12))), .ref ((ad (13))), .ref ((ad (14))), .ref ((ad (15))), .ref ((ad (16))), .ref ((ad (17))), .int (nI (bl)), .int (nI (PP.length)), .int (nI (nr))]) := (hO8 (6) (by omega)).trans hE6
  have fC8_14 : E_8 (8) = .inl (cy 0, 32, .inl (f8)) := (hO8 (8) (by omega)).trans hE8
  have fC8_19 : E_8 (10) = .inl (cy 0, 32, .inl (f10)) := (hO8 (10) (by omega)).trans hE10
  have fC8_20 : E_8 (11) = .inl (cy 0, 32, .inl (f11)) := (hO8 (11) (by omega)).trans hE11
  have fC8_21 : E_8 (12) = .inl (cy 0, 32, .inl (f12)) := (hO8 (12) (by omega)).trans hE12
  have fC8_16 : E_8 (13) = .inl (cy 0, 32, .inl (f13)) := (hO8 (13) (by omega)).trans hE13
  have fC8_17 : E_8 (14) = .inl (cy 0, 32, .inl (f14)) := (hO8 (14) (by omega)).trans hE14
  have fC8_23 : E_8 (16) = .inl (cy 0, 32, .inl (f16)) := (hO8 (16) (by omega)).trans hE16
  have fC8_24 : E_8 (17) = .inl (cy 0, 32, .inl (f17)) := (hO8 (17) (by omega)).trans hE17
  have fC8_22 : E_8 (7) = .inl (cy 4, 8, .inr (.inr (.inr (.inr (f7))))) := (hO8 (7) (by omega)).trans hE7
  refine lv_iconst (v := (nI (0))) hx hb dX3_cutSet_11 (by decide) ?_
  refine lv_istore (lv' := [(6, .int (nI (0))), (5, .int (nI (na))), (4, .int (nI (wi))), (0, .ref ((ad (6)))), (1, .int (nI (x))), (2, .int (nI (wi))), (3, .int (nI (na)))]) hx hb dX3_cutSet_12 hl (by decide) rfl (fun ls hl => ?_)
  have loop_14 : ∀ (n_ : Nat) (i : Nat) (g15 : Nat → Int32) (g16 : Nat → Int32) (g17 : Nat → Int32) (Ec : Nat → va_E) (H : Heap) (locs : List Loc), va_P D vwCl (kW K ad Ec) H → va_D A (kW K ad Ec) → va_S A s.heap H locs → (i ≤ PP.length) → (∀ j, j < PP.length → g15 j = nI (frm o i j)) → (∀ j, j < i → g16 j = nI (cutH nr PP o wi na j)) → (∀ j, j < i → g17 j = nI (cutM nr PP o wi na j)) → (Ec (15) = .inl (cy 1, 32, .inl (g15))) → (Ec (16) = .inl (cy 0, 32, .inl (g16))) → (Ec (17) = .inl (cy 0, 32, .inl (g17))) → (∀ j_ : Nat, j_ ≠ 15 → j_ ≠ 16 → j_ ≠ 17 → Ec j_ = E_8 j_) → PP.length - i < n_ → ∀ (ls : Array Slot), lv_has ls 7 [(0, .ref ((ad (6)))), (4, .int (nI ((cutS nr PP o wi na (i)).1))), (5, .int (nI ((cutS nr PP o wi na (i)).2))), (6, .int (nI (i)))] → W p l e (headSpec wsX3_cutSet ({ frames := 4, cells := 0, slots := 0, locals := 92 } : Room)).room s m ([.ref ((ad (6))), .int (nI (x)), .int (nI (wi)), .int (nI (na))] : List Value).toArray below meth c H locs 0 0 (MQ below (va_Qv (fun (u : Nat → va_E) => ∃ (g15 g16 g17 : Nat → Int32), u 15 = .inl (cy 1, 32, .inl (g15)) ∧ u 16 = .inl (cy 0, 32, .inl (g16)) ∧ u 17 = .inl (cy 0, 32, .inl (g17)) ∧ (∀ j, j < PP.length → g16 j = nI (cutH nr PP o wi na j) ∧ g17 j = nI (cutM nr PP o wi na j)) ∧ shD cy ad bn sp (fun p => cutPL (LL (p)) (fun i => cutH nr PP o wi na (offN LL (p) + i) * (nr + 1) + cutM nr PP o wi na (offN LL (p) + i) * nr)) bl u ∧ ∀ k, k ≠ 15 → k ≠ 16 → k ≠ 17 → (∀ p, p < bl → k ≠ 2000 + bn p ∧ k ≠ 3000 + bn p ∧ k ≠ 4000 + bn p) → u k = E k) (fun u t => wE D cy A (kW K ad u) t) A) ([.ref ((ad (6))), .int (nI (x)), .int (nI (wi)), .int (nI (na))] : List Value).toArray s 0 0 A) (F0 m 14 ls []) := by
    intro n_
    induction n_ with
    | zero => intro i g15 g16 g17 Ec H locs hP hD hS hi hg15 hg16 hg17 hk_14_0 hk_14_1 hk_14_2 hO_14 hm_; exact absurd hm_ (Nat.not_lt_zero _)
    | succ n_ ih_14 =>
      intro i g15 g16 g17 Ec H locs hP hD hS hi hg15 hg16 hg17 hk_14_0 hk_14_1 hk_14_2 hO_14 hm_ ls hl
      have fL14_13 : Ec (6) = .inr (3, [.ref ((ad (7))), .ref ((ad (8))), .ref ((ad (9))), .ref ((ad (10))), .ref ((ad (11))), .ref ((ad (12))), .ref ((ad (13))), .ref ((ad (14))), .ref ((ad (15))), .ref ((ad (16))), .ref ((ad (17))), .int (nI (bl)), .int (nI (PP.length)), .int (nI (nr))]) := (hO_14 (6) (by omega) (by omega) (by omega)).trans fC8_13
      have fL14_14 : Ec (8) = .inl (cy 0, 32, .inl (f8)) := (hO_14 (8) (by omega) (by omega) (by omega)).trans fC8_14
      have fL14_19 : Ec (10) = .inl (cy 0, 32, .inl (f10)) := (hO_14 (10) (by omega) (by omega) (by omega)).trans fC8_19
      have fL14_20 : Ec (11) = .inl (cy 0, 32, .inl (f11)) := (hO_14 (11) (by omega) (by omega) (by omega)).trans fC8_20
      have fL14_21 : Ec (12) = .inl (cy 0, 32, .inl (f12)) := (hO_14 (12) (by omega) (by omega) (by omega)).trans fC8_21
      have fL14_16 : Ec (13) = .inl (cy 0, 32, .inl (f13)) := (hO_14 (13) (by omega) (by omega) (by omega)).trans fC8_16
      have fL14_17 : Ec (14) = .inl (cy 0, 32, .inl (f14)) := (hO_14 (14) (by omega) (by omega) (by omega)).trans fC8_17
      have fL14_22 : Ec (7) = .inl (cy 4, 8, .inr (.inr (.inr (.inr (f7))))) := (hO_14 (7) (by omega) (by omega) (by omega)).trans fC8_22
      have hsle := cutS_le (nr := nr) (P := PP) (W := wi) (N := na) (o := o) i
      refine lv_iload hx hb dX3_cutSet_14 (lv_at hl 3 rfl) ?_
      refine lv_aload_n hx hb dX3_cutSet_16 rfl (lv_at hl 0 rfl) ?_
      obtain ⟨p2, hp2⟩ := kW_pos h6
      refine va_get (D := D) (ci := 3) (v := .int (nI (PP.length))) (C := RX3) (T := TX3) (N := 14) hx hb hts (by decide +kernel) hown hK hP p2 (kW_get hp2 fL14_13) rfl 12 (by decide) (hts (.fieldLink RX3 53 "CaskYard$Saw" "parts" "I") (by decide +kernel)) (fun _ h9 => h9) rfl dX3_cutSet_17 ?_
      refine g_icmp_ge (tgt := 97) hx hb dX3_cutSet_20 (by decide) (n_i (by omega)) (n_i (by omega)) (fun c_20 => ?_) (fun c_20 => ?_)
      · skip
        have hii : i = PP.length := by omega
        rw [hii] at hg16 hg17
        refine lv_aload_n hx hb dX3_cutSet_97 rfl (lv_at hl 0 rfl) ?_
        have hEe : ∀ j_ : Nat, j_ ≠ 15 → j_ ≠ 16 → j_ ≠ 17 → Ec j_ = E j_ := fun j_ h0_ h1_ h2_ => by rw [hO_14 j_ h0_ h1_ h2_, hO8 j_ h0_]
        have q15 := hk_14_0
        have q16 := hk_14_1
        have q17 := hk_14_2
        have hFc := w_free hD hS hA
        obtain ⟨p3, hp3⟩ := kW_pos h6
        refine va_callv (va_runV (As := []) (rest := []) ⟨hx, hb, hml, hown, hts⟩ (c_X3_shorten l D cy H.size K ad Ec (h6) (nr) (bl) (PP) (fL14_13) (h7) (f7) (fL14_22) (h16) (g16) (hk_14_1) (h17) (g17) (hk_14_2) (hP32) (hnr) (hbl) (bn) (sp) (LL) (hbn) (hmo) (hmm) (hL7) (fun p hp => boltAt_congr (hBA p hp) (hEe _ (by omega) (by omega) (by omega)) (hEe _ (by omega) (by omega) (by omega)) (hEe _ (by omega) (by omega) (by omega))) (hpo) (cutH nr PP o wi na) (cutM nr PP o wi na) (hg16) (hg17) (hof) (hcut)) (cwV 0 hts gX3_cutSet_X3_shorten rfl rfl rfl (by decide +kernel) ⟨Nat.le_of_ble_eq_true rfl, Nat.le_of_ble_eq_true rfl⟩) ⟨wB2_blind, va_recv hK hP (ci := 3) (q0 := p3) rfl (kW_get hp3 fL14_13), wB2_pre hP hK hD hN⟩ rfl rfl hl.1 rfl (lv_room (Nat.le_of_ble_eq_true rfl)) dX3_cutSet_98 ⟨Nat.le_of_ble_eq_true rfl, Nat.le_of_ble_eq_true rfl⟩) hS (fun q _ h => hFc q h) hFc (fun E_98 t_ H locs ht hvm hw_98 hB _ _ hS => ?_)
        obtain ⟨hP1, hK1, hD1⟩ := hB
        rw [ht] at hP1
        have hP := hP1
        have hD := hD1.weaken (fun _ _ _ h => hFc _ h)
        exact W.vret hx hb hr (fun t ht hW => ⟨⟨E_98, rfl, ⟨g15, g16, g17, (hw_98.2 15 (fun p hp => by omega)).trans q15, (hw_98.2 16 (fun p hp => by omega)).trans q16, (hw_98.2 17 (fun p hp => by omega)).trans q17, (fun j hj => ⟨hg16 j hj, hg17 j hj⟩), hw_98.1, (fun k h1 h2 h3 h4 => (hw_98.2 k h4).trans (hEe k h1 h2 h3))⟩, by rw [ht]; exact hP, va_K.moved hW.alike hK, hD⟩, hS.F ht⟩) hS.2.2 dX3_cutSet_101
      · skip
        have ho1 := hob i
        refine lv_aload_n hx hb dX3_cutSet_23 rfl (lv_at hl 0 rfl) ?_
        obtain ⟨p4, hp4⟩ := kW_pos h6
        refine va_get (D := D) (ci := 3) (v := .ref ((ad (16)))) (C := RX3) (T := TX3) (N := 14) hx hb hts (by decide +kernel) hown hK hP p4 (kW_get hp4 fL14_13) rfl 9 (by decide) (hts (.fieldLink RX3 43 "CaskYard$Saw" "wideCut" "[I") (by decide +kernel)) (fun _ h9 => h9) rfl dX3_cutSet_24 ?_
        refine lv_iload hx hb dX3_cutSet_27 (lv_at hl 3 rfl) ?_
        refine lv_iconst (v := (nI (0))) hx hb dX3_cutSet_29 (by decide) ?_
        obtain ⟨p5, hp5⟩ := kW_pos h16
        refine g_iast hx hb hK hP hD hS p5 0 (kW_get hp5 hk_14_1) rfl (i) rfl (by omega) (by decide) dX3_cutSet_30 (fun H locs hP hD hS => ?_)
        rw [kW_set hnd hp5] at hP hD
        obtain ⟨Ew6, hEw6⟩ : ∃ G, G = va_up Ec (16) (.inl (cy 0, 32, .inl (upd (g16) (i) (nI (0))))) := ⟨_, rfl⟩
        have eEw6_23 : Ew6 (16) = .inl (cy 0, 32, .inl (upd (g16) (i) (nI (0)))) := by rw [hEw6]; exact va_up_self _ _ _
        rw [← hEw6] at hP hD
        refine lv_aload_n hx hb dX3_cutSet_31 rfl (lv_at hl 0 rfl) ?_
        obtain ⟨p7, hp7⟩ := kW_pos h6
        refine va_get (D := D) (ci := 3) (v := .ref ((ad (17)))) (C := RX3) (T := TX3) (N := 14) hx hb hts (by decide +kernel) hown hK hP p7 (kW_get hp7 (show Ew6 (6) = .inr (3, [.ref ((ad (7))), .ref ((ad (8))), .ref ((ad (9))), .ref ((ad (10))), .ref ((ad (11))), .ref ((ad (12))), .ref ((ad (13))), .ref ((ad (14))), .ref ((ad (15))), .ref ((ad (16))), .ref ((ad (17))), .int (nI (bl)), .int (nI (PP.length)), .int (nI (nr))]) by rw [hEw6, va_up_ne _ _ (by omega)]; exact fL14_13)) rfl 10 (by decide) (hts (.fieldLink RX3 46 "CaskYard$Saw" "narrowCut" "[I") (by decide +kernel)) (fun _ h9 => h9) rfl dX3_cutSet_32 ?_
        refine lv_iload hx hb dX3_cutSet_35 (lv_at hl 3 rfl) ?_
        refine lv_iconst (v := (nI (0))) hx hb dX3_cutSet_37 (by decide) ?_
        obtain ⟨p8, hp8⟩ := kW_pos h17
        refine g_iast hx hb hK hP hD hS p8 0 (kW_get hp8 (show Ew6 (17) = .inl (cy 0, 32, .inl (g17)) by rw [hEw6, va_up_ne _ _ (by omega)]; exact hk_14_2)) rfl (i) rfl (by omega) (by decide) dX3_cutSet_38 (fun H locs hP hD hS => ?_)
        rw [kW_set hnd hp8] at hP hD
        obtain ⟨Ew9, hEw9⟩ : ∃ G, G = va_up Ew6 (17) (.inl (cy 0, 32, .inl (upd (g17) (i) (nI (0))))) := ⟨_, rfl⟩
        have eEw9_24 : Ew9 (17) = .inl (cy 0, 32, .inl (upd (g17) (i) (nI (0)))) := by rw [hEw9]; exact va_up_self _ _ _
        have eEw9_23 : Ew9 (16) = .inl (cy 0, 32, .inl (upd (g16) (i) (nI (0)))) := by rw [hEw9, va_up_ne _ _ (by omega)]; exact eEw6_23
        rw [← hEw9] at hP hD
        refine lv_aload_n hx hb dX3_cutSet_39 rfl (lv_at hl 0 rfl) ?_
        obtain ⟨p10, hp10⟩ := kW_pos h6
        refine va_get (D := D) (ci := 3) (v := .ref ((ad (15)))) (C := RX3) (T := TX3) (N := 14) hx hb hts (by decide +kernel) hown hK hP p10 (kW_get hp10 (show Ew9 (6) = .inr (3, [.ref ((ad (7))), .ref ((ad (8))), .ref ((ad (9))), .ref ((ad (10))), .ref ((ad (11))), .ref ((ad (12))), .ref ((ad (13))), .ref ((ad (14))), .ref ((ad (15))), .ref ((ad (16))), .ref ((ad (17))), .int (nI (bl)), .int (nI (PP.length)), .int (nI (nr))]) by rw [hEw9, va_up_ne _ _ (by omega), hEw6, va_up_ne _ _ (by omega)]; exact fL14_13)) rfl 8 (by decide) (hts (.fieldLink RX3 39 "CaskYard$Saw" "open" "[Z") (by decide +kernel)) (fun _ h9 => h9) rfl dX3_cutSet_40 ?_
        refine lv_iload hx hb dX3_cutSet_43 (lv_at hl 3 rfl) ?_
        obtain ⟨p11, hp11⟩ := kW_pos h15
        refine g_zald hx hb hK hP p11 1 (kW_get hp11 (show Ew9 (15) = .inl (cy 1, 32, .inl (g15)) by rw [hEw9, va_up_ne _ _ (by omega), hEw6, va_up_ne _ _ (by omega)]; exact hk_14_0)) rfl (i) rfl (by omega) (by decide) dX3_cutSet_45 ?_
        refine g_top (y := (nI (o i))) ((hg15 i (by omega)).trans (congrArg nI (if_neg (Nat.lt_irrefl i)))) ?_
        refine g_if_eq (tgt := 91) hx hb dX3_cutSet_46 (by decide) (n_i (by omega)) (fun c_46 => ?_) (fun c_46 => ?_)
        · skip
          have hoi : o i = 0 := by omega
          have hcs := cutS_f (nr := nr) (P := PP) (W := wi) (N := na) (o := o) (i := i) (by omega)
          have hl : lv_has ls 7 [(0, .ref ((ad (6)))), (4, .int (nI ((cutS nr PP o wi na (i + 1)).1))), (5, .int (nI ((cutS nr PP o wi na (i + 1)).2))), (6, .int (nI (i)))] := by rw [← (show nI (cutS nr PP o wi na (i)).1 = nI (cutS nr PP o wi na (i + 1)).1 by rw [hcs]), ← (show nI (cutS nr PP o wi na (i)).2 = nI (cutS nr PP o wi na (i + 1)).2 by rw [hcs])]; exact hl
          refine lv_iinc (v := (nI (i + 1))) (lv' := [(6, .int (nI (i + 1))), (0, .ref ((ad (6)))), (4, .int (nI ((cutS nr PP o wi na (i + 1)).1))), (5, .int (nI ((cutS nr PP o wi na (i + 1)).2)))]) hx hb dX3_cutSet_91 hl (k := 3) rfl (nI_add _ _) (by decide) rfl (fun ls hl => ?_)
          refine lv_goto (tgt := 14) hx hb dX3_cutSet_94 (by decide) ?_
          exact ih_14 (i + 1) (g15) (upd (g16) (i) (nI (0))) (upd (g17) (i) (nI (0))) (Ew9) H locs hP hD hS (by omega) (frm_row0 hg15 hoi) (zero_row hg16 (by rw [cutH, if_neg (by omega)])) (zero_row hg17 (by rw [cutM, if_neg (by omega)])) (show Ew9 (15) = .inl (cy 1, 32, .inl (g15)) by rw [hEw9, va_up_ne _ _ (by omega), hEw6, va_up_ne _ _ (by omega)]; exact hk_14_0) eEw9_23 eEw9_24 (fun j_ h0_ h1_ h2_ => by rw [hEw9, va_up_ne _ _ h2_, hEw6, va_up_ne _ _ h1_, hO_14 j_ h0_ h1_ h2_]) (by omega) ls (lv_sub hl [1, 2, 3, 0] rfl)
        · skip
          have hoi : o i = 1 := by omega
          have hcg := cut_good hgv (by omega) hoi
          have hcf := ch_fit (nr := nr) (P := PP) (o := o) (i := i) (a := (cutS nr PP o wi na (i)).1) (n := (cutS nr PP o wi na (i)).2) (by omega)
          have hHC : cutH nr PP o wi na i = chS nr PP o i (cutS nr PP o wi na (i)).1 (cutS nr PP o wi na (i)).2 := if_pos hoi
          have hMC : cutM nr PP o wi na i = mnS nr PP o i (cutS nr PP o wi na (i)).1 (cutS nr PP o wi na (i)).2 := if_pos hoi
          refine lv_aload_n hx hb dX3_cutSet_49 rfl (lv_at hl 0 rfl) ?_
          obtain ⟨p12, hp12⟩ := kW_pos h6
          refine va_get (D := D) (ci := 3) (v := .ref ((ad (15)))) (C := RX3) (T := TX3) (N := 14) hx hb hts (by decide +kernel) hown hK hP p12 (kW_get hp12 (show Ew9 (6) = .inr (3, [.ref ((ad (7))), .ref ((ad (8))), .ref ((ad (9))), .ref ((ad (10))), .ref ((ad (11))), .ref ((ad (12))), .ref ((ad (13))), .ref ((ad (14))), .ref ((ad (15))), .ref ((ad (16))), .ref ((ad (17))), .int (nI (bl)), .int (nI (PP.length)), .int (nI (nr))]) by rw [hEw9, va_up_ne _ _ (by omega), hEw6, va_up_ne _ _ (by omega)]; exact fL14_13)) rfl 8 (by decide) (hts (.fieldLink RX3 39 "CaskYard$Saw" "open" "[Z") (by decide +kernel)) (fun _ h9 => h9) rfl dX3_cutSet_50 ?_
          refine lv_iload hx hb dX3_cutSet_53 (lv_at hl 3 rfl) ?_
          refine lv_iconst (v := (nI (0))) hx hb dX3_cutSet_55 (by decide) ?_
          refine g_top (y := bI False) rfl ?_
          obtain ⟨p13, hp13⟩ := kW_pos h15
          refine g_zast hx hb hK hP hD hS p13 1 (kW_get hp13 (show Ew9 (15) = .inl (cy 1, 32, .inl (g15)) by rw [hEw9, va_up_ne _ _ (by omega), hEw6, va_up_ne _ _ (by omega)]; exact hk_14_0)) rfl (i) rfl (by omega) (by decide) dX3_cutSet_56 (fun H locs hP hD hS => ?_)
          rw [kW_set hnd hp13] at hP hD
          obtain ⟨Ew14, hEw14⟩ : ∃ G, G = va_up Ew9 (15) (.inl (cy 1, 32, .inl (upd (g15) (i) (bI (False))))) := ⟨_, rfl⟩
          have eEw14_15 : Ew14 (15) = .inl (cy 1, 32, .inl (upd (g15) (i) (bI (False)))) := by rw [hEw14]; exact va_up_self _ _ _
          have eEw14_23 : Ew14 (16) = .inl (cy 0, 32, .inl (upd (g16) (i) (nI (0)))) := by rw [hEw14, va_up_ne _ _ (by omega)]; exact eEw9_23
          have eEw14_24 : Ew14 (17) = .inl (cy 0, 32, .inl (upd (g17) (i) (nI (0)))) := by rw [hEw14, va_up_ne _ _ (by omega)]; exact eEw9_24
          rw [← hEw14] at hP hD
          refine lv_aload_n hx hb dX3_cutSet_57 rfl (lv_at hl 0 rfl) ?_
          refine lv_iload hx hb dX3_cutSet_58 (lv_at hl 3 rfl) ?_
          refine lv_iload hx hb dX3_cutSet_60 (lv_at hl 1 rfl) ?_
          refine lv_iload hx hb dX3_cutSet_62 (lv_at hl 2 rfl) ?_
          have hFc := w_free hD hS hA
          obtain ⟨p15, hp15⟩ := kW_pos h6
          refine va_callv (va_runV (As := [.int (nI (i)), .int (nI ((cutS nr PP o wi na (i)).1)), .int (nI ((cutS nr PP o wi na (i)).2))]) (rest := []) ⟨hx, hb, hml, hown, hts⟩ (c_X3_choose l D cy H.size K ad Ew14 (h6) (nr) (bl) (PP) (show Ew14 (6) = .inr (3, [.ref ((ad (7))), .ref ((ad (8))), .ref ((ad (9))), .ref ((ad (10))), .ref ((ad (11))), .ref ((ad (12))), .ref ((ad (13))), .ref ((ad (14))), .ref ((ad (15))), .ref ((ad (16))), .ref ((ad (17))), .int (nI (bl)), .int (nI (PP.length)), .int (nI (nr))]) by rw [hEw14, va_up_ne _ _ (by omega), hEw9, va_up_ne _ _ (by omega), hEw6, va_up_ne _ _ (by omega)]; exact fL14_13) (h10) (f10) (show Ew14 (10) = .inl (cy 0, 32, .inl (f10)) by rw [hEw14, va_up_ne _ _ (by omega), hEw9, va_up_ne _ _ (by omega), hEw6, va_up_ne _ _ (by omega)]; exact fL14_19) (h11) (f11) (show Ew14 (11) = .inl (cy 0, 32, .inl (f11)) by rw [hEw14, va_up_ne _ _ (by omega), hEw9, va_up_ne _ _ (by omega), hEw6, va_up_ne _ _ (by omega)]; exact fL14_20) (h12) (f12) (show Ew14 (12) = .inl (cy 0, 32, .inl (f12)) by rw [hEw14, va_up_ne _ _ (by omega), hEw9, va_up_ne _ _ (by omega), hEw6, va_up_ne _ _ (by omega)]; exact fL14_21) (h13) (f13) (show Ew14 (13) = .inl (cy 0, 32, .inl (f13)) by rw [hEw14, va_up_ne _ _ (by omega), hEw9, va_up_ne _ _ (by omega), hEw6, va_up_ne _ _ (by omega)]; exact fL14_16) (h14) (f14) (show Ew14 (14) = .inl (cy 0, 32, .inl (f14)) by rw [hEw14, va_up_ne _ _ (by omega), hEw9, va_up_ne _ _ (by omega), hEw6, va_up_ne _ _ (by omega)]; exact fL14_17) (h15) (upd (g15) (i) (bI (False))) (eEw14_15) (h16) (upd (g16) (i) (nI (0))) (eEw14_23) (h17) (upd (g17) (i) (nI (0))) (eEw14_24) (hP32) (hl6) (hnr) (frm o (i + 1)) (SS) (hs) (hR11) (hR12) (hR13) (hR14) (fun j hj => ⟨frm_row hg15 j hj, frm_le hob _ _⟩) (i) ((cutS nr PP o wi na (i)).1) ((cutS nr PP o wi na (i)).2) (by omega) (by omega) (hR10 i (by omega)) (hcg)) (cwV 3 hts gX3_cutSet_X3_choose rfl rfl rfl (by decide +kernel) ⟨Nat.le_of_ble_eq_true rfl, Nat.le_of_ble_eq_true rfl⟩) ⟨wB2_blind, va_recv hK hP (ci := 3) (q0 := p15) rfl (kW_get hp15 (show Ew14 (6) = .inr (3, [.ref ((ad (7))), .ref ((ad (8))), .ref ((ad (9))), .ref ((ad (10))), .ref ((ad (11))), .ref ((ad (12))), .ref ((ad (13))), .ref ((ad (14))), .ref ((ad (15))), .ref ((ad (16))), .ref ((ad (17))), .int (nI (bl)), .int (nI (PP.length)), .int (nI (nr))]) by rw [hEw14, va_up_ne _ _ (by omega), hEw9, va_up_ne _ _ (by omega), hEw6, va_up_ne _ _ (by omega)]; exact fL14_13)), wB2_pre hP hK hD hN⟩ rfl rfl hl.1 rfl (lv_room (Nat.le_of_ble_eq_true rfl)) dX3_cutSet_64 ⟨Nat.le_of_ble_eq_true rfl, Nat.le_of_ble_eq_true rfl⟩) hS (fun q _ h => hFc q h) hFc (fun E_64 t_ H locs ht hvm hw_64 hB _ _ hS => ?_)
          obtain ⟨hP1, hK1, hD1⟩ := hB
          rw [ht] at hP1
          have hP := hP1
          have hD := hD1.weaken (fun _ _ _ h => hFc _ h)
          obtain ⟨k64_0, k64_1, hO64⟩ := hw_64
          have fC64_13 : E_64 (6) = .inr (3, [.ref ((ad (7))), .ref ((ad (8))), .ref ((ad (9))), .ref ((ad (10))), .ref ((ad (11))), .ref ((ad (12))), .ref ((ad (13))), .ref ((ad (14))), .ref ((ad (15))), .ref ((ad (16))), .ref ((ad (17))), .int (nI (bl)), .int (nI (PP.length)), .int (nI (nr))]) := (hO64 (6) (by omega) (by omega)).trans (show Ew14 (6) = .inr (3, [.ref ((ad (7))), .ref ((ad (8))), .ref ((ad (9))), .ref ((ad (10))), .ref ((ad (11))), .ref ((ad (12))), .ref ((ad (13))), .ref ((ad (14))), .ref ((ad (15))), .ref ((ad (16))), .ref ((ad (17))), .int (nI (bl)), .int (nI (PP.length)), .int (nI (nr))]) by rw [hEw14, va_up_ne _ _ (by omega), hEw9, va_up_ne _ _ (by omega), hEw6, va_up_ne _ _ (by omega)]; exact fL14_13)
          have fC64_14 : E_64 (8) = .inl (cy 0, 32, .inl (f8)) := (hO64 (8) (by omega) (by omega)).trans (show Ew14 (8) = .inl (cy 0, 32, .inl (f8)) by rw [hEw14, va_up_ne _ _ (by omega), hEw9, va_up_ne _ _ (by omega), hEw6, va_up_ne _ _ (by omega)]; exact fL14_14)
          have fC64_19 : E_64 (10) = .inl (cy 0, 32, .inl (f10)) := (hO64 (10) (by omega) (by omega)).trans (show Ew14 (10) = .inl (cy 0, 32, .inl (f10)) by rw [hEw14, va_up_ne _ _ (by omega), hEw9, va_up_ne _ _ (by omega), hEw6, va_up_ne _ _ (by omega)]; exact fL14_19)
          have fC64_20 : E_64 (11) = .inl (cy 0, 32, .inl (f11)) := (hO64 (11) (by omega) (by omega)).trans (show Ew14 (11) = .inl (cy 0, 32, .inl (f11)) by rw [hEw14, va_up_ne _ _ (by omega), hEw9, va_up_ne _ _ (by omega), hEw6, va_up_ne _ _ (by omega)]; exact fL14_20)
          have fC64_21 : E_64 (12) = .inl (cy 0, 32, .inl (f12)) := (hO64 (12) (by omega) (by omega)).trans (show Ew14 (12) = .inl (cy 0, 32, .inl (f12)) by rw [hEw14, va_up_ne _ _ (by omega), hEw9, va_up_ne _ _ (by omega), hEw6, va_up_ne _ _ (by omega)]; exact fL14_21)
          have fC64_16 : E_64 (13) = .inl (cy 0, 32, .inl (f13)) := (hO64 (13) (by omega) (by omega)).trans (show Ew14 (13) = .inl (cy 0, 32, .inl (f13)) by rw [hEw14, va_up_ne _ _ (by omega), hEw9, va_up_ne _ _ (by omega), hEw6, va_up_ne _ _ (by omega)]; exact fL14_16)
          have fC64_17 : E_64 (14) = .inl (cy 0, 32, .inl (f14)) := (hO64 (14) (by omega) (by omega)).trans (show Ew14 (14) = .inl (cy 0, 32, .inl (f14)) by rw [hEw14, va_up_ne _ _ (by omega), hEw9, va_up_ne _ _ (by omega), hEw6, va_up_ne _ _ (by omega)]; exact fL14_17)
          have fC64_22 : E_64 (7) = .inl (cy 4, 8, .inr (.inr (.inr (.inr (f7))))) := (hO64 (7) (by omega) (by omega)).trans (show Ew14 (7) = .inl (cy 4, 8, .inr (.inr (.inr (.inr (f7))))) by rw [hEw14, va_up_ne _ _ (by omega), hEw9, va_up_ne _ _ (by omega), hEw6, va_up_ne _ _ (by omega)]; exact fL14_22)
          have fC64_15 : E_64 (15) = .inl (cy 1, 32, .inl (upd (g15) (i) (bI (False)))) := (hO64 (15) (by omega) (by omega)).trans eEw14_15
          refine lv_iload hx hb dX3_cutSet_67 (lv_at hl 1 rfl) ?_
          refine lv_aload_n hx hb dX3_cutSet_69 rfl (lv_at hl 0 rfl) ?_
          obtain ⟨p16, hp16⟩ := kW_pos h6
          refine va_get (D := D) (ci := 3) (v := .ref ((ad (16)))) (C := RX3) (T := TX3) (N := 14) hx hb hts (by decide +kernel) hown hK hP p16 (kW_get hp16 fC64_13) rfl 9 (by decide) (hts (.fieldLink RX3 43 "CaskYard$Saw" "wideCut" "[I") (by decide +kernel)) (fun _ h9 => h9) rfl dX3_cutSet_70 ?_
          refine lv_iload hx hb dX3_cutSet_73 (lv_at hl 3 rfl) ?_
          obtain ⟨p17, hp17⟩ := kW_pos h16
          refine g_iald hx hb hK hP p17 0 (kW_get hp17 k64_0) rfl (i) rfl (by omega) (by decide) dX3_cutSet_75 ?_
          refine g_top (y := (nI (cutH nr PP o wi na i))) (by rw [upd_s, hHC]; rfl) ?_
          refine g_isub_n hx hb dX3_cutSet_76 (by omega) ?_
          refine lv_istore (lv' := [(4, .int (nI (((cutS nr PP o wi na (i)).1) - (cutH nr PP o wi na i)))), (0, .ref ((ad (6)))), (5, .int (nI ((cutS nr PP o wi na (i)).2))), (6, .int (nI (i)))]) hx hb dX3_cutSet_77 hl (by decide) rfl (fun ls hl => ?_)
          refine lv_iload hx hb dX3_cutSet_79 (lv_at hl 2 rfl) ?_
          refine lv_aload_n hx hb dX3_cutSet_81 rfl (lv_at hl 1 rfl) ?_
          obtain ⟨p18, hp18⟩ := kW_pos h6
          refine va_get (D := D) (ci := 3) (v := .ref ((ad (17)))) (C := RX3) (T := TX3) (N := 14) hx hb hts (by decide +kernel) hown hK hP p18 (kW_get hp18 fC64_13) rfl 10 (by decide) (hts (.fieldLink RX3 46 "CaskYard$Saw" "narrowCut" "[I") (by decide +kernel)) (fun _ h9 => h9) rfl dX3_cutSet_82 ?_
          refine lv_iload hx hb dX3_cutSet_85 (lv_at hl 3 rfl) ?_
          obtain ⟨p19, hp19⟩ := kW_pos h17
          refine g_iald hx hb hK hP p19 0 (kW_get hp19 k64_1) rfl (i) rfl (by omega) (by decide) dX3_cutSet_87 ?_
          refine g_top (y := (nI (cutM nr PP o wi na i))) (by rw [upd_s, hMC]; rfl) ?_
          refine g_isub_n hx hb dX3_cutSet_88 (by omega) ?_
          refine lv_istore (lv' := [(5, .int (nI (((cutS nr PP o wi na (i)).2) - (cutM nr PP o wi na i)))), (4, .int (nI (((cutS nr PP o wi na (i)).1) - (cutH nr PP o wi na i)))), (0, .ref ((ad (6)))), (6, .int (nI (i)))]) hx hb dX3_cutSet_89 hl (by decide) rfl (fun ls hl => ?_)
          have hcs := cutS_t (nr := nr) (P := PP) (W := wi) (N := na) (o := o) (i := i) hoi
          have hl : lv_has ls 7 [(5, .int (nI ((cutS nr PP o wi na (i + 1)).2))), (4, .int (nI ((cutS nr PP o wi na (i + 1)).1))), (0, .ref ((ad (6)))), (6, .int (nI (i)))] := by rw [← (show nI ((cutS nr PP o wi na (i)).1 - cutH nr PP o wi na i) = nI (cutS nr PP o wi na (i + 1)).1 by rw [hcs]), ← (show nI ((cutS nr PP o wi na (i)).2 - cutM nr PP o wi na i) = nI (cutS nr PP o wi na (i + 1)).2 by rw [hcs])]; exact hl
          refine lv_iinc (v := (nI (i + 1))) (lv' := [(6, .int (nI (i + 1))), (5, .int (nI ((cutS nr PP o wi na (i + 1)).2))), (4, .int (nI ((cutS nr PP o wi na (i + 1)).1))), (0, .ref ((ad (6))))]) hx hb dX3_cutSet_91 hl (k := 3) rfl (nI_add _ _) (by decide) rfl (fun ls hl => ?_)
          refine lv_goto (tgt := 14) hx hb dX3_cutSet_94 (by decide) ?_
          exact ih_14 (i + 1) (upd (g15) (i) (bI (False))) (upd (upd (g16) (i) (nI (0))) (i) (nI (chN (nr + 1) nr (opnL PP (frm o (i + 1)) (List.range PP.length)) (lnP PP (i)) ((cutS nr PP o wi na (i)).1) ((cutS nr PP o wi na (i)).2) (min ((cutS nr PP o wi na (i)).1) (lnP PP (i) / (nr + 1)))))) (upd (upd (g17) (i) (nI (0))) (i) (nI (min ((cutS nr PP o wi na (i)).2) ((lnP PP (i) - chN (nr + 1) nr (opnL PP (frm o (i + 1)) (List.range PP.length)) (lnP PP (i)) ((cutS nr PP o wi na (i)).1) ((cutS nr PP o wi na (i)).2) (min ((cutS nr PP o wi na (i)).1) (lnP PP (i) / (nr + 1))) * (nr + 1)) / nr)))) (E_64) H locs hP hD hS (by omega) (frm_row hg15) (two_row hg16 (by rw [cutH, if_pos hoi]; rfl)) (two_row hg17 (by rw [cutM, if_pos hoi]; rfl)) fC64_15 k64_0 k64_1 (fun j_ h0_ h1_ h2_ => by rw [hO64 j_ h1_ h2_, hEw14, va_up_ne _ _ h0_, hEw9, va_up_ne _ _ h2_, hEw6, va_up_ne _ _ h1_, hO_14 j_ h0_ h1_ h2_]) (by omega) ls (lv_sub hl [3, 2, 1, 0] rfl)
  exact loop_14 _ (0) (fo8) (f16) (f17) (E_8) H locs hP hD hS (by omega) (fun j hj => by rw [ha8 j hj, frm, if_neg (Nat.not_lt_zero _), ho]; exact bI_n) (fun j hj => absurd hj (Nat.not_lt_zero _)) (fun j hj => absurd hj (Nat.not_lt_zero _)) k8_0 fC8_23 fC8_24 (fun j_ h0_ h1_ h2_ => rfl) (Nat.lt_succ_self _) ls (lv_sub hl [3, 2, 1, 0] rfl)
