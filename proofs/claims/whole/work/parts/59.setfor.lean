set_option maxHeartbeats 4000000 in
set_option maxRecDepth 100000 in
theorem c_X4_setFor (l : Launch) (D : va_G) (cy : Nat → ClassId) (sz : Nat) (K : List Nat) (ad : Nat → Nat) (E : Nat → va_E) (Y : YT) (hKR : KR K Y) (hR : YR cy ad E Y) (hY : WF Y) (i : Nat) (hif : i < yF Y) : Met l yX4_setFor wsX4_setFor ({ frames := 3, cells := 0, slots := 0, locals := 95 } : Room) (va_Pc [.ref ((ad (0))), .ref ((ad (1000 + i)))] (wB2 D cy sz (kW K ad E))) (va_Qi (fun (r : Int32) (u : Nat → va_E) => ∃ (PP : List (Nat × Nat × Nat)) (SS : List Nat) (g7 : Nat → Option Nat) (g8 g9 g10 g11 g12 g13 g14 g15 : Nat → Int32), u (6) = .inr (3, [.ref ((ad (7))), .ref ((ad (8))), .ref ((ad (9))), .ref ((ad (10))), .ref ((ad (11))), .ref ((ad (12))), .ref ((ad (13))), .ref ((ad (14))), .ref ((ad (15))), .ref ((ad (16))), .ref ((ad (17))), .int (nI ((lookL Y).length)), .int (nI (PP.length)), .int (nI (yg Y (i) / ys Y (i) + 2))]) ∧ u (7) = .inl (cy 4, 8, .inr (.inr (.inr (.inr (g7))))) ∧ u (8) = .inl (cy 0, 32, .inl (g8)) ∧ u (9) = .inl (cy 0, 32, .inl (g9)) ∧ u (10) = .inl (cy 0, 32, .inl (g10)) ∧ u (11) = .inl (cy 0, 32, .inl (g11)) ∧ u (12) = .inl (cy 0, 32, .inl (g12)) ∧ u (13) = .inl (cy 0, 32, .inl (g13)) ∧ u (14) = .inl (cy 0, 32, .inl (g14)) ∧ u (15) = .inl (cy 1, 32, .inl (g15)) ∧ (∀ j_ : Nat, j_ ≠ 6 → j_ ≠ 7 → j_ ≠ 8 → j_ ≠ 9 → j_ ≠ 10 → j_ ≠ 11 → j_ ≠ 12 → j_ ≠ 13 → j_ ≠ 14 → j_ ≠ 15 → u j_ = E j_) ∧ PP = layF Y (lookK Y) ((lookL Y).length) ∧ sawR (yg Y (i) / ys Y (i) + 2) PP SS g8 g9 g10 g11 g12 g13 g14 ∧ (∀ p, p < (lookL Y).length → g7 p = some (ad (2000 + lookK Y p))) ∧ r = nI (rv8 (bestY Y i)) ∧ bestY Y i < 2 ^ (lookL Y).length) (fun u t => wE D cy (va_A (kW K ad E) sz) (kW K ad u) t) (va_A (kW K ad E) sz)) 0 0 (va_A (kW K ad E) sz) := by
  refine Met.ofW (cc := cX4_setFor) (maxL := 4) (ret := (some .int)) (by decide) rfl ?_
  intro p e s m args below meth c s₁ B hml hv
  obtain ⟨rfl, ⟨hsz, hP, hK, hD0⟩, hN⟩ := hv
  have hx := B.exec
  have hb := B.bytes
  have hr := B.returns
  have hts := atoms_spec (ws := wsX4_setFor) B.pre
  have hown : s.vm.findClass RX4 = some m.cls := findClass_of_methodNamed B.named
  have hlocks := B.notSynchronized
  subst hsz
  have hD := hD0.self (sz := s.heap.size)
  generalize hAe : va_A (kW K ad E) s.heap.size = A at hD ⊢
  have hA : ∀ q : Nat, s.heap.size ≤ q → A q := w_A hAe
  have hS : va_S A s.heap s.heap [] := va_S.rf
  have hnd := kW_nd hD
  have hl := lv_entry ([.ref ((ad (0))), .ref ((ad (1000 + i)))]) (n := 4) (Nat.le_of_ble_eq_true rfl)
  rw [lg_entry_eq]
  generalize (lg_sl ([.ref ((ad (0))), .ref ((ad (1000 + i)))]) ++ List.replicate (4 - (lg_sl ([.ref ((ad (0))), .ref ((ad (1000 + i)))])).length) Slot.unset).toArray = ls at hl ⊢
  have hl : lv_has ls 4 [(0, .ref ((ad (0)))), (1, .ref ((ad (1000 + i))))] := hl
  obtain ⟨⟨hE0, f1, f2, f3, hE1, hE2, hE3, hr1, hr2, hr3⟩, ⟨f4, f5, hE4, hE5, hbr, hwt⟩, hsaw, hspa, hYf, hYb, hYc⟩ := id hR
  obtain ⟨hy0, hyF, hyB, hyC, hyf, hyb, hyc, hyr, hyw⟩ := id hY
  obtain ⟨nr0, bl0, PP0, f7, f8, f9, f10, f11, f12, f13, f14, f15, f16, f17, hE6, hE7, hE8, hE9, hE10, hE11, hE12, hE13, hE14, hE15, hE16, hE17⟩ := id hsaw
  have hf0 := hYf i hif
  have hmf : 1000 + i ∈ K := (hKR.m (show keyOk Y (1000 + i) by unfold keyOk; omega))
  have hfo := hyf i hif
  have hqle := Nat.div_le_self (yg Y i) (ys Y i)
  have hmd := Nat.mod_lt (yg Y i) (show 0 < ys Y i by omega)
  have hnp : 2 ≤ yg Y (i) / ys Y (i) + 2 := Nat.le_add_left _ _
  refine lv_aload_n hx hb dX4_setFor_0 rfl (lv_at hl 0 rfl) ?_
  obtain ⟨p1, hp1⟩ := kW_pos (hKR.m (show keyOk Y (0) by unfold keyOk; omega))
  refine va_get (D := D) (ci := 4) (v := .ref ((ad (6)))) (C := RX4) (T := TX4) (N := 11) hx hb hts (by decide +kernel) hown hK hP p1 (kW_get hp1 hE0) rfl 5 (by decide) (hts (.fieldLink RX4 37 "CaskYard" "saw" "LCaskYard$Saw;") (by decide +kernel)) (fun _ h9 => h9) rfl dX4_setFor_1 ?_
  refine lv_aload_n hx hb dX4_setFor_4 rfl (lv_at hl 1 rfl) ?_
  obtain ⟨p2, hp2⟩ := kW_pos hmf
  refine vp_callSi (va_Run.run (va_runV (As := []) (rest := [.ref ((ad (6)))]) ⟨hx, hb, hml, hown, hts⟩ (c_X2_narrowPiece l D cy K ad E (1000 + i) (hmf) (yh Y (i)) (yg Y (i)) (ye Y (i)) (ys Y (i)) (hf0) (hfo)) (cwV 0 hts gX4_setFor_X2_narrowPiece rfl rfl rfl (by decide +kernel) ⟨Nat.le_of_ble_eq_true rfl, Nat.le_of_ble_eq_true rfl⟩) ⟨rB2_blind, va_recv hK hP (ci := 2) (q0 := p2) rfl (kW_get hp2 hf0), (rB2_pre hP hK hN)⟩ rfl rfl hl.1 rfl (lv_room (Nat.le_of_ble_eq_true rfl)) dX4_setFor_5 ⟨Nat.le_of_ble_eq_true rfl, Nat.le_of_ble_eq_true rfl⟩)) (fun r_5 hr_5 => ?_)
  subst hr_5
  have hFc := w_free hD hS hA
  obtain ⟨p3, hp3⟩ := kW_pos (hKR.m (show keyOk Y (6) by unfold keyOk; omega))
  refine va_callv (va_runV (As := [.int (nI ((yg Y (i)) / (ys Y (i)) + 2))]) (rest := []) ⟨hx, hb, hml, hown, hts⟩ (c_X3_prepare l D cy s.heap.size K ad E (hKR.m (show keyOk Y (6) by unfold keyOk; omega)) (nr0) (bl0) (PP0) (hE6) ((yg Y (i)) / (ys Y (i)) + 2)) (cwV 1 hts gX4_setFor_X3_prepare rfl rfl rfl (by decide +kernel) ⟨Nat.le_of_ble_eq_true rfl, Nat.le_of_ble_eq_true rfl⟩) ⟨wB2_blind, va_recv hK hP (ci := 3) (q0 := p3) rfl (kW_get hp3 hE6), wB2_pre hP hK hD hN⟩ rfl rfl hl.1 rfl (lv_room (Nat.le_of_ble_eq_true rfl)) dX4_setFor_8 ⟨Nat.le_of_ble_eq_true rfl, Nat.le_of_ble_eq_true rfl⟩) hS (fun q _ h => hFc q h) hFc (fun E_8 t_ H locs ht hvm hw_8 hB _ _ hS => ?_)
  obtain ⟨hP1, hK1, hD1⟩ := hB
  rw [ht] at hP1
  have hP := hP1
  have hD := hD1.weaken (fun _ _ _ h => hFc _ h)
  obtain ⟨k8_0, hO8⟩ := hw_8
  have fC8_25 : E_8 (0) = .inr (4, [.ref ((ad (1))), .ref ((ad (2))), .ref ((ad (3))), .ref ((ad (4))), .ref ((ad (5))), .ref ((ad (6))), .ref ((ad (18))), .int (nI (yF Y)), .int (nI (yB Y)), .int (nI (yC Y)), .int (nI (yNow Y))]) := (hO8 (0) (by omega)).trans hE0
  have fC8_38 : E_8 (2) = .inl (cy 4, 40, .inr (.inr (.inr (.inr (f2))))) := (hO8 (2) (by omega)).trans hE2
  have fC8_22 : E_8 (7) = .inl (cy 4, 8, .inr (.inr (.inr (.inr (f7))))) := (hO8 (7) (by omega)).trans hE7
  have fC8_14 : E_8 (8) = .inl (cy 0, 32, .inl (f8)) := (hO8 (8) (by omega)).trans hE8
  have fC8_18 : E_8 (9) = .inl (cy 0, 32, .inl (f9)) := (hO8 (9) (by omega)).trans hE9
  have fC8_19 : E_8 (10) = .inl (cy 0, 32, .inl (f10)) := (hO8 (10) (by omega)).trans hE10
  have fC8_20 : E_8 (11) = .inl (cy 0, 32, .inl (f11)) := (hO8 (11) (by omega)).trans hE11
  have fC8_21 : E_8 (12) = .inl (cy 0, 32, .inl (f12)) := (hO8 (12) (by omega)).trans hE12
  have fC8_16 : E_8 (13) = .inl (cy 0, 32, .inl (f13)) := (hO8 (13) (by omega)).trans hE13
  have fC8_17 : E_8 (14) = .inl (cy 0, 32, .inl (f14)) := (hO8 (14) (by omega)).trans hE14
  have fC8_15 : E_8 (15) = .inl (cy 1, 32, .inl (f15)) := (hO8 (15) (by omega)).trans hE15
  have fC8_45 : E_8 (1000 + i) = .inr (2, [.int (nI (yh Y (i))), .int (nI (yg Y (i))), .int (nI (ye Y (i))), .int (nI (ys Y (i)))]) := (hO8 (1000 + i) (by omega)).trans hf0
  refine lv_iconst (v := (nI (0))) hx hb dX4_setFor_11 (by decide) ?_
  refine lv_istore_n (lv' := [(2, .int (nI (0))), (0, .ref ((ad (0)))), (1, .ref ((ad (1000 + i))))]) hx hb dX4_setFor_12 rfl hl (by decide) rfl (fun ls hl => ?_)
  have loop_13 : ∀ (n_ : Nat) (q : Nat) (bl : Nat) (PP : List (Nat × Nat × Nat)) (SS : List Nat) (g7 : Nat → Option Nat) (g8 : Nat → Int32) (g9 : Nat → Int32) (g10 : Nat → Int32) (g11 : Nat → Int32) (g12 : Nat → Int32) (g13 : Nat → Int32) (g14 : Nat → Int32) (Ec : Nat → va_E) (H : Heap) (locs : List Loc), va_P D vwCl (kW K ad Ec) H → va_D A (kW K ad Ec) → va_S A s.heap H locs → (q ≤ yB Y) → (bl = min 8 (ripeL Y q).length) → (PP = layF Y (lookK Y) bl) → (sawR (yg Y (i) / ys Y (i) + 2) PP SS g8 g9 g10 g11 g12 g13 g14) → (∀ p, p < bl → g7 p = some (ad (2000 + lookK Y p))) → (Ec (6) = .inr (3, [.ref ((ad (7))), .ref ((ad (8))), .ref ((ad (9))), .ref ((ad (10))), .ref ((ad (11))), .ref ((ad (12))), .ref ((ad (13))), .ref ((ad (14))), .ref ((ad (15))), .ref ((ad (16))), .ref ((ad (17))), .int (nI (bl)), .int (nI (PP.length)), .int (nI (yg Y (i) / ys Y (i) + 2))])) → (Ec (7) = .inl (cy 4, 8, .inr (.inr (.inr (.inr (g7)))))) → (Ec (8) = .inl (cy 0, 32, .inl (g8))) → (Ec (9) = .inl (cy 0, 32, .inl (g9))) → (Ec (10) = .inl (cy 0, 32, .inl (g10))) → (Ec (11) = .inl (cy 0, 32, .inl (g11))) → (Ec (12) = .inl (cy 0, 32, .inl (g12))) → (Ec (13) = .inl (cy 0, 32, .inl (g13))) → (Ec (14) = .inl (cy 0, 32, .inl (g14))) → (∀ j_ : Nat, j_ ≠ 6 → j_ ≠ 7 → j_ ≠ 8 → j_ ≠ 9 → j_ ≠ 10 → j_ ≠ 11 → j_ ≠ 12 → j_ ≠ 13 → j_ ≠ 14 → Ec j_ = E_8 j_) → yB Y - q < n_ → ∀ (ls : Array Slot), lv_has ls 4 [(0, .ref ((ad (0)))), (1, .ref ((ad (1000 + i)))), (2, .int (nI (q)))] → W p l e (headSpec wsX4_setFor ({ frames := 3, cells := 0, slots := 0, locals := 95 } : Room)).room s m ([.ref ((ad (0))), .ref ((ad (1000 + i)))] : List Value).toArray below meth c H locs 0 0 (MQ below (va_Qi (fun (r : Int32) (u : Nat → va_E) => ∃ (PP : List (Nat × Nat × Nat)) (SS : List Nat) (g7 : Nat → Option Nat) (g8 g9 g10 g11 g12 g13 g14 g15 : Nat → Int32), u (6) = .inr (3, [.ref ((ad (7))), .ref ((ad (8))), .ref ((ad (9))), .ref ((ad (10))), .ref ((ad (11))), .ref ((ad (12))), .ref ((ad (13))), .ref ((ad (14))), .ref ((ad (15))), .ref ((ad (16))), .ref ((ad (17))), .int (nI ((lookL Y).length)), .int (nI (PP.length)), .int (nI (yg Y (i) / ys Y (i) + 2))]) ∧ u (7) = .inl (cy 4, 8, .inr (.inr (.inr (.inr (g7))))) ∧ u (8) = .inl (cy 0, 32, .inl (g8)) ∧ u (9) = .inl (cy 0, 32, .inl (g9)) ∧ u (10) = .inl (cy 0, 32, .inl (g10)) ∧ u (11) = .inl (cy 0, 32, .inl (g11)) ∧ u (12) = .inl (cy 0, 32, .inl (g12)) ∧ u (13) = .inl (cy 0, 32, .inl (g13)) ∧ u (14) = .inl (cy 0, 32, .inl (g14)) ∧ u (15) = .inl (cy 1, 32, .inl (g15)) ∧ (∀ j_ : Nat, j_ ≠ 6 → j_ ≠ 7 → j_ ≠ 8 → j_ ≠ 9 → j_ ≠ 10 → j_ ≠ 11 → j_ ≠ 12 → j_ ≠ 13 → j_ ≠ 14 → j_ ≠ 15 → u j_ = E j_) ∧ PP = layF Y (lookK Y) ((lookL Y).length) ∧ sawR (yg Y (i) / ys Y (i) + 2) PP SS g8 g9 g10 g11 g12 g13 g14 ∧ (∀ p, p < (lookL Y).length → g7 p = some (ad (2000 + lookK Y p))) ∧ r = nI (rv8 (bestY Y i)) ∧ bestY Y i < 2 ^ (lookL Y).length) (fun u t => wE D cy A (kW K ad u) t) A) ([.ref ((ad (0))), .ref ((ad (1000 + i)))] : List Value).toArray s 0 0 A) (F0 m 13 ls []) := by
    intro n_
    induction n_ with
    | zero => intro q bl PP SS g7 g8 g9 g10 g11 g12 g13 g14 Ec H locs hP hD hS hq hbl hPP hsw hL7 hk_13_0 hk_13_1 hk_13_2 hk_13_3 hk_13_4 hk_13_5 hk_13_6 hk_13_7 hk_13_8 hO_13 hm_; exact absurd hm_ (Nat.not_lt_zero _)
    | succ n_ ih_13 =>
      intro q bl PP SS g7 g8 g9 g10 g11 g12 g13 g14 Ec H locs hP hD hS hq hbl hPP hsw hL7 hk_13_0 hk_13_1 hk_13_2 hk_13_3 hk_13_4 hk_13_5 hk_13_6 hk_13_7 hk_13_8 hO_13 hm_ ls hl
      have fL13_25 : Ec (0) = .inr (4, [.ref ((ad (1))), .ref ((ad (2))), .ref ((ad (3))), .ref ((ad (4))), .ref ((ad (5))), .ref ((ad (6))), .ref ((ad (18))), .int (nI (yF Y)), .int (nI (yB Y)), .int (nI (yC Y)), .int (nI (yNow Y))]) := (hO_13 (0) (by omega) (by omega) (by omega) (by omega) (by omega) (by omega) (by omega) (by omega) (by omega)).trans fC8_25
      have fL13_38 : Ec (2) = .inl (cy 4, 40, .inr (.inr (.inr (.inr (f2))))) := (hO_13 (2) (by omega) (by omega) (by omega) (by omega) (by omega) (by omega) (by omega) (by omega) (by omega)).trans fC8_38
      have fL13_15 : Ec (15) = .inl (cy 1, 32, .inl (f15)) := (hO_13 (15) (by omega) (by omega) (by omega) (by omega) (by omega) (by omega) (by omega) (by omega) (by omega)).trans fC8_15
      have fL13_45 : Ec (1000 + i) = .inr (2, [.int (nI (yh Y (i))), .int (nI (yg Y (i))), .int (nI (ye Y (i))), .int (nI (ys Y (i)))]) := (hO_13 (1000 + i) (by omega) (by omega) (by omega) (by omega) (by omega) (by omega) (by omega) (by omega) (by omega)).trans fC8_45
      have hlb := lay_bds hY hq hbl
      have hlk8 := look_len Y
      refine lv_iload_n hx hb dX4_setFor_13 rfl (lv_at hl 2 rfl) ?_
      refine lv_aload_n hx hb dX4_setFor_14 rfl (lv_at hl 0 rfl) ?_
      obtain ⟨p4, hp4⟩ := kW_pos (hKR.m (show keyOk Y (0) by unfold keyOk; omega))
      refine va_get (D := D) (ci := 4) (v := .int (nI (yB Y))) (C := RX4) (T := TX4) (N := 11) hx hb hts (by decide +kernel) hown hK hP p4 (kW_get hp4 fL13_25) rfl 8 (by decide) (hts (.fieldLink RX4 93 "CaskYard" "boltCount" "I") (by decide +kernel)) (fun _ h9 => h9) rfl dX4_setFor_15 ?_
      refine g_icmp_ge (tgt := 55) hx hb dX4_setFor_18 (by decide) (n_i (by omega)) (n_i (by omega)) (fun c_18 => ?_) (fun c_18 => ?_)
      · skip
        have hble := lay_all (show q = yB Y by omega) hbl
        have hpl32 : PP.length ≤ 32 := by rw [hPP]; omega
        have hl6 : ∀ i, i < PP.length → lnP PP i ≤ 600 := by rw [hPP]; exact fun i hi => (hlb.2.2 i hi).2
        have hR8 : ∀ i, i < PP.length → g8 i = nI (enD PP i).1 ∧ (enD PP i).1 < bl := fun i hi => ⟨(hsw.1 i hi).1, by rw [hPP] at hi ⊢; exact (hlb.2.2 i hi).1⟩
        refine lv_aload_n hx hb dX4_setFor_55 rfl (lv_at hl 0 rfl) ?_
        obtain ⟨p5, hp5⟩ := kW_pos (hKR.m (show keyOk Y (0) by unfold keyOk; omega))
        refine va_get (D := D) (ci := 4) (v := .ref ((ad (6)))) (C := RX4) (T := TX4) (N := 11) hx hb hts (by decide +kernel) hown hK hP p5 (kW_get hp5 fL13_25) rfl 5 (by decide) (hts (.fieldLink RX4 37 "CaskYard" "saw" "LCaskYard$Saw;") (by decide +kernel)) (fun _ h9 => h9) rfl dX4_setFor_56 ?_
        refine lv_aload_n hx hb dX4_setFor_59 rfl (lv_at hl 1 rfl) ?_
        obtain ⟨p6, hp6⟩ := kW_pos hmf
        refine vp_callSi (va_Run.run (va_runV (As := []) (rest := [.ref ((ad (6)))]) ⟨hx, hb, hml, hown, hts⟩ (c_X2_wides l D cy K ad Ec (1000 + i) (hmf) (yh Y (i)) (yg Y (i)) (ye Y (i)) (ys Y (i)) (fL13_45) (hfo)) (cwV 0 hts gX4_setFor_X2_wides rfl rfl rfl (by decide +kernel) ⟨Nat.le_of_ble_eq_true rfl, Nat.le_of_ble_eq_true rfl⟩) ⟨rB2_blind, va_recv hK hP (ci := 2) (q0 := p6) rfl (kW_get hp6 fL13_45), (rB2_pre hP hK hN)⟩ rfl rfl hl.1 rfl (lv_room (Nat.le_of_ble_eq_true rfl)) dX4_setFor_60 ⟨Nat.le_of_ble_eq_true rfl, Nat.le_of_ble_eq_true rfl⟩)) (fun r_60 hr_60 => ?_)
        subst hr_60
        refine lv_aload_n hx hb dX4_setFor_63 rfl (lv_at hl 1 rfl) ?_
        obtain ⟨p7, hp7⟩ := kW_pos hmf
        refine vp_callSi (va_Run.run (va_runV (As := []) (rest := [.int (nI ((yg Y (i)) % (ys Y (i)))), .ref ((ad (6)))]) ⟨hx, hb, hml, hown, hts⟩ (c_X2_narrows l D cy K ad Ec (1000 + i) (hmf) (yh Y (i)) (yg Y (i)) (ye Y (i)) (ys Y (i)) (fL13_45) (hfo)) (cwV 0 hts gX4_setFor_X2_narrows rfl rfl rfl (by decide +kernel) ⟨Nat.le_of_ble_eq_true rfl, Nat.le_of_ble_eq_true rfl⟩) ⟨rB2_blind, va_recv hK hP (ci := 2) (q0 := p7) rfl (kW_get hp7 fL13_45), (rB2_pre hP hK hN)⟩ rfl rfl hl.1 rfl (lv_room (Nat.le_of_ble_eq_true rfl)) dX4_setFor_64 ⟨Nat.le_of_ble_eq_true rfl, Nat.le_of_ble_eq_true rfl⟩)) (fun r_64 hr_64 => ?_)
        subst hr_64
        have hFc := w_free hD hS hA
        obtain ⟨p8, hp8⟩ := kW_pos (hKR.m (show keyOk Y (6) by unfold keyOk; omega))
        refine va_calli (va_runV (As := [.int (nI ((yg Y (i)) % (ys Y (i)))), .int (nI ((ys Y (i)) - (yg Y (i)) % (ys Y (i))))]) (rest := []) ⟨hx, hb, hml, hown, hts⟩ (c_X3_fewestSet l D cy H.size K ad Ec (hKR.m (show keyOk Y (6) by unfold keyOk; omega)) (yg Y (i) / ys Y (i) + 2) (bl) (PP) (hk_13_0) (hKR.m (show keyOk Y (8) by unfold keyOk; omega)) (g8) (hk_13_2) (hKR.m (show keyOk Y (11) by unfold keyOk; omega)) (g11) (hk_13_5) (hKR.m (show keyOk Y (12) by unfold keyOk; omega)) (g12) (hk_13_6) (hKR.m (show keyOk Y (13) by unfold keyOk; omega)) (g13) (hk_13_7) (hKR.m (show keyOk Y (14) by unfold keyOk; omega)) (g14) (hk_13_8) (hKR.m (show keyOk Y (15) by unfold keyOk; omega)) (f15) (fL13_15) (hpl32) (hl6) (by omega) (SS) (hsw.2.1) (hR8) (fun i hi => (hsw.1 i hi).2.2.2.1) (fun i hi => (hsw.1 i hi).2.2.2.2.1) (fun i hi => (hsw.1 i hi).2.2.2.2.2) (hsw.2.2) (by omega) ((yg Y (i)) % (ys Y (i))) ((ys Y (i)) - (yg Y (i)) % (ys Y (i))) (by omega)) (cwV 2 hts gX4_setFor_X3_fewestSet rfl rfl rfl (by decide +kernel) ⟨Nat.le_of_ble_eq_true rfl, Nat.le_of_ble_eq_true rfl⟩) ⟨wB2_blind, va_recv hK hP (ci := 3) (q0 := p8) rfl (kW_get hp8 hk_13_0), wB2_pre hP hK hD hN⟩ rfl rfl hl.1 rfl (lv_room (Nat.le_of_ble_eq_true rfl)) dX4_setFor_67 ⟨Nat.le_of_ble_eq_true rfl, Nat.le_of_ble_eq_true rfl⟩) hS (fun q _ h => hFc q h) hFc (fun r_67 E_67 t_ H locs ht hvm hw_67 hB _ _ hS => ?_)
        obtain ⟨hP1, hK1, hD1⟩ := hB
        rw [ht] at hP1
        have hP := hP1
        have hD := hD1.weaken (fun _ _ _ h => hFc _ h)
        obtain ⟨f67, b67, k67_0, hO67, hres_67, ha67⟩ := hw_67
        have fC67_25 : E_67 (0) = .inr (4, [.ref ((ad (1))), .ref ((ad (2))), .ref ((ad (3))), .ref ((ad (4))), .ref ((ad (5))), .ref ((ad (6))), .ref ((ad (18))), .int (nI (yF Y)), .int (nI (yB Y)), .int (nI (yC Y)), .int (nI (yNow Y))]) := (hO67 (0) (by omega)).trans fL13_25
        have fC67_38 : E_67 (2) = .inl (cy 4, 40, .inr (.inr (.inr (.inr (f2))))) := (hO67 (2) (by omega)).trans fL13_38
        have fC67_45 : E_67 (1000 + i) = .inr (2, [.int (nI (yh Y (i))), .int (nI (yg Y (i))), .int (nI (ye Y (i))), .int (nI (ys Y (i)))]) := (hO67 (1000 + i) (by omega)).trans fL13_45
        have fC67_13 : E_67 (6) = .inr (3, [.ref ((ad (7))), .ref ((ad (8))), .ref ((ad (9))), .ref ((ad (10))), .ref ((ad (11))), .ref ((ad (12))), .ref ((ad (13))), .ref ((ad (14))), .ref ((ad (15))), .ref ((ad (16))), .ref ((ad (17))), .int (nI (bl)), .int (nI (PP.length)), .int (nI (yg Y (i) / ys Y (i) + 2))]) := (hO67 (6) (by omega)).trans hk_13_0
        have fC67_22 : E_67 (7) = .inl (cy 4, 8, .inr (.inr (.inr (.inr (g7))))) := (hO67 (7) (by omega)).trans hk_13_1
        have fC67_14 : E_67 (8) = .inl (cy 0, 32, .inl (g8)) := (hO67 (8) (by omega)).trans hk_13_2
        have fC67_18 : E_67 (9) = .inl (cy 0, 32, .inl (g9)) := (hO67 (9) (by omega)).trans hk_13_3
        have fC67_19 : E_67 (10) = .inl (cy 0, 32, .inl (g10)) := (hO67 (10) (by omega)).trans hk_13_4
        have fC67_20 : E_67 (11) = .inl (cy 0, 32, .inl (g11)) := (hO67 (11) (by omega)).trans hk_13_5
        have fC67_21 : E_67 (12) = .inl (cy 0, 32, .inl (g12)) := (hO67 (12) (by omega)).trans hk_13_6
        have fC67_16 : E_67 (13) = .inl (cy 0, 32, .inl (g13)) := (hO67 (13) (by omega)).trans hk_13_7
        have fC67_17 : E_67 (14) = .inl (cy 0, 32, .inl (g14)) := (hO67 (14) (by omega)).trans hk_13_8
        rw [hPP, hble] at ha67
        have hlk := best_link ha67
        rw [hble] at hPP hL7
        exact W.iret (v := (r_67)) hx hb hr (fun t ht hW => ⟨⟨_, E_67, rfl, ⟨PP, SS, g7, g8, g9, g10, g11, g12, g13, g14, f67, (by rw [← hble]; exact fC67_13), fC67_22, fC67_14, fC67_18, fC67_19, fC67_20, fC67_21, fC67_16, fC67_17, k67_0, (fun j_ h0_ h1_ h2_ h3_ h4_ h5_ h6_ h7_ h8_ h9_ => by rw [hO67 j_ h9_, hO_13 j_ h0_ h1_ h2_ h3_ h4_ h5_ h6_ h7_ h8_, hO8 j_ h0_]), hPP, hsw, hL7, (by rw [hres_67, hlk.1]), hlk.2⟩, by rw [ht]; exact hP, va_K.moved hW.alike hK, hD⟩, hS.F ht⟩) hS.2.2 dX4_setFor_70
      · skip
        refine lv_aload_n hx hb dX4_setFor_21 rfl (lv_at hl 0 rfl) ?_
        obtain ⟨p9, hp9⟩ := kW_pos (hKR.m (show keyOk Y (0) by unfold keyOk; omega))
        refine va_get (D := D) (ci := 4) (v := .ref ((ad (2)))) (C := RX4) (T := TX4) (N := 11) hx hb hts (by decide +kernel) hown hK hP p9 (kW_get hp9 fL13_25) rfl 1 (by decide) (hts (.fieldLink RX4 17 "CaskYard" "bolts" "[LCaskYard$Bolt;") (by decide +kernel)) (fun _ h9 => h9) rfl dX4_setFor_22 ?_
        refine lv_iload_n hx hb dX4_setFor_25 rfl (lv_at hl 2 rfl) ?_
        obtain ⟨p10, hp10⟩ := kW_pos (hKR.m (show keyOk Y (2) by unfold keyOk; omega))
        refine g_aald hx hb hK hP p10 4 (kW_get hp10 fL13_38) rfl (q) rfl (by omega) (by decide) dX4_setFor_26 ?_
        refine g_topr (y := .ref ((ad (2000 + q)))) (ref_t hr2 (by omega)) ?_
        refine lv_astore_n (lv' := [(3, .ref ((ad (2000 + q)))), (0, .ref ((ad (0)))), (1, .ref ((ad (1000 + i)))), (2, .int (nI (q)))]) hx hb dX4_setFor_27 rfl hl (by decide) rfl (fun ls hl => ?_)
        obtain ⟨fB, gB, hb0, hb1, hb2, hbA⟩ := boltAt_congr (hYb q (by omega)) ((hO_13 (2000 + q) (by omega) (by omega) (by omega) (by omega) (by omega) (by omega) (by omega) (by omega) (by omega)).trans (hO8 _ (by omega))) ((hO_13 (3000 + q) (by omega) (by omega) (by omega) (by omega) (by omega) (by omega) (by omega) (by omega) (by omega)).trans (hO8 _ (by omega))) ((hO_13 (4000 + q) (by omega) (by omega) (by omega) (by omega) (by omega) (by omega) (by omega) (by omega) (by omega)).trans (hO8 _ (by omega)))
        have hbw := hyb q (by omega)
        have hbl4 := hbw.2.1
        refine lv_aload_n hx hb dX4_setFor_28 rfl (lv_at hl 0 rfl) ?_
        refine lv_ifnull hx hb dX4_setFor_29 ?_
        refine lv_aload_n hx hb dX4_setFor_32 rfl (lv_at hl 1 rfl) ?_
        refine lv_aload_n hx hb dX4_setFor_33 rfl (lv_at hl 0 rfl) ?_
        obtain ⟨p11, hp11⟩ := kW_pos (hKR.m (show keyOk Y (0) by unfold keyOk; omega))
        refine vp_callSi (va_Run.run (va_runV (As := [.ref ((ad (2000 + q)))]) (rest := []) ⟨hx, hb, hml, hown, hts⟩ (c_X4_isRipe l D cy K ad Ec (hKR.m (show keyOk Y (0) by unfold keyOk; omega)) (yF Y) (yB Y) (yC Y) (yNow Y) (fL13_25) (2000 + q) (hKR.m (show keyOk Y (2000 + q) by unfold keyOk; omega)) (ad (3000 + q)) (ad (4000 + q)) (ysp Y (q)) (nI ((yP Y (q)).length)) (hb0) (⟨(hyb (q) (by omega)).1, hy0⟩)) (cwV 1 hts gX4_setFor_X4_isRipe rfl rfl rfl (by decide +kernel) ⟨Nat.le_of_ble_eq_true rfl, Nat.le_of_ble_eq_true rfl⟩) ⟨rB2_blind, va_recv hK hP (ci := 4) (q0 := p11) rfl (kW_get hp11 fL13_25), (rB2_pre hP hK hN)⟩ rfl rfl hl.1 rfl (lv_room (Nat.le_of_ble_eq_true rfl)) dX4_setFor_34 ⟨Nat.le_of_ble_eq_true rfl, Nat.le_of_ble_eq_true rfl⟩)) (fun r_34 hr_34 => ?_)
        subst hr_34
        refine g_ifeq_b (tgt := 49) hx hb dX4_setFor_37 (by decide) (fun c_37 => ?_) (fun c_37 => ?_)
        · skip
          refine lv_iinc (v := (nI (q + 1))) (lv' := [(2, .int (nI (q + 1))), (3, .ref ((ad (2000 + q)))), (0, .ref ((ad (0)))), (1, .ref ((ad (1000 + i))))]) hx hb dX4_setFor_49 hl (k := 3) rfl (nI_add _ _) (by decide) rfl (fun ls hl => ?_)
          refine lv_goto (tgt := 13) hx hb dX4_setFor_52 (by decide) ?_
          exact ih_13 (q + 1) (bl) (PP) (SS) (g7) (g8) (g9) (g10) (g11) (g12) (g13) (g14) (Ec) H locs hP hD hS (by omega) (lay_rip c_37 hbl) hPP hsw hL7 hk_13_0 hk_13_1 hk_13_2 hk_13_3 hk_13_4 hk_13_5 hk_13_6 hk_13_7 hk_13_8 (fun j_ h0_ h1_ h2_ h3_ h4_ h5_ h6_ h7_ h8_ => by rw [hO_13 j_ h0_ h1_ h2_ h3_ h4_ h5_ h6_ h7_ h8_]) (by omega) ls (lv_sub hl [2, 3, 0] rfl)
        · skip
          refine lv_aload_n hx hb dX4_setFor_40 rfl (lv_at hl 1 rfl) ?_
          obtain ⟨p12, hp12⟩ := kW_pos (hKR.m (show keyOk Y (0) by unfold keyOk; omega))
          refine va_get (D := D) (ci := 4) (v := .ref ((ad (6)))) (C := RX4) (T := TX4) (N := 11) hx hb hts (by decide +kernel) hown hK hP p12 (kW_get hp12 fL13_25) rfl 5 (by decide) (hts (.fieldLink RX4 37 "CaskYard" "saw" "LCaskYard$Saw;") (by decide +kernel)) (fun _ h9 => h9) rfl dX4_setFor_41 ?_
          refine lv_aload_n hx hb dX4_setFor_44 rfl (lv_at hl 0 rfl) ?_
          refine lv_iload_n hx hb dX4_setFor_45 rfl (lv_at hl 3 rfl) ?_
          have hFc := w_free hD hS hA
          obtain ⟨p13, hp13⟩ := kW_pos (hKR.m (show keyOk Y (6) by unfold keyOk; omega))
          refine va_callv (va_runV (As := [.ref ((ad (2000 + q))), .int (nI (q))]) (rest := []) ⟨hx, hb, hml, hown, hts⟩ (c_X3_lay l D cy H.size K ad Ec (hKR.m (show keyOk Y (6) by unfold keyOk; omega)) (yg Y (i) / ys Y (i) + 2) (bl) (PP) (hk_13_0) (hKR.m (show keyOk Y (7) by unfold keyOk; omega)) (g7) (hk_13_1) (hKR.m (show keyOk Y (8) by unfold keyOk; omega)) (g8) (hk_13_2) (hKR.m (show keyOk Y (9) by unfold keyOk; omega)) (g9) (hk_13_3) (hKR.m (show keyOk Y (10) by unfold keyOk; omega)) (g10) (hk_13_4) (hKR.m (show keyOk Y (11) by unfold keyOk; omega)) (g11) (hk_13_5) (hKR.m (show keyOk Y (12) by unfold keyOk; omega)) (g12) (hk_13_6) (hKR.m (show keyOk Y (13) by unfold keyOk; omega)) (g13) (hk_13_7) (hKR.m (show keyOk Y (14) by unfold keyOk; omega)) (g14) (hk_13_8) (SS) (hsw) (by omega) (2000 + q) (3000 + q) (4000 + q) (hKR.m (show keyOk Y (2000 + q) by unfold keyOk; omega)) (hKR.m (show keyOk Y (3000 + q) by unfold keyOk; omega)) (hKR.m (show keyOk Y (4000 + q) by unfold keyOk; omega)) (⟨by omega, by omega, by omega, by omega, by omega, by omega⟩) (nI (ysp Y (q))) (yP Y (q)) (fB) (gB) (hb0) (hb1) (hb2) (hbw.2.1) (hbA) (hbw.2.2) (by rw [hPP]; exact hlb.2.1) (q) (by omega)) (cwV 2 hts gX4_setFor_X3_lay rfl rfl rfl (by decide +kernel) ⟨Nat.le_of_ble_eq_true rfl, Nat.le_of_ble_eq_true rfl⟩) ⟨wB2_blind, va_recv hK hP (ci := 3) (q0 := p13) rfl (kW_get hp13 hk_13_0), wB2_pre hP hK hD hN⟩ rfl rfl hl.1 rfl (lv_room (Nat.le_of_ble_eq_true rfl)) dX4_setFor_46 ⟨Nat.le_of_ble_eq_true rfl, Nat.le_of_ble_eq_true rfl⟩) hS (fun q _ h => hFc q h) hFc (fun E_46 t_ H locs ht hvm hw_46 hB _ _ hS => ?_)
          obtain ⟨hP1, hK1, hD1⟩ := hB
          rw [ht] at hP1
          have hP := hP1
          have hD := hD1.weaken (fun _ _ _ h => hFc _ h)
          obtain ⟨P_46, S_46, b_46, g7_46, g8_46, g9_46, g10_46, g11_46, g12_46, g13_46, g14_46, k46_0, k46_1, k46_2, k46_3, k46_4, k46_5, k46_6, k46_7, k46_8, hO46, hsw46, hya46, hyb46⟩ := hw_46
          have fC46_25 : E_46 (0) = .inr (4, [.ref ((ad (1))), .ref ((ad (2))), .ref ((ad (3))), .ref ((ad (4))), .ref ((ad (5))), .ref ((ad (6))), .ref ((ad (18))), .int (nI (yF Y)), .int (nI (yB Y)), .int (nI (yC Y)), .int (nI (yNow Y))]) := (hO46 (0) (by omega) (by omega) (by omega) (by omega) (by omega) (by omega) (by omega) (by omega) (by omega)).trans fL13_25
          have fC46_38 : E_46 (2) = .inl (cy 4, 40, .inr (.inr (.inr (.inr (f2))))) := (hO46 (2) (by omega) (by omega) (by omega) (by omega) (by omega) (by omega) (by omega) (by omega) (by omega)).trans fL13_38
          have fC46_15 : E_46 (15) = .inl (cy 1, 32, .inl (f15)) := (hO46 (15) (by omega) (by omega) (by omega) (by omega) (by omega) (by omega) (by omega) (by omega) (by omega)).trans fL13_15
          have fC46_45 : E_46 (1000 + i) = .inr (2, [.int (nI (yh Y (i))), .int (nI (yg Y (i))), .int (nI (ye Y (i))), .int (nI (ys Y (i)))]) := (hO46 (1000 + i) (by omega) (by omega) (by omega) (by omega) (by omega) (by omega) (by omega) (by omega) (by omega)).trans fL13_45
          have fC46_46 : E_46 (2000 + q) = .inr (0, [.int (nI (ysp Y (q))), .ref ((ad (3000 + q))), .ref ((ad (4000 + q))), .int (nI ((yP Y (q)).length))]) := (hO46 (2000 + q) (by omega) (by omega) (by omega) (by omega) (by omega) (by omega) (by omega) (by omega) (by omega)).trans hb0
          have fC46_47 : E_46 (3000 + q) = .inl (cy 0, 4, .inl (fB)) := (hO46 (3000 + q) (by omega) (by omega) (by omega) (by omega) (by omega) (by omega) (by omega) (by omega) (by omega)).trans hb1
          have fC46_48 : E_46 (4000 + q) = .inl (cy 0, 4, .inl (gB)) := (hO46 (4000 + q) (by omega) (by omega) (by omega) (by omega) (by omega) (by omega) (by omega) (by omega) (by omega)).trans hb2
          have hst := lay_step (by omega) c_37 hbl hPP hL7 hya46 hyb46
          refine lv_iinc (v := (nI (q + 1))) (lv' := [(2, .int (nI (q + 1))), (3, .ref ((ad (2000 + q)))), (0, .ref ((ad (0)))), (1, .ref ((ad (1000 + i))))]) hx hb dX4_setFor_49 hl (k := 3) rfl (nI_add _ _) (by decide) rfl (fun ls hl => ?_)
          refine lv_goto (tgt := 13) hx hb dX4_setFor_52 (by decide) ?_
          exact ih_13 (q + 1) (b_46) (P_46) (S_46) (g7_46) (g8_46) (g9_46) (g10_46) (g11_46) (g12_46) (g13_46) (g14_46) (E_46) H locs hP hD hS (by omega) hst.1 hst.2.1 hsw46 hst.2.2 k46_0 k46_1 k46_2 k46_3 k46_4 k46_5 k46_6 k46_7 k46_8 (fun j_ h0_ h1_ h2_ h3_ h4_ h5_ h6_ h7_ h8_ => by rw [hO46 j_ h0_ h1_ h2_ h3_ h4_ h5_ h6_ h7_ h8_, hO_13 j_ h0_ h1_ h2_ h3_ h4_ h5_ h6_ h7_ h8_]) (by omega) ls (lv_sub hl [2, 3, 0] rfl)
  exact loop_13 _ (0) (0) ([]) ([]) (f7) (f8) (f9) (f10) (f11) (f12) (f13) (f14) (E_8) H locs hP hD hS (by omega) (by simp [ripeL]) rfl (sawR_nil _ _ _ _ _ _ _ _) (fun p hp => absurd hp (Nat.not_lt_zero _)) k8_0 fC8_22 fC8_14 fC8_18 fC8_19 fC8_20 fC8_21 fC8_16 fC8_17 (fun j_ h0_ h1_ h2_ h3_ h4_ h5_ h6_ h7_ h8_ => rfl) (Nat.lt_succ_self _) ls (lv_sub hl [1, 2, 0] rfl)
