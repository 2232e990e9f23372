set_option maxHeartbeats 4000000 in
set_option maxRecDepth 100000 in
theorem c_X5_bestSet (l : Launch) (D : va_G) (cy : Nat → ClassId) (sz : Nat) (h0 : Nat) (ad : Nat → Nat) (I : Nat → Int32) (F : Nat → Nat → Int32) (Y : YT) (hM : MR I F Y) (hY : WF Y) (i : Nat) (hif : i < yF Y) : Met l yX5_bestSet wsX5_bestSet ({ frames := 3, cells := 0, slots := 0, locals := 71 } : Room) (va_Pc [.ref h0, .int (nI (i))] (wB D cy sz (wM cy h0 ad I F))) (va_Qi (fun (r : Int32) (u : (Nat → Int32) × (Nat → Nat → Int32)) => r = nI (bestY Y i) ∧ bsI I u.1 Y i ∧ bsF F u.2 Y) (fun u t => wE D cy (va_A (wM cy h0 ad I F) sz) (wM cy h0 ad u.1 u.2) t) (va_A (wM cy h0 ad I F) sz)) 0 0 (va_A (wM cy h0 ad I F) sz) := by
  refine Met.ofW (cc := cX5_bestSet) (maxL := 6) (ret := (some .int)) (by decide) rfl ?_
  intro p e s m args below meth c s₁ B hml hv
  obtain ⟨rfl, hsz, hP, hK, hD0⟩ := hv
  have hx := B.exec
  have hb := B.bytes
  have hr := B.returns
  have hts := atoms_spec (ws := wsX5_bestSet) B.pre
  have hown : s.vm.findClass RX5 = some m.cls := findClass_of_methodNamed B.named
  have hlocks := B.notSynchronized
  subst hsz
  have hD := hD0.self (sz := s.heap.size)
  generalize hAe : va_A (wM cy h0 ad I F) s.heap.size = A at hD ⊢
  have hA : ∀ q : Nat, s.heap.size ≤ q → A q := w_A hAe
  have hS : va_S A s.heap s.heap [] := va_S.rf
  have hl := lv_entry ([.ref h0, .int (nI (i))]) (n := 6) (Nat.le_of_ble_eq_true rfl)
  rw [lg_entry_eq]
  generalize (lg_sl ([.ref h0, .int (nI (i))]) ++ List.replicate (6 - (lg_sl ([.ref h0, .int (nI (i))])).length) Slot.unset).toArray = ls at hl ⊢
  have hl : lv_has ls 6 [(0, .ref h0), (1, .int (nI (i)))] := hl
  obtain ⟨hm1, hm2, hm3, hm4, hmF, hmB, hmC, hmR, hmW⟩ := id hM
  obtain ⟨hy0, hyF, hyB, hyC, hyf, hyb, hyc, hyr, hyw⟩ := id hY
  have hfo := hyf i hif
  have hqle := Nat.div_le_self (yg Y i) (ys Y i)
  have hmd := Nat.mod_lt (yg Y i) (show 0 < ys Y i by omega)
  refine lv_aload_n hx hb dX5_bestSet_0 rfl (lv_at hl 0 rfl) ?_
  refine lv_iload_n hx hb dX5_bestSet_1 rfl (lv_at hl 1 rfl) ?_
  have hFc := w_free hD hS hA
  refine va_callv (va_runV (As := [.int (nI (i))]) (rest := []) ⟨hx, hb, hml, hown, hts⟩ (c_X5_pieces l D cy s.heap.size h0 ad I F (Y) (hM) (hY) (i) (hif)) (cwV 1 hts gX5_bestSet_X5_pieces rfl rfl rfl (by decide +kernel) ⟨Nat.le_of_ble_eq_true rfl, Nat.le_of_ble_eq_true rfl⟩) ⟨wB_blind, va_recv hK hP (ci := 5) (q0 := 0) rfl rfl, wB_pre hP hK hD⟩ rfl rfl hl.1 rfl (lv_room (Nat.le_of_ble_eq_true rfl)) dX5_bestSet_2 ⟨Nat.le_of_ble_eq_true rfl, Nat.le_of_ble_eq_true rfl⟩) hS (fun q _ h => hFc q h) hFc (fun u_2 t H locs ht hvm hw_2 hB _ _ hS => ?_)
  obtain ⟨I_2, F_2⟩ := u_2
  obtain ⟨hP1, hK1, hD1⟩ := hB
  rw [ht] at hP1
  dsimp only at hP1 hD1 hw_2
  have hP := hP1
  have hD := hD1.weaken (fun _ _ _ h => hFc _ h)
  have hI2 := (Prod.mk.inj hw_2).1
  rw [(Prod.mk.inj hw_2).2] at hP hD
  have hIc0 : bsI I I_2 Y i := by rw [hI2]; exact bsI_0 I Y i
  have hI2b : I_2 2 = nI (yB Y) := (hIc0.1 2 (by omega)).trans hm2
  have hI2d : I_2 4 = nI (yNow Y) := (hIc0.1 4 (by omega)).trans hm4
  have hP : va_P D vwCl (wM cy h0 ad I_2 F) H := hP
  have hD : va_D A (wM cy h0 ad I_2 F) := hD
  have join_50 : ∀ (n : Nat) (F5 : Nat → Nat → Int32) (H : Heap) (locs : List Loc), va_P D vwCl (wM cy h0 ad I_2 F5) H → va_D A (wM cy h0 ad I_2 F5) → va_S A s.heap H locs → (n = (lookL Y).length) → (bsF F F5 Y) → ∀ (ls : Array Slot), lv_has ls 6 [(0, .ref h0), (1, .int (nI (i))), (2, .int (nI (n)))] → W p l e (headSpec wsX5_bestSet ({ frames := 3, cells := 0, slots := 0, locals := 71 } : Room)).room s m ([.ref h0, .int (nI (i))] : List Value).toArray below meth c H locs 0 0 (MQ below (va_Qi (fun (r : Int32) (u : (Nat → Int32) × (Nat → Nat → Int32)) => r = nI (bestY Y i) ∧ bsI I u.1 Y i ∧ bsF F u.2 Y) (fun u t => wE D cy A (wM cy h0 ad u.1 u.2) t) A) ([.ref h0, .int (nI (i))] : List Value).toArray s 0 0 A) (F0 m 50 ls []) := by
    intro n F5 H locs hP hD hS hnl hFq0 ls hl
    have hn8 : n ≤ 8 := hnl ▸ look_len Y
    have hp8 := pow_8 hn8
    refine lv_iconst (v := (nI (0))) hx hb dX5_bestSet_50 (by decide) ?_
    refine lv_istore_n (lv' := [(3, .int (nI (0))), (0, .ref h0), (1, .int (nI (i))), (2, .int (nI (n)))]) hx hb dX5_bestSet_51 rfl hl (by decide) rfl (fun ls hl => ?_)
    refine lv_iconst (v := (nI (1))) hx hb dX5_bestSet_52 (by decide) ?_
    refine lv_istore (lv' := [(4, .int (nI (1))), (3, .int (nI (0))), (0, .ref h0), (1, .int (nI (i))), (2, .int (nI (n)))]) hx hb dX5_bestSet_53 hl (by decide) rfl (fun ls hl => ?_)
    have loop_55 : ∀ (n_ : Nat) (x : Nat) (b : Nat) (Ic : Nat → Int32) (Fc : Nat → Nat → Int32) (H : Heap) (locs : List Loc), va_P D vwCl (wM cy h0 ad Ic Fc) H → va_D A (wM cy h0 ad Ic Fc) → va_S A s.heap H locs → (1 ≤ x) → (x ≤ 2 ^ n) → (b = bestF Y (yg Y i / ys Y i + 3) (yg Y i / ys Y i + 2) (yg Y i % ys Y i) (ys Y i - yg Y i % ys Y i) (x - 1)) → (b < x) → (bsI I Ic Y i) → (bsF F Fc Y) → 2 ^ n + 1 - x < n_ → ∀ (ls : Array Slot), lv_has ls 6 [(0, .ref h0), (1, .int (nI (i))), (2, .int (nI (n))), (3, .int (nI (b))), (4, .int (nI (x)))] → W p l e (headSpec wsX5_bestSet ({ frames := 3, cells := 0, slots := 0, locals := 71 } : Room)).room s m ([.ref h0, .int (nI (i))] : List Value).toArray below meth c H locs 0 0 (MQ below (va_Qi (fun (r : Int32) (u : (Nat → Int32) × (Nat → Nat → Int32)) => r = nI (bestY Y i) ∧ bsI I u.1 Y i ∧ bsF F u.2 Y) (fun u t => wE D cy A (wM cy h0 ad u.1 u.2) t) A) ([.ref h0, .int (nI (i))] : List Value).toArray s 0 0 A) (F0 m 55 ls []) := by
      intro n_
      induction n_ with
      | zero => intro x b Ic Fc H locs hP hD hS hx1 hx2 hbe hbx hIc hFq hm_; exact absurd hm_ (Nat.not_lt_zero _)
      | succ n_ ih_55 =>
        intro x b Ic Fc H locs hP hD hS hx1 hx2 hbe hbx hIc hFq hm_ ls hl
        refine lv_iload hx hb dX5_bestSet_55 (lv_at hl 4 rfl) ?_
        refine lv_iconst (v := (nI (1))) hx hb dX5_bestSet_57 (by decide) ?_
        refine lv_iload_n hx hb dX5_bestSet_58 rfl (lv_at hl 2 rfl) ?_
        refine lv_ishl hx hb dX5_bestSet_59 ?_
        refine g_top (y := (nI (2 ^ n))) (n_shl1 (by omega)) ?_
        refine g_icmp_ge (tgt := 150) hx hb dX5_bestSet_60 (by decide) (n_i (by omega)) (n_i (by omega)) (fun c_60 => ?_) (fun c_60 => ?_)
        · skip
          obtain rfl : x = 2 ^ n := by omega
          refine lv_iload_n hx hb dX5_bestSet_150 rfl (lv_at hl 3 rfl) ?_
          exact W.iret (v := (nI (b))) hx hb hr (fun t ht hW => ⟨⟨_, (Ic, Fc), rfl, ⟨by rw [hbe, hnl]; rfl, hIc, hFq⟩, by rw [ht]; exact hP, va_K.moved hW.alike hK, hD⟩, hS.F ht⟩) hS.2.2 dX5_bestSet_151
        · skip
          have hpx := popN_le x
          have hpb := popN_le b
          have join_115 :  (betterN x b) → ∀ (ls : Array Slot), lv_has ls 6 [(0, .ref h0), (1, .int (nI (i))), (2, .int (nI (n))), (3, .int (nI (b))), (4, .int (nI (x)))] → W p l e (headSpec wsX5_bestSet ({ frames := 3, cells := 0, slots := 0, locals := 71 } : Room)).room s m ([.ref h0, .int (nI (i))] : List Value).toArray below meth c H locs 0 0 (MQ below (va_Qi (fun (r : Int32) (u : (Nat → Int32) × (Nat → Nat → Int32)) => r = nI (bestY Y i) ∧ bsI I u.1 Y i ∧ bsF F u.2 Y) (fun u t => wE D cy A (wM cy h0 ad u.1 u.2) t) A) ([.ref h0, .int (nI (i))] : List Value).toArray s 0 0 A) (F0 m 115 ls []) := by
            intro  hbt ls hl
            have hxl : x < 2 ^ (lookL Y).length := by rw [← hnl]; omega
            have hTT := bs_T hY hxl
            refine lv_aload_n hx hb dX5_bestSet_115 rfl (lv_at hl 0 rfl) ?_
            refine lv_iload hx hb dX5_bestSet_116 (lv_at hl 4 rfl) ?_
            have hFc := w_free hD hS hA
            refine va_callv (va_runV (As := [.int (nI (x))]) (rest := []) ⟨hx, hb, hml, hown, hts⟩ (c_X5_take l D cy H.size h0 ad Ic Fc (Y) (bs_MR hM hIc hFq) (hY) (x) (by omega) (lookK Y) (bs_lk hFq hxl)) (cwV 1 hts gX5_bestSet_X5_take rfl rfl rfl (by decide +kernel) ⟨Nat.le_of_ble_eq_true rfl, Nat.le_of_ble_eq_true rfl⟩) ⟨wB_blind, va_recv hK hP (ci := 5) (q0 := 0) rfl rfl, wB_pre hP hK hD⟩ rfl rfl hl.1 rfl (lv_room (Nat.le_of_ble_eq_true rfl)) dX5_bestSet_118 ⟨Nat.le_of_ble_eq_true rfl, Nat.le_of_ble_eq_true rfl⟩) hS (fun q _ h => hFc q h) hFc (fun u_118 t H locs ht hvm hw_118 hB _ _ hS => ?_)
            obtain ⟨I_118, F_118⟩ := u_118
            obtain ⟨hP1, hK1, hD1⟩ := hB
            rw [ht] at hP1
            dsimp only at hP1 hD1 hw_118
            have hP := hP1
            have hD := hD1.weaken (fun _ _ _ h => hFc _ h)
            obtain ⟨t22, t23, hu_118, hTA⟩ := hw_118
            have hI1 := (Prod.mk.inj hu_118).1
            have hF1 := (Prod.mk.inj hu_118).2
            have hIc1 : bsI I I_118 Y i := by rw [hI1]; exact bsI_up hIc _
            have hFq1 : bsF F F_118 Y := by rw [hF1]; exact bsF_up (bsF_up hFq _ (by decide) (by decide)) _ (by decide) (by decide)
            have hTB : arrP (F_118 22) (F_118 23) 0 (takeS Y (lookK Y) x 8) := by rw [hF1]; exact hTA
            have h25 : I_118 25 = nI (takeS Y (lookK Y) x 8).length := by rw [hI1]; rfl
            refine lv_aload_n hx hb dX5_bestSet_121 rfl (lv_at hl 0 rfl) ?_
            have hFc := w_free hD hS hA
            refine va_callv (va_runV (As := []) (rest := []) ⟨hx, hb, hml, hown, hts⟩ (c_X5_reckon l D cy H.size h0 ad I_118 F_118 (Y) (bs_MR hM hIc1 hFq1) (hY) (takeS Y (lookK Y) x 8) (hTT.1) (hTT.2) (yg Y i / ys Y i + 3) (yg Y i / ys Y i + 2) (yg Y i % ys Y i) (h25) (hIc1.2.1) (hIc1.2.2.1) (hIc1.2.2.2.1) (hTB) (⟨Nat.le_trans (by decide) (Nat.le_add_left 2 _), by omega, by omega, by omega⟩)) (cwV 0 hts gX5_bestSet_X5_reckon rfl rfl rfl (by decide +kernel) ⟨Nat.le_of_ble_eq_true rfl, Nat.le_of_ble_eq_true rfl⟩) ⟨wB_blind, va_recv hK hP (ci := 5) (q0 := 0) rfl rfl, wB_pre hP hK hD⟩ rfl rfl hl.1 rfl (lv_room (Nat.le_of_ble_eq_true rfl)) dX5_bestSet_122 ⟨Nat.le_of_ble_eq_true rfl, Nat.le_of_ble_eq_true rfl⟩) hS (fun q _ h => hFc q h) hFc (fun u_122 t H locs ht hvm hw_122 hB _ _ hS => ?_)
            obtain ⟨I_122, F_122⟩ := u_122
            obtain ⟨hP1, hK1, hD1⟩ := hB
            rw [ht] at hP1
            dsimp only at hP1 hD1 hw_122
            have hP := hP1
            have hD := hD1.weaken (fun _ _ _ h => hFc _ h)
            obtain ⟨t24, hu_122, hD24⟩ := hw_122
            have hI2x := (Prod.mk.inj hu_122).1
            have hF2x := (Prod.mk.inj hu_122).2
            have hIc2 : bsI I I_122 Y i := by rw [hI2x]; exact hIc1
            have hFq2 : bsF F F_122 Y := by rw [hF2x]; exact bsF_up hFq1 _ (by decide) (by decide)
            have hw28 := hIc2.2.2.2.1
            have hw29 := hIc2.2.2.2.2
            have hmz := dpD_bd hY hTT.1 hTT.2 (yg Y i / ys Y i + 3) (yg Y i / ys Y i + 2) 0 (yg Y i % ys Y i)
            have h24 : F_122 24 (41 * 0 + yg Y i % ys Y i) = zI (dpN (yg Y i / ys Y i + 3) (yg Y i / ys Y i + 2) (lenL Y (takeS Y (lookK Y) x 8)) (yg Y i % ys Y i)) := by rw [hF2x, va_up_self]; exact hD24 0 (by omega) (by omega) _ (by omega)
            rw [List.drop_zero] at hmz
            refine lv_aload_n hx hb dX5_bestSet_125 rfl (lv_at hl 0 rfl) ?_
            refine lv_iconst (v := (nI (0))) hx hb dX5_bestSet_126 (by decide) ?_
            refine lv_aload_n hx hb dX5_bestSet_127 rfl (lv_at hl 0 rfl) ?_
            refine va_get (D := D) (ci := 5) (v := .int (I_122 28)) (C := RX5) (T := TX5) (N := 34) hx hb hts (by decide +kernel) hown hK hP 0 rfl rfl 28 (by decide) (hts (.fieldLink RX5 152 "CaskYardModel" "wideMany" "I") (by decide +kernel)) (fun _ h9 => h9) rfl dX5_bestSet_128 ?_
            refine g_top (y := (nI (yg Y i % ys Y i))) hw28 ?_
            refine lv_aload_n hx hb dX5_bestSet_131 rfl (lv_at hl 0 rfl) ?_
            refine va_get (D := D) (ci := 5) (v := .int (I_122 29)) (C := RX5) (T := TX5) (N := 34) hx hb hts (by decide +kernel) hown hK hP 0 rfl rfl 29 (by decide) (hts (.fieldLink RX5 149 "CaskYardModel" "narrowMany" "I") (by decide +kernel)) (fun _ h9 => h9) rfl dX5_bestSet_132 ?_
            refine g_top (y := (nI (ys Y i - yg Y i % ys Y i))) hw29 ?_
            refine vp_callSi (va_Run.run (va_runV (As := [.int (nI (0)), .int (nI (yg Y i % ys Y i)), .int (nI (ys Y i - yg Y i % ys Y i))]) (rest := []) ⟨hx, hb, hml, hown, hts⟩ (c_X5_gives l D cy h0 ad I_122 F_122 (0) (yg Y i % ys Y i) (ys Y i - yg Y i % ys Y i) (dpN (yg Y i / ys Y i + 3) (yg Y i / ys Y i + 2) (lenL Y (takeS Y (lookK Y) x 8)) (yg Y i % ys Y i)) (by omega) (h24) (by omega) (by omega)) (cwV 3 hts gX5_bestSet_X5_gives rfl rfl rfl (by decide +kernel) ⟨Nat.le_of_ble_eq_true rfl, Nat.le_of_ble_eq_true rfl⟩) ⟨rB_blind, va_recv hK hP (ci := 5) (q0 := 0) rfl rfl, (rB_pre hP hK)⟩ rfl rfl hl.1 rfl (lv_room (Nat.le_of_ble_eq_true rfl)) dX5_bestSet_135 ⟨Nat.le_of_ble_eq_true rfl, Nat.le_of_ble_eq_true rfl⟩)) (fun r_135 hr_135 => ?_)
            subst hr_135
            refine g_ifeq_b (tgt := 144) hx hb dX5_bestSet_138 (by decide) (fun c_138 => ?_) (fun c_138 => ?_)
            · skip
              refine lv_iinc (v := (nI (x + 1))) (lv' := [(4, .int (nI (x + 1))), (0, .ref h0), (1, .int (nI (i))), (2, .int (nI (n))), (3, .int (nI (b)))]) hx hb dX5_bestSet_144 hl (k := 4) rfl (nI_add _ _) (by decide) rfl (fun ls hl => ?_)
              refine lv_goto (tgt := 55) hx hb dX5_bestSet_147 (by decide) ?_
              exact ih_55 (x + 1) (b) (I_122) (F_122) H locs hP hD hS (by omega) (by omega) ((bestF_s hx1 hbe).2 (fun q9 => c_138 q9.2)) (by omega) hIc2 hFq2 (by omega) ls (lv_sub hl [1, 2, 3, 4, 0] rfl)
            · skip
              refine lv_iload hx hb dX5_bestSet_141 (lv_at hl 4 rfl) ?_
              refine lv_istore_n (lv' := [(3, .int (nI (x))), (0, .ref h0), (1, .int (nI (i))), (2, .int (nI (n))), (4, .int (nI (x)))]) hx hb dX5_bestSet_143 rfl hl (by decide) rfl (fun ls hl => ?_)
              refine lv_iinc (v := (nI (x + 1))) (lv' := [(4, .int (nI (x + 1))), (3, .int (nI (x))), (0, .ref h0), (1, .int (nI (i))), (2, .int (nI (n)))]) hx hb dX5_bestSet_144 hl (k := 4) rfl (nI_add _ _) (by decide) rfl (fun ls hl => ?_)
              refine lv_goto (tgt := 55) hx hb dX5_bestSet_147 (by decide) ?_
              exact ih_55 (x + 1) (x) (I_122) (F_122) H locs hP hD hS (by omega) (by omega) ((bestF_s hx1 hbe).1 ⟨hbt, c_138⟩) (by omega) hIc2 hFq2 (by omega) ls (lv_sub hl [2, 3, 4, 1, 0] rfl)
          refine lv_iload_n hx hb dX5_bestSet_63 rfl (lv_at hl 3 rfl) ?_
          refine g_if_eq (tgt := 100) hx hb dX5_bestSet_64 (by decide) (n_i (by omega)) (fun c_64 => ?_) (fun c_64 => ?_)
          · skip
            have hbt : betterN x b := Or.inl (by omega)
            refine lv_iconst (v := (nI (1))) hx hb dX5_bestSet_100 (by decide) ?_
            refine lv_goto (tgt := 105) hx hb dX5_bestSet_101 (by decide) ?_
            refine lv_istore (lv' := [(5, .int (nI (1))), (0, .ref h0), (1, .int (nI (i))), (2, .int (nI (n))), (3, .int (nI (b))), (4, .int (nI (x)))]) hx hb dX5_bestSet_105 hl (by decide) rfl (fun ls hl => ?_)
            refine lv_iload hx hb dX5_bestSet_107 (lv_at hl 0 rfl) ?_
            refine g_if_ne (tgt := 115) hx hb dX5_bestSet_109 (by decide) (n_i (by omega)) (fun c_109 => ?_) (fun c_109 => ?_)
            · skip
              exact join_115   hbt ls (lv_sub hl [1, 2, 3, 4, 5] rfl)
            · skip
              exfalso; omega
          · skip
            refine lv_iload hx hb dX5_bestSet_67 (lv_at hl 4 rfl) ?_
            refine vp_callSi (va_Run.run (va_runS (As := [.int (nI (x))]) (rest := []) ⟨hx, hb, hml, hown, hts⟩ (c_X5_ones l  (x) (by omega)) (va_cwS 1 hts gX5_bestSet_X5_ones rfl rfl rfl (by decide +kernel) ⟨Nat.le_of_ble_eq_true rfl, Nat.le_of_ble_eq_true rfl⟩) ⟨nB_blind, nB_pre⟩ rfl rfl hl.1 rfl (lv_room (Nat.le_of_ble_eq_true rfl)) dX5_bestSet_69 ⟨Nat.le_of_ble_eq_true rfl, Nat.le_of_ble_eq_true rfl⟩)) (fun r_69 hr_69 => ?_)
            subst hr_69
            refine lv_iload_n hx hb dX5_bestSet_72 rfl (lv_at hl 3 rfl) ?_
            refine vp_callSi (va_Run.run (va_runS (As := [.int (nI (b))]) (rest := [.int (nI (popN (x)))]) ⟨hx, hb, hml, hown, hts⟩ (c_X5_ones l  (b) (by omega)) (va_cwS 1 hts gX5_bestSet_X5_ones rfl rfl rfl (by decide +kernel) ⟨Nat.le_of_ble_eq_true rfl, Nat.le_of_ble_eq_true rfl⟩) ⟨nB_blind, nB_pre⟩ rfl rfl hl.1 rfl (lv_room (Nat.le_of_ble_eq_true rfl)) dX5_bestSet_73 ⟨Nat.le_of_ble_eq_true rfl, Nat.le_of_ble_eq_true rfl⟩)) (fun r_73 hr_73 => ?_)
            subst hr_73
            refine g_icmp_lt (tgt := 100) hx hb dX5_bestSet_76 (by decide) (n_i (by omega)) (n_i (by omega)) (fun c_76 => ?_) (fun c_76 => ?_)
            · skip
              have hbt : betterN x b := Or.inr (Or.inl (by omega))
              refine lv_iconst (v := (nI (1))) hx hb dX5_bestSet_100 (by decide) ?_
              refine lv_goto (tgt := 105) hx hb dX5_bestSet_101 (by decide) ?_
              refine lv_istore (lv' := [(5, .int (nI (1))), (0, .ref h0), (1, .int (nI (i))), (2, .int (nI (n))), (3, .int (nI (b))), (4, .int (nI (x)))]) hx hb dX5_bestSet_105 hl (by decide) rfl (fun ls hl => ?_)
              refine lv_iload hx hb dX5_bestSet_107 (lv_at hl 0 rfl) ?_
              refine g_if_ne (tgt := 115) hx hb dX5_bestSet_109 (by decide) (n_i (by omega)) (fun c_109 => ?_) (fun c_109 => ?_)
              · skip
                exact join_115   hbt ls (lv_sub hl [1, 2, 3, 4, 5] rfl)
              · skip
                exfalso; omega
            · skip
              refine lv_iload hx hb dX5_bestSet_79 (lv_at hl 4 rfl) ?_
              refine vp_callSi (va_Run.run (va_runS (As := [.int (nI (x))]) (rest := []) ⟨hx, hb, hml, hown, hts⟩ (c_X5_ones l  (x) (by omega)) (va_cwS 1 hts gX5_bestSet_X5_ones rfl rfl rfl (by decide +kernel) ⟨Nat.le_of_ble_eq_true rfl, Nat.le_of_ble_eq_true rfl⟩) ⟨nB_blind, nB_pre⟩ rfl rfl hl.1 rfl (lv_room (Nat.le_of_ble_eq_true rfl)) dX5_bestSet_81 ⟨Nat.le_of_ble_eq_true rfl, Nat.le_of_ble_eq_true rfl⟩)) (fun r_81 hr_81 => ?_)
              subst hr_81
              refine lv_iload_n hx hb dX5_bestSet_84 rfl (lv_at hl 3 rfl) ?_
              refine vp_callSi (va_Run.run (va_runS (As := [.int (nI (b))]) (rest := [.int (nI (popN (x)))]) ⟨hx, hb, hml, hown, hts⟩ (c_X5_ones l  (b) (by omega)) (va_cwS 1 hts gX5_bestSet_X5_ones rfl rfl rfl (by decide +kernel) ⟨Nat.le_of_ble_eq_true rfl, Nat.le_of_ble_eq_true rfl⟩) ⟨nB_blind, nB_pre⟩ rfl rfl hl.1 rfl (lv_room (Nat.le_of_ble_eq_true rfl)) dX5_bestSet_85 ⟨Nat.le_of_ble_eq_true rfl, Nat.le_of_ble_eq_true rfl⟩)) (fun r_85 hr_85 => ?_)
              subst hr_85
              refine g_icmp_ne (tgt := 104) hx hb dX5_bestSet_88 (by decide) (n_i (by omega)) (n_i (by omega)) (fun c_88 => ?_) (fun c_88 => ?_)
              · skip
                have hnb : ¬ betterN x b := by rintro (h9 | h9 | h9) <;> omega
                refine lv_iconst (v := (nI (0))) hx hb dX5_bestSet_104 (by decide) ?_
                refine lv_istore (lv' := [(5, .int (nI (0))), (0, .ref h0), (1, .int (nI (i))), (2, .int (nI (n))), (3, .int (nI (b))), (4, .int (nI (x)))]) hx hb dX5_bestSet_105 hl (by decide) rfl (fun ls hl => ?_)
                refine lv_iload hx hb dX5_bestSet_107 (lv_at hl 0 rfl) ?_
                refine g_if_ne (tgt := 115) hx hb dX5_bestSet_109 (by decide) (n_i (by omega)) (fun c_109 => ?_) (fun c_109 => ?_)
                · skip
                  exfalso; omega
                · skip
                  refine lv_goto (tgt := 144) hx hb dX5_bestSet_112 (by decide) ?_
                  refine lv_iinc (v := (nI (x + 1))) (lv' := [(4, .int (nI (x + 1))), (5, .int (nI (0))), (0, .ref h0), (1, .int (nI (i))), (2, .int (nI (n))), (3, .int (nI (b)))]) hx hb dX5_bestSet_144 hl (k := 5) rfl (nI_add _ _) (by decide) rfl (fun ls hl => ?_)
                  refine lv_goto (tgt := 55) hx hb dX5_bestSet_147 (by decide) ?_
                  exact ih_55 (x + 1) (b) (Ic) (Fc) H locs hP hD hS (by omega) (by omega) ((bestF_s hx1 hbe).2 (fun q9 => hnb q9.1)) (by omega) hIc hFq (by omega) ls (lv_sub hl [2, 3, 4, 5, 0] rfl)
              · skip
                refine lv_iload hx hb dX5_bestSet_91 (lv_at hl 4 rfl) ?_
                refine lv_iload_n hx hb dX5_bestSet_93 rfl (lv_at hl 3 rfl) ?_
                refine vp_callSi (va_Run.run (va_runS (As := [.int (nI (x)), .int (nI (b))]) (rest := []) ⟨hx, hb, hml, hown, hts⟩ (c_X5_isAhead l  (x) (b) (by omega) (by omega)) (va_cwS 2 hts gX5_bestSet_X5_isAhead rfl rfl rfl (by decide +kernel) ⟨Nat.le_of_ble_eq_true rfl, Nat.le_of_ble_eq_true rfl⟩) ⟨nB_blind, nB_pre⟩ rfl rfl hl.1 rfl (lv_room (Nat.le_of_ble_eq_true rfl)) dX5_bestSet_94 ⟨Nat.le_of_ble_eq_true rfl, Nat.le_of_ble_eq_true rfl⟩)) (fun r_94 hr_94 => ?_)
                subst hr_94
                refine g_ifeq_b (tgt := 104) hx hb dX5_bestSet_97 (by decide) (fun c_97 => ?_) (fun c_97 => ?_)
                · skip
                  have hnb : ¬ betterN x b := by
                    rintro (h9 | h9 | h9)
                    · omega
                    · omega
                    · exact c_97 h9.2
                  refine lv_iconst (v := (nI (0))) hx hb dX5_bestSet_104 (by decide) ?_
                  refine lv_istore (lv' := [(5, .int (nI (0))), (0, .ref h0), (1, .int (nI (i))), (2, .int (nI (n))), (3, .int (nI (b))), (4, .int (nI (x)))]) hx hb dX5_bestSet_105 hl (by decide) rfl (fun ls hl => ?_)
                  refine lv_iload hx hb dX5_bestSet_107 (lv_at hl 0 rfl) ?_
                  refine g_if_ne (tgt := 115) hx hb dX5_bestSet_109 (by decide) (n_i (by omega)) (fun c_109 => ?_) (fun c_109 => ?_)
                  · skip
                    exfalso; omega
                  · skip
                    refine lv_goto (tgt := 144) hx hb dX5_bestSet_112 (by decide) ?_
                    refine lv_iinc (v := (nI (x + 1))) (lv' := [(4, .int (nI (x + 1))), (5, .int (nI (0))), (0, .ref h0), (1, .int (nI (i))), (2, .int (nI (n))), (3, .int (nI (b)))]) hx hb dX5_bestSet_144 hl (k := 5) rfl (nI_add _ _) (by decide) rfl (fun ls hl => ?_)
                    refine lv_goto (tgt := 55) hx hb dX5_bestSet_147 (by decide) ?_
                    exact ih_55 (x + 1) (b) (Ic) (Fc) H locs hP hD hS (by omega) (by omega) ((bestF_s hx1 hbe).2 (fun q9 => hnb q9.1)) (by omega) hIc hFq (by omega) ls (lv_sub hl [2, 3, 4, 5, 0] rfl)
                · skip
                  have hbt : betterN x b := Or.inr (Or.inr ⟨by omega, c_97⟩)
                  refine lv_iconst (v := (nI (1))) hx hb dX5_bestSet_100 (by decide) ?_
                  refine lv_goto (tgt := 105) hx hb dX5_bestSet_101 (by decide) ?_
                  refine lv_istore (lv' := [(5, .int (nI (1))), (0, .ref h0), (1, .int (nI (i))), (2, .int (nI (n))), (3, .int (nI (b))), (4, .int (nI (x)))]) hx hb dX5_bestSet_105 hl (by decide) rfl (fun ls hl => ?_)
                  refine lv_iload hx hb dX5_bestSet_107 (lv_at hl 0 rfl) ?_
                  refine g_if_ne (tgt := 115) hx hb dX5_bestSet_109 (by decide) (n_i (by omega)) (fun c_109 => ?_) (fun c_109 => ?_)
                  · skip
                    exact join_115   hbt ls (lv_sub hl [1, 2, 3, 4, 5] rfl)
                  · skip
                    exfalso; omega
    exact loop_55 _ (1) (0) (I_2) (F5) H locs hP hD hS (by omega) (by omega) rfl (by omega) hIc0 hFq0 (Nat.lt_succ_self _) ls (lv_sub hl [2, 3, 4, 1, 0] rfl)
  refine lv_iconst (v := (nI (0))) hx hb dX5_bestSet_5 (by decide) ?_
  refine lv_istore_n (lv' := [(2, .int (nI (0))), (0, .ref h0), (1, .int (nI (i)))]) hx hb dX5_bestSet_6 rfl hl (by decide) rfl (fun ls hl => ?_)
  refine lv_iconst (v := (nI (0))) hx hb dX5_bestSet_7 (by decide) ?_
  refine lv_istore_n (lv' := [(3, .int (nI (0))), (2, .int (nI (0))), (0, .ref h0), (1, .int (nI (i)))]) hx hb dX5_bestSet_8 rfl hl (by decide) rfl (fun ls hl => ?_)
  have loop_9 : ∀ (n_ : Nat) (n : Nat) (q : Nat) (g32 : Nat → Int32) (H : Heap) (locs : List Loc), va_P D vwCl (wM cy h0 ad I_2 (va_up F 32 g32)) H → va_D A (wM cy h0 ad I_2 (va_up F 32 g32)) → va_S A s.heap H locs → (q ≤ yB Y) → (n = (ripeL Y q).length) → ((ripeL Y q).length ≤ 8) → (∀ k, k < n → g32 k = nI ((ripeL Y q).getD k 0)) → yB Y - q < n_ → ∀ (ls : Array Slot), lv_has ls 6 [(0, .ref h0), (1, .int (nI (i))), (2, .int (nI (n))), (3, .int (nI (q)))] → W p l e (headSpec wsX5_bestSet ({ frames := 3, cells := 0, slots := 0, locals := 71 } : Room)).room s m ([.ref h0, .int (nI (i))] : List Value).toArray below meth c H locs 0 0 (MQ below (va_Qi (fun (r : Int32) (u : (Nat → Int32) × (Nat → Nat → Int32)) => r = nI (bestY Y i) ∧ bsI I u.1 Y i ∧ bsF F u.2 Y) (fun u t => wE D cy A (wM cy h0 ad u.1 u.2) t) A) ([.ref h0, .int (nI (i))] : List Value).toArray s 0 0 A) (F0 m 9 ls []) := by
    intro n_
    induction n_ with
    | zero => intro n q g32 H locs hP hD hS hq hn hn8 hro hm_; exact absurd hm_ (Nat.not_lt_zero _)
    | succ n_ ih_9 =>
      intro n q g32 H locs hP hD hS hq hn hn8 hro hm_ ls hl
      obtain ⟨F1, hF1⟩ : ∃ G, G = va_up F 32 g32 := ⟨_, rfl⟩
      rw [← hF1] at hP hD
      have eF1_32 : F1 32 = g32 := by rw [hF1]; exact va_up_self _ _ _
      refine lv_iload_n hx hb dX5_bestSet_9 rfl (lv_at hl 3 rfl) ?_
      refine lv_aload_n hx hb dX5_bestSet_10 rfl (lv_at hl 0 rfl) ?_
      refine va_get (D := D) (ci := 5) (v := .int (I_2 2)) (C := RX5) (T := TX5) (N := 34) hx hb hts (by decide +kernel) hown hK hP 0 rfl rfl 2 (by decide) (hts (.fieldLink RX5 122 "CaskYardModel" "bolts" "I") (by decide +kernel)) (fun _ h9 => h9) rfl dX5_bestSet_11 ?_
      refine g_top (y := (nI (yB Y))) hI2b ?_
      refine g_icmp_ge (tgt := 50) hx hb dX5_bestSet_14 (by decide) (n_i (by omega)) (n_i (by omega)) (fun c_14 => ?_) (fun c_14 => ?_)
      · skip
        have hLk := look_end hq hn8 (Or.inl (by omega))
        exact join_50 (n) (F1) H locs hP hD hS (by rw [← hLk]; exact hn) ⟨fun k h1 h2 => by rw [hF1, va_up_ne _ _ (by omega)], fun k hk => by rw [eF1_32, hro k (by rw [hn, hLk]; exact hk), hLk]; rfl⟩ ls (lv_sub hl [0, 1, 2] rfl)
      · skip
        refine lv_iload_n hx hb dX5_bestSet_17 rfl (lv_at hl 2 rfl) ?_
        refine lv_bipush (v := (nI (8))) hx hb dX5_bestSet_18 (by decide) ?_
        refine g_icmp_ge (tgt := 50) hx hb dX5_bestSet_20 (by decide) (n_i (by omega)) (n_i (by omega)) (fun c_20 => ?_) (fun c_20 => ?_)
        · skip
          have hLk := look_end hq hn8 (Or.inr (by omega))
          exact join_50 (n) (F1) H locs hP hD hS (by rw [← hLk]; exact hn) ⟨fun k h1 h2 => by rw [hF1, va_up_ne _ _ (by omega)], fun k hk => by rw [eF1_32, hro k (by rw [hn, hLk]; exact hk), hLk]; rfl⟩ ls (lv_sub hl [0, 1, 2] rfl)
        · skip
          refine lv_aload_n hx hb dX5_bestSet_23 rfl (lv_at hl 0 rfl) ?_
          refine lv_iload_n hx hb dX5_bestSet_24 rfl (lv_at hl 3 rfl) ?_
          refine vp_callSi (va_Run.run (va_runV (As := [.int (nI (q))]) (rest := []) ⟨hx, hb, hml, hown, hts⟩ (c_X5_isRipe l D cy h0 ad I_2 F1 (q) (ysp Y q) (yNow Y) (by omega) (hI2d) (by rw [(show F1 9 = F 9 by rw [hF1, va_up_ne _ _ (by decide)])]; exact (hmB q (by omega)).1) (⟨(hyb q (by omega)).1, hy0⟩)) (cwV 1 hts gX5_bestSet_X5_isRipe rfl rfl rfl (by decide +kernel) ⟨Nat.le_of_ble_eq_true rfl, Nat.le_of_ble_eq_true rfl⟩) ⟨rB_blind, va_recv hK hP (ci := 5) (q0 := 0) rfl rfl, (rB_pre hP hK)⟩ rfl rfl hl.1 rfl (lv_room (Nat.le_of_ble_eq_true rfl)) dX5_bestSet_25 ⟨Nat.le_of_ble_eq_true rfl, Nat.le_of_ble_eq_true rfl⟩)) (fun r_25 hr_25 => ?_)
          subst hr_25
          refine g_ifne_b (tgt := 34) hx hb dX5_bestSet_28 (by decide) (fun c_28 => ?_) (fun c_28 => ?_)
          · skip
            have hrp : ripeY Y q := c_28
            refine lv_aload_n hx hb dX5_bestSet_34 rfl (lv_at hl 0 rfl) ?_
            refine va_get (D := D) (ci := 5) (v := .ref ((ad 32))) (C := RX5) (T := TX5) (N := 34) hx hb hts (by decide +kernel) hown hK hP 0 rfl rfl 32 (by decide) (hts (.fieldLink RX5 77 "CaskYardModel" "looked" "[I") (by decide +kernel)) (fun _ h9 => h9) rfl dX5_bestSet_35 ?_
            refine lv_iload_n hx hb dX5_bestSet_38 rfl (lv_at hl 2 rfl) ?_
            refine lv_iload_n hx hb dX5_bestSet_39 rfl (lv_at hl 3 rfl) ?_
            refine g_iast hx hb hK hP hD hS 23 0 rfl rfl (n) rfl (by omega) (by decide) dX5_bestSet_40 (fun H locs hP hD hS => ?_)
            rw [wMs_32] at hP hD
            rw [eF1_32] at hP hD
            obtain ⟨F2, hF2⟩ : ∃ G, G = va_up F1 32 (upd (g32) (n) (nI (q))) := ⟨_, rfl⟩
            rw [← hF2] at hP hD
            have eF2_32 : F2 32 = upd (g32) (n) (nI (q)) := by rw [hF2]; exact va_up_self _ _ _
            refine lv_iinc (v := (nI (n + 1))) (lv' := [(2, .int (nI (n + 1))), (0, .ref h0), (1, .int (nI (i))), (3, .int (nI (q)))]) hx hb dX5_bestSet_41 hl (k := 2) rfl (nI_add _ _) (by decide) rfl (fun ls hl => ?_)
            refine lv_iinc (v := (nI (q + 1))) (lv' := [(3, .int (nI (q + 1))), (2, .int (nI (n + 1))), (0, .ref h0), (1, .int (nI (i)))]) hx hb dX5_bestSet_44 hl (k := 3) rfl (nI_add _ _) (by decide) rfl (fun ls hl => ?_)
            refine lv_goto (tgt := 9) hx hb dX5_bestSet_47 (by decide) ?_
            have hFe : F2 = (va_up F 32 (upd (g32) (n) (nI (q)))) := fe1 eF2_32 (fun j_ a0_ => by rw [hF2, va_up_ne _ _ (by assumption), hF1, va_up_ne _ _ (by assumption)])
            rw [hFe] at hP hD
            exact ih_9 (n + 1) (q + 1) (upd (g32) (n) (nI (q))) H locs hP hD hS (by omega) (by rw [ripeL_t hrp, List.length_append, hn]; rfl) (by rw [ripeL_t hrp, List.length_append]; simp; omega) (by rw [ripeL_t hrp]; exact look_row hro hn) (by omega) ls (lv_sub hl [2, 3, 1, 0] rfl)
          · skip
            have hnr : ¬ ripeY Y q := c_28
            refine lv_goto (tgt := 44) hx hb dX5_bestSet_31 (by decide) ?_
            refine lv_iinc (v := (nI (q + 1))) (lv' := [(3, .int (nI (q + 1))), (0, .ref h0), (1, .int (nI (i))), (2, .int (nI (n)))]) hx hb dX5_bestSet_44 hl (k := 3) rfl (nI_add _ _) (by decide) rfl (fun ls hl => ?_)
            refine lv_goto (tgt := 9) hx hb dX5_bestSet_47 (by decide) ?_
            have hFe : F1 = (va_up F 32 (g32)) := fe1 eF1_32 (fun j_ a0_ => by rw [hF1, va_up_ne _ _ (by assumption)])
            rw [hFe] at hP hD
            exact ih_9 (n) (q + 1) (g32) H locs hP hD hS (by omega) (by rw [ripeL_f hnr]; exact hn) (by rw [ripeL_f hnr]; omega) (by rw [ripeL_f hnr]; exact hro) (by omega) ls (lv_sub hl [1, 2, 3, 0] rfl)
  have hFe : F = (va_up F 32 (F 32)) := fe1 rfl (fun j_ a0_ => rfl)
  rw [hFe] at hP hD
  exact loop_9 _ (0) (0) (F 32) H locs hP hD hS (by omega) rfl (by simp [ripeL]) (fun k hk => absurd hk (Nat.not_lt_zero _)) (Nat.lt_succ_self _) ls (lv_sub hl [2, 3, 1, 0] rfl)
set_option maxHeartbeats 4000000 in
set_option maxRecDepth 100000 in
theorem c_X5_fewest (l : Launch) (D : va_G) (cy : Nat → ClassId) (sz : Nat) (h0 : Nat) (ad : Nat → Nat) (I : Nat → Int32) (F : Nat → Nat → Int32) (Y : YT) (hM : MR I F Y) (hY : WF Y) (a : Int32) : Met l yX5_fewest wsX5_fewest ({ frames := 4, cells := 0, slots := 0, locals := 96 } : Room) (va_Pc [.ref h0, .int (a)] (wB D cy sz (wM cy h0 ad I F))) (va_Qi (fun (r : Int32) (u : (Nat → Int32) × (Nat → Nat → Int32)) => MP r u (sp_fewest Y a)) (fun u t => wE D cy (va_A (wM cy h0 ad I F) sz) (wM cy h0 ad u.1 u.2) t) (va_A (wM cy h0 ad I F) sz)) 0 0 (va_A (wM cy h0 ad I F) sz) := by
  refine Met.ofW (cc := cX5_fewest) (maxL := 3) (ret := (some .int)) (by decide) rfl ?_
  intro p e s m args below meth c s₁ B hml hv
  obtain ⟨rfl, hsz, hP, hK, hD0⟩ := hv
  have hx := B.exec
  have hb := B.bytes
  have hr := B.returns
  have hts := atoms_spec (ws := wsX5_fewest) B.pre
  have hown : s.vm.findClass RX5 = some m.cls := findClass_of_methodNamed B.named
  have hlocks := B.notSynchronized
  subst hsz
  have hD := hD0.self (sz := s.heap.size)
  generalize hAe : va_A (wM cy h0 ad I F) s.heap.size = A at hD ⊢
  have hA : ∀ q : Nat, s.heap.size ≤ q → A q := w_A hAe
  have hS : va_S A s.heap s.heap [] := va_S.rf
  have hl := lv_entry ([.ref h0, .int (a)]) (n := 3) (Nat.le_of_ble_eq_true rfl)
  rw [lg_entry_eq]
  generalize (lg_sl ([.ref h0, .int (a)]) ++ List.replicate (3 - (lg_sl ([.ref h0, .int (a)])).length) Slot.unset).toArray = ls at hl ⊢
  have hl : lv_has ls 3 [(0, .ref h0), (1, .int (a))] := hl
  obtain ⟨hm1, hm2, hm3, hm4, hmF, hmB, hmC, hmR, hmW⟩ := id hM
  obtain ⟨hy0, hyF, hyB, hyC, hyf, hyb, hyc, hyr, hyw⟩ := id hY
  refine lv_aload_n hx hb dX5_fewest_0 rfl (lv_at hl 0 rfl) ?_
  refine lv_iconst (v := (nI (0))) hx hb dX5_fewest_1 (by decide) ?_
  refine va_put (D := D) (ci := 5) (v := .int (nI (0))) (ty := .int) (C := RX5) (T := TX5) (N := 34) hx hb hts (by decide +kernel) tyX5 tyX5_ok nmX5 hown hK hP hD hS 0 rfl rfl 0 (by decide) (hts (.fieldLink RX5 83 "CaskYardModel" "code" "I") (by decide +kernel)) (fun _ h9 => h9) rfl (by decide +kernel) rfl rfl (Nat.le_of_ble_eq_true rfl) dX5_fewest_2 (fun H locs hP hD hS => ?_)
  have hP : va_P D vwCl (wM cy h0 ad (va_up I 0 (nI (0))) F) H := hP
  have hD : va_D A (wM cy h0 ad (va_up I 0 (nI (0))) F) := hD
  refine lv_aload_n hx hb dX5_fewest_5 rfl (lv_at hl 0 rfl) ?_
  refine lv_iload_n hx hb dX5_fewest_6 rfl (lv_at hl 1 rfl) ?_
  refine vp_callSi (va_Run.run (va_runV (As := [.int (a)]) (rest := []) ⟨hx, hb, hml, hown, hts⟩ (c_X5_isForm l D cy h0 ad (va_up I 0 (nI (0))) F (a) (yF Y) (hm1) (by omega)) (cwV 1 hts gX5_fewest_X5_isForm rfl rfl rfl (by decide +kernel) ⟨Nat.le_of_ble_eq_true rfl, Nat.le_of_ble_eq_true rfl⟩) ⟨rB_blind, va_recv hK hP (ci := 5) (q0 := 0) rfl rfl, (rB_pre hP hK)⟩ rfl rfl hl.1 rfl (lv_room (Nat.le_of_ble_eq_true rfl)) dX5_fewest_7 ⟨Nat.le_of_ble_eq_true rfl, Nat.le_of_ble_eq_true rfl⟩)) (fun r_7 hr_7 => ?_)
  subst hr_7
  refine g_ifne_b (tgt := 19) hx hb dX5_fewest_10 (by decide) (fun c_10 => ?_) (fun c_10 => ?_)
  · skip
    have hxa := ix_c c_10.1
    have hia : ix a < yF Y := by omega
    have ha := ix_n c_10.1
    have hl : lv_has ls 3 [(0, .ref h0), (1, .int (nI (ix a)))] := by rw [← ha]; exact hl
    refine lv_aload_n hx hb dX5_fewest_19 rfl (lv_at hl 0 rfl) ?_
    refine lv_iload_n hx hb dX5_fewest_20 rfl (lv_at hl 1 rfl) ?_
    have hFc := w_free hD hS hA
    refine va_calli (va_runV (As := [.int (nI (ix a))]) (rest := []) ⟨hx, hb, hml, hown, hts⟩ (c_X5_bestSet l D cy H.size h0 ad (va_up I 0 (nI (0))) F (Y) (MR_congr hM (fun k h1 h2 => va_up_ne _ _ (by omega)) (fun _ _ _ => rfl)) (hY) (ix a) (hia)) (cwV 1 hts gX5_fewest_X5_bestSet rfl rfl rfl (by decide +kernel) ⟨Nat.le_of_ble_eq_true rfl, Nat.le_of_ble_eq_true rfl⟩) ⟨wB_blind, va_recv hK hP (ci := 5) (q0 := 0) rfl rfl, wB_pre hP hK hD⟩ rfl rfl hl.1 rfl (lv_room (Nat.le_of_ble_eq_true rfl)) dX5_fewest_21 ⟨Nat.le_of_ble_eq_true rfl, Nat.le_of_ble_eq_true rfl⟩) hS (fun q _ h => hFc q h) hFc (fun r_21 u_21 t H locs ht hvm hw_21 hB _ _ hS => ?_)
    obtain ⟨I_21, F_21⟩ := u_21
    obtain ⟨hP1, hK1, hD1⟩ := hB
    rw [ht] at hP1
    dsimp only at hP1 hD1 hw_21
    have hP := hP1
    have hD := hD1.weaken (fun _ _ _ h => hFc _ h)
    have hIc := hw_21.2.1
    have hFq := hw_21.2.2
    have hbl : bestY Y (ix a) ≤ _ := bestF_le _ _ _ _ _ _
    have hp8 := pow_8 (look_len Y)
    have hM2 : MR I_21 F_21 Y := bs_MR (MR_congr hM (fun k h1 h2 => va_up_ne _ _ (by omega)) (fun _ _ _ => rfl)) hIc hFq
    have h0c : I_21 0 = nI 0 := hIc.1 0 (by omega)
    refine g_top (y := (nI (bestY Y (ix a)))) (hw_21.1) ?_
    refine lv_istore_n (lv' := [(2, .int (nI (bestY Y (ix a)))), (0, .ref h0), (1, .int (nI (ix a)))]) hx hb dX5_fewest_24 rfl hl (by decide) rfl (fun ls hl => ?_)
    refine lv_iload_n hx hb dX5_fewest_25 rfl (lv_at hl 0 rfl) ?_
    refine g_if_ne (tgt := 33) hx hb dX5_fewest_26 (by decide) (n_i (by omega)) (fun c_26 => ?_) (fun c_26 => ?_)
    · skip
      refine lv_iload_n hx hb dX5_fewest_33 rfl (lv_at hl 0 rfl) ?_
      refine vp_callSi (va_Run.run (va_runS (As := [.int (nI (bestY Y (ix a)))]) (rest := []) ⟨hx, hb, hml, hown, hts⟩ (c_X5_ones l  (bestY Y (ix a)) (by omega)) (va_cwS 1 hts gX5_fewest_X5_ones rfl rfl rfl (by decide +kernel) ⟨Nat.le_of_ble_eq_true rfl, Nat.le_of_ble_eq_true rfl⟩) ⟨nB_blind, nB_pre⟩ rfl rfl hl.1 rfl (lv_room (Nat.le_of_ble_eq_true rfl)) dX5_fewest_34 ⟨Nat.le_of_ble_eq_true rfl, Nat.le_of_ble_eq_true rfl⟩)) (fun r_34 hr_34 => ?_)
      subst hr_34
      exact W.iret (v := (nI (popN (bestY Y (ix a))))) hx hb hr (fun t ht hW => ⟨⟨_, (I_21, F_21), rfl, by rw [sp_fewest, if_pos (by omega)]; exact ⟨h0c, fun _ => (if_neg (by omega)).symm, hM2⟩, by rw [ht]; exact hP, va_K.moved hW.alike hK, hD⟩, hS.F ht⟩) hS.2.2 dX5_fewest_37
    · skip
      refine lv_iconst (v := (zI ((-1)))) hx hb dX5_fewest_29 (by decide) ?_
      refine lv_goto (tgt := 37) hx hb dX5_fewest_30 (by decide) ?_
      exact W.iret (v := (zI ((-1)))) hx hb hr (fun t ht hW => ⟨⟨_, (I_21, F_21), rfl, by rw [sp_fewest, if_pos (by omega)]; exact ⟨h0c, fun _ => (if_pos (by omega)).symm, hM2⟩, by rw [ht]; exact hP, va_K.moved hW.alike hK, hD⟩, hS.F ht⟩) hS.2.2 dX5_fewest_37
  · skip
    refine lv_aload_n hx hb dX5_fewest_13 rfl (lv_at hl 0 rfl) ?_
    refine lv_iconst (v := (nI (1))) hx hb dX5_fewest_14 (by decide) ?_
    have hFc := w_free hD hS hA
    refine va_calli (va_runV (As := [.int (nI (1))]) (rest := []) ⟨hx, hb, hml, hown, hts⟩ (c_X5_fail l D cy H.size h0 ad (va_up I 0 (nI (0))) F (nI 1)) (cwV 1 hts gX5_fewest_X5_fail rfl rfl rfl (by decide +kernel) ⟨Nat.le_of_ble_eq_true rfl, Nat.le_of_ble_eq_true rfl⟩) ⟨wB_blind, va_recv hK hP (ci := 5) (q0 := 0) rfl rfl, wB_pre hP hK hD⟩ rfl rfl hl.1 rfl (lv_room (Nat.le_of_ble_eq_true rfl)) dX5_fewest_15 ⟨Nat.le_of_ble_eq_true rfl, Nat.le_of_ble_eq_true rfl⟩) hS (fun q _ h => hFc q h) hFc (fun r_15 u_15 t H locs ht hvm hw_15 hB _ _ hS => ?_)
    obtain ⟨I_15, F_15⟩ := u_15
    obtain ⟨hP1, hK1, hD1⟩ := hB
    rw [ht] at hP1
    dsimp only at hP1 hD1 hw_15
    obtain ⟨hw_15, hu_15⟩ := hw_15
    rw [(Prod.mk.inj hu_15).1, (Prod.mk.inj hu_15).2] at hP1 hD1
    have hP := hP1
    have hD := hD1.weaken (fun _ _ _ h => hFc _ h)
    have hP : va_P D vwCl (wM cy h0 ad (va_up I 0 (nI (1))) F) H := hP
    have hD : va_D A (wM cy h0 ad (va_up I 0 (nI (1))) F) := hD
    refine g_top (y := (nI (0))) (hw_15) ?_
    exact W.iret (v := (nI (0))) hx hb hr (fun t ht hW => ⟨⟨_, ((va_up I 0 (nI (1))), F), rfl, by rw [sp_fewest, if_neg (by omega)]; exact MP_t rfl hM, by rw [ht]; exact hP, va_K.moved hW.alike hK, hD⟩, hS.F ht⟩) hS.2.2 dX5_fewest_18
