set_option maxHeartbeats 4000000 in
set_option maxRecDepth 100000 in
theorem c_X5_make (l : Launch) (D : va_G) (cy : Nat → ClassId) (sz : Nat) (h0 : Nat) (ad : Nat → Nat) (I : Nat → Int32) (F : Nat → Nat → Int32) (Y : YT) (hM : MR I F Y) (hY : WF Y) (a : Int32) : Met l yX5_make wsX5_make ({ frames := 4, cells := 0, slots := 0, locals := 96 } : Room) (va_Pc [.ref h0, .int (a)] (wB D cy sz (wM cy h0 ad I F))) (va_Qi (fun (r : Int32) (u : (Nat → Int32) × (Nat → Nat → Int32)) => MP r u (sp_make Y a)) (fun u t => wE D cy (va_A (wM cy h0 ad I F) sz) (wM cy h0 ad u.1 u.2) t) (va_A (wM cy h0 ad I F) sz)) 0 0 (va_A (wM cy h0 ad I F) sz) := by
  refine Met.ofW (cc := cX5_make) (maxL := 11) (ret := (some .int)) (by decide) rfl ?_
  intro p e s m args below meth c s₁ B hml hv
  obtain ⟨rfl, hsz, hP, hK, hD0⟩ := hv
  have hx := B.exec
  have hb := B.bytes
  have hr := B.returns
  have hts := atoms_spec (ws := wsX5_make) B.pre
  have hown : s.vm.findClass RX5 = some m.cls := findClass_of_methodNamed B.named
  have hlocks := B.notSynchronized
  subst hsz
  have hD := hD0.self (sz := s.heap.size)
  generalize hAe : va_A (wM cy h0 ad I F) s.heap.size = A at hD ⊢
  have hA : ∀ q : Nat, s.heap.size ≤ q → A q := w_A hAe
  have hS : va_S A s.heap s.heap [] := va_S.rf
  have hl := lv_entry ([.ref h0, .int (a)]) (n := 11) (Nat.le_of_ble_eq_true rfl)
  rw [lg_entry_eq]
  generalize (lg_sl ([.ref h0, .int (a)]) ++ List.replicate (11 - (lg_sl ([.ref h0, .int (a)])).length) Slot.unset).toArray = ls at hl ⊢
  have hl : lv_has ls 11 [(0, .ref h0), (1, .int (a))] := hl
  obtain ⟨hm1, hm2, hm3, hm4, hmF, hmB, hmC, hmR, hmW⟩ := id hM
  obtain ⟨hy0, hyF, hyB, hyC, hyf, hyb, hyc, hyr, hyw⟩ := id hY
  refine lv_aload_n hx hb dX5_make_0 rfl (lv_at hl 0 rfl) ?_
  refine lv_iconst (v := (nI (0))) hx hb dX5_make_1 (by decide) ?_
  refine va_put (D := D) (ci := 5) (v := .int (nI (0))) (ty := .int) (C := RX5) (T := TX5) (N := 34) hx hb hts (by decide +kernel) tyX5 tyX5_ok nmX5 hown hK hP hD hS 0 rfl rfl 0 (by decide) (hts (.fieldLink RX5 83 "CaskYardModel" "code" "I") (by decide +kernel)) (fun _ h9 => h9) rfl (by decide +kernel) rfl rfl (Nat.le_of_ble_eq_true rfl) dX5_make_2 (fun H locs hP hD hS => ?_)
  have hP : va_P D vwCl (wM cy h0 ad (va_up I 0 (nI (0))) F) H := hP
  have hD : va_D A (wM cy h0 ad (va_up I 0 (nI (0))) F) := hD
  refine lv_aload_n hx hb dX5_make_5 rfl (lv_at hl 0 rfl) ?_
  refine lv_iload_n hx hb dX5_make_6 rfl (lv_at hl 1 rfl) ?_
  refine vp_callSi (va_Run.run (va_runV (As := [.int (a)]) (rest := []) ⟨hx, hb, hml, hown, hts⟩ (c_X5_isForm l D cy h0 ad (va_up I 0 (nI (0))) F (a) (yF Y) (hm1) (by omega)) (cwV 1 hts gX5_make_X5_isForm rfl rfl rfl (by decide +kernel) ⟨Nat.le_of_ble_eq_true rfl, Nat.le_of_ble_eq_true rfl⟩) ⟨rB_blind, va_recv hK hP (ci := 5) (q0 := 0) rfl rfl, (rB_pre hP hK)⟩ rfl rfl hl.1 rfl (lv_room (Nat.le_of_ble_eq_true rfl)) dX5_make_7 ⟨Nat.le_of_ble_eq_true rfl, Nat.le_of_ble_eq_true rfl⟩)) (fun r_7 hr_7 => ?_)
  subst hr_7
  refine g_ifne_b (tgt := 19) hx hb dX5_make_10 (by decide) (fun c_10 => ?_) (fun c_10 => ?_)
  · skip
    have hxa := ix_c c_10.1
    have hia : ix a < yF Y := by omega
    have ha := ix_n c_10.1
    have hl : lv_has ls 11 [(0, .ref h0), (1, .int (nI (ix a)))] := by rw [← ha]; exact hl
    refine lv_aload_n hx hb dX5_make_19 rfl (lv_at hl 0 rfl) ?_
    refine va_get (D := D) (ci := 5) (v := .int (I 3)) (C := RX5) (T := TX5) (N := 34) hx hb hts (by decide +kernel) hown hK hP 0 rfl rfl 3 (by decide) (hts (.fieldLink RX5 184 "CaskYardModel" "casks" "I") (by decide +kernel)) (fun _ h9 => h9) rfl dX5_make_20 ?_
    refine g_top (y := (nI (yC Y))) hm3 ?_
    refine lv_bipush (v := (nI (30))) hx hb dX5_make_23 (by decide) ?_
    refine g_icmp_ne (tgt := 30) hx hb dX5_make_25 (by decide) (n_i (by omega)) (n_i (by omega)) (fun c_25 => ?_) (fun c_25 => ?_)
    · skip
      refine lv_aload_n hx hb dX5_make_30 rfl (lv_at hl 0 rfl) ?_
      refine lv_iload_n hx hb dX5_make_31 rfl (lv_at hl 1 rfl) ?_
      have hFc := w_free hD hS hA
      refine va_calli (va_runV (As := [.int (nI (ix a))]) (rest := []) ⟨hx, hb, hml, hown, hts⟩ (c_X5_bestSet l D cy H.size h0 ad (va_up I 0 (nI (0))) F (Y) (MR_congr hM (fun k h1 h2 => va_up_ne _ _ (by omega)) (fun _ _ _ => rfl)) (hY) (ix a) (hia)) (cwV 1 hts gX5_make_X5_bestSet rfl rfl rfl (by decide +kernel) ⟨Nat.le_of_ble_eq_true rfl, Nat.le_of_ble_eq_true rfl⟩) ⟨wB_blind, va_recv hK hP (ci := 5) (q0 := 0) rfl rfl, wB_pre hP hK hD⟩ rfl rfl hl.1 rfl (lv_room (Nat.le_of_ble_eq_true rfl)) dX5_make_32 ⟨Nat.le_of_ble_eq_true rfl, Nat.le_of_ble_eq_true rfl⟩) hS (fun q _ h => hFc q h) hFc (fun r_32 u_32 t H locs ht hvm hw_32 hB _ _ hS => ?_)
      obtain ⟨I_32, F_32⟩ := u_32
      obtain ⟨hP1, hK1, hD1⟩ := hB
      rw [ht] at hP1
      dsimp only at hP1 hD1 hw_32
      have hP := hP1
      have hD := hD1.weaken (fun _ _ _ h => hFc _ h)
      have hIc := hw_32.2.1
      have hFq := hw_32.2.2
      have hbl : bestY Y (ix a) ≤ _ := bestF_le _ _ _ _ _ _
      have hp8 := pow_8 (look_len Y)
      have hMa : MR (va_up I 0 (nI 0)) F Y := MR_congr hM (fun k h1 h2 => va_up_ne _ _ (by omega)) (fun _ _ _ => rfl)
      have hM2 : MR I_32 F_32 Y := bs_MR hMa hIc hFq
      have h0c : I_32 0 = nI 0 := hIc.1 0 (by omega)
      refine g_top (y := (nI (bestY Y (ix a)))) (hw_32.1) ?_
      refine lv_istore_n (lv' := [(2, .int (nI (bestY Y (ix a)))), (0, .ref h0), (1, .int (nI (ix a)))]) hx hb dX5_make_35 rfl hl (by decide) rfl (fun ls hl => ?_)
      refine lv_iload_n hx hb dX5_make_36 rfl (lv_at hl 0 rfl) ?_
      refine g_if_ne (tgt := 42) hx hb dX5_make_37 (by decide) (n_i (by omega)) (fun c_37 => ?_) (fun c_37 => ?_)
      · skip
        refine lv_aload_n hx hb dX5_make_42 rfl (lv_at hl 1 rfl) ?_
        refine lv_iload_n hx hb dX5_make_43 rfl (lv_at hl 0 rfl) ?_
        have hxl : bestY Y (ix a) < 2 ^ (lookL Y).length := by omega
        have hTT := bs_T hY hxl
        have hfo := hyf (ix a) hia
        have hqle := Nat.div_le_self (yg Y (ix a)) (ys Y (ix a))
        have hmd := Nat.mod_lt (yg Y (ix a)) (show 0 < ys Y (ix a) by omega)
        have hFc := w_free hD hS hA
        refine va_callv (va_runV (As := [.int (nI (bestY Y (ix a)))]) (rest := []) ⟨hx, hb, hml, hown, hts⟩ (c_X5_take l D cy H.size h0 ad I_32 F_32 (Y) (hM2) (hY) (bestY Y (ix a)) (by omega) (lookK Y) (bs_lk hFq hxl)) (cwV 1 hts gX5_make_X5_take rfl rfl rfl (by decide +kernel) ⟨Nat.le_of_ble_eq_true rfl, Nat.le_of_ble_eq_true rfl⟩) ⟨wB_blind, va_recv hK hP (ci := 5) (q0 := 0) rfl rfl, wB_pre hP hK hD⟩ rfl rfl hl.1 rfl (lv_room (Nat.le_of_ble_eq_true rfl)) dX5_make_44 ⟨Nat.le_of_ble_eq_true rfl, Nat.le_of_ble_eq_true rfl⟩) hS (fun q _ h => hFc q h) hFc (fun u_44 t H locs ht hvm hw_44 hB _ _ hS => ?_)
        obtain ⟨I_44, F_44⟩ := u_44
        obtain ⟨hP1, hK1, hD1⟩ := hB
        rw [ht] at hP1
        dsimp only at hP1 hD1 hw_44
        have hP := hP1
        have hD := hD1.weaken (fun _ _ _ h => hFc _ h)
        obtain ⟨t22, t23, hu_44, hTA⟩ := hw_44
        have hI1 := (Prod.mk.inj hu_44).1
        have hF1 := (Prod.mk.inj hu_44).2
        have hIc1 : bsI (va_up I 0 (nI 0)) I_44 Y (ix a) := by rw [hI1]; exact bsI_up hIc _
        have hFq1 : bsF F F_44 Y := by rw [hF1]; exact bsF_up (bsF_up hFq _ (by decide) (by decide)) _ (by decide) (by decide)
        have hTB : arrP (F_44 22) (F_44 23) 0 (takeS Y (lookK Y) (bestY Y (ix a)) 8) := by rw [hF1]; exact hTA
        have h25 : I_44 25 = nI (takeS Y (lookK Y) (bestY Y (ix a)) 8).length := by rw [hI1]; rfl
        refine lv_aload_n hx hb dX5_make_47 rfl (lv_at hl 1 rfl) ?_
        have hFc := w_free hD hS hA
        refine va_callv (va_runV (As := []) (rest := []) ⟨hx, hb, hml, hown, hts⟩ (c_X5_reckon l D cy H.size h0 ad I_44 F_44 (Y) (bs_MR hMa hIc1 hFq1) (hY) (takeS Y (lookK Y) (bestY Y (ix a)) 8) (hTT.1) (hTT.2) (wdY Y (ix a)) (nrY Y (ix a)) (yg Y (ix a) % ys Y (ix a)) (h25) (hIc1.2.1) (hIc1.2.2.1) (hIc1.2.2.2.1) (hTB) (⟨Nat.le_trans (by decide) (Nat.le_add_left 2 _), by show yg Y (ix a) / ys Y (ix a) + 2 ≤ 3000; omega, by show yg Y (ix a) / ys Y (ix a) + 3 ≤ 3000; omega, by omega⟩)) (cwV 0 hts gX5_make_X5_reckon rfl rfl rfl (by decide +kernel) ⟨Nat.le_of_ble_eq_true rfl, Nat.le_of_ble_eq_true rfl⟩) ⟨wB_blind, va_recv hK hP (ci := 5) (q0 := 0) rfl rfl, wB_pre hP hK hD⟩ rfl rfl hl.1 rfl (lv_room (Nat.le_of_ble_eq_true rfl)) dX5_make_48 ⟨Nat.le_of_ble_eq_true rfl, Nat.le_of_ble_eq_true rfl⟩) hS (fun q _ h => hFc q h) hFc (fun u_48 t H locs ht hvm hw_48 hB _ _ hS => ?_)
        obtain ⟨I_48, F_48⟩ := u_48
        obtain ⟨hP1, hK1, hD1⟩ := hB
        rw [ht] at hP1
        dsimp only at hP1 hD1 hw_48
        have hP := hP1
        have hD := hD1.weaken (fun _ _ _ h => hFc _ h)
        obtain ⟨t24, hu_48, hD24⟩ := hw_48
        have hI2x := (Prod.mk.inj hu_48).1
        have hF2x := (Prod.mk.inj hu_48).2
        have hIc2 : bsI (va_up I 0 (nI 0)) I_48 Y (ix a) := by rw [hI2x]; exact hIc1
        have hFq2 : bsF F F_48 Y := by rw [hF2x]; exact bsF_up hFq1 _ (by decide) (by decide)
        have hM48 : MR I_48 F_48 Y := bs_MR hMa hIc2 hFq2
        have hpl : planY Y (ix a) = planT Y (wdY Y (ix a)) (nrY Y (ix a)) (takeS Y (lookK Y) (bestY Y (ix a)) 8) (yg Y (ix a) % ys Y (ix a)) (ys Y (ix a) - yg Y (ix a) % ys Y (ix a)) := rfl
        have hgB := best_giv (show bestY Y (ix a) ≠ 0 by omega)
        have hTBx : arrP (F_48 22) (F_48 23) 0 (takeS Y (lookK Y) (bestY Y (ix a)) 8) := by rw [hF2x]; exact hTB
        have hD48 : ∀ ti, 0 ≤ ti → ti ≤ (takeS Y (lookK Y) (bestY Y (ix a)) 8).length → ∀ a_, a_ ≤ yg Y (ix a) % ys Y (ix a) → F_48 24 (41 * ti + a_) = zI (dpN (wdY Y (ix a)) (nrY Y (ix a)) ((lenL Y (takeS Y (lookK Y) (bestY Y (ix a)) 8)).drop ti) a_) := by rw [hF2x]; exact hD24
        have hpw := (takeS_pw hxl 8).1
        have hv25 : I_48 25 = nI (takeS Y (lookK Y) (bestY Y (ix a)) 8).length := by rw [hI2x]; exact h25
        have hv26 : I_48 26 = nI (wdY Y (ix a)) := hIc2.2.1
        have hv27 : I_48 27 = nI (nrY Y (ix a)) := hIc2.2.2.1
        have hv28 := hIc2.2.2.2.1
        have hv29 := hIc2.2.2.2.2
        have hv2 : I_48 2 = nI (yB Y) := (hIc2.1 2 (by omega)).trans hm2
        have hv3 : I_48 3 = nI (yC Y) := (hIc2.1 3 (by omega)).trans hm3
        have hv0 : I_48 0 = nI 0 := hIc2.1 0 (by omega)
        have hz := hTT.2
        have hT32 := hTT.1
        obtain ⟨T, hTe⟩ : ∃ T, T = takeS Y (lookK Y) (bestY Y (ix a)) 8 := ⟨_, rfl⟩
        rw [← hTe] at hpl hgB hTBx hD48 hpw hv25 hz hT32
        obtain ⟨wd, hwd⟩ : ∃ x, x = wdY Y (ix a) := ⟨_, rfl⟩
        obtain ⟨nr, hnr⟩ : ∃ x, x = nrY Y (ix a) := ⟨_, rfl⟩
        obtain ⟨wm, hwm⟩ : ∃ x, x = yg Y (ix a) % ys Y (ix a) := ⟨_, rfl⟩
        obtain ⟨nm, hnm⟩ : ∃ x, x = ys Y (ix a) - yg Y (ix a) % ys Y (ix a) := ⟨_, rfl⟩
        rw [← hwd, ← hnr, ← hnm, ← hwm] at hpl hgB
        rw [← hwd, ← hnr, ← hwm] at hD48
        rw [← hwd] at hv26
        rw [← hnr] at hv27
        rw [← hwm] at hv28
        rw [← hnm] at hv29
        have hgv0 : (nm : Int) ≤ dpN wd nr (lenL Y (T.drop 0)) wm := hgB
        have hwd2 : wd = yg Y (ix a) / ys Y (ix a) + 3 := hwd
        have hnr2 : nr = yg Y (ix a) / ys Y (ix a) + 2 := hnr
        have hnr0 : 2 ≤ nr := by rw [hnr2]; exact Nat.le_add_left _ _
        have hwd0 : 3 ≤ wd := by rw [hwd2]; exact Nat.le_add_left _ _
        rw [show planT Y wd nr T wm nm = [] ++ planT Y wd nr (T.drop 0) wm nm from rfl] at hpl
        have hP : va_P D vwCl (wM cy h0 ad I_48 F_48) H := hP
        have hD : va_D A (wM cy h0 ad I_48 F_48) := hD
        refine lv_aload_n hx hb dX5_make_51 rfl (lv_at hl 1 rfl) ?_
        refine va_get (D := D) (ci := 5) (v := .int (I_48 28)) (C := RX5) (T := TX5) (N := 34) hx hb hts (by decide +kernel) hown hK hP 0 rfl rfl 28 (by decide) (hts (.fieldLink RX5 152 "CaskYardModel" "wideMany" "I") (by decide +kernel)) (fun _ h9 => h9) rfl dX5_make_52 ?_
        refine g_top (y := (nI (wm))) hv28 ?_
        refine lv_istore_n (lv' := [(3, .int (nI (wm))), (2, .int (nI (bestY Y (ix a)))), (0, .ref h0), (1, .int (nI (ix a)))]) hx hb dX5_make_55 rfl hl (by decide) rfl (fun ls hl => ?_)
        refine lv_aload_n hx hb dX5_make_56 rfl (lv_at hl 2 rfl) ?_
        refine va_get (D := D) (ci := 5) (v := .int (I_48 29)) (C := RX5) (T := TX5) (N := 34) hx hb hts (by decide +kernel) hown hK hP 0 rfl rfl 29 (by decide) (hts (.fieldLink RX5 149 "CaskYardModel" "narrowMany" "I") (by decide +kernel)) (fun _ h9 => h9) rfl dX5_make_57 ?_
        refine g_top (y := (nI (nm))) hv29 ?_
        refine lv_istore (lv' := [(4, .int (nI (nm))), (3, .int (nI (wm))), (2, .int (nI (bestY Y (ix a)))), (0, .ref h0), (1, .int (nI (ix a)))]) hx hb dX5_make_60 hl (by decide) rfl (fun ls hl => ?_)
        refine lv_iconst (v := (nI (0))) hx hb dX5_make_62 (by decide) ?_
        refine lv_istore (lv' := [(5, .int (nI (0))), (4, .int (nI (nm))), (3, .int (nI (wm))), (2, .int (nI (bestY Y (ix a)))), (0, .ref h0), (1, .int (nI (ix a)))]) hx hb dX5_make_63 hl (by decide) rfl (fun ls hl => ?_)
        refine lv_iconst (v := (nI (0))) hx hb dX5_make_65 (by decide) ?_
        refine lv_istore (lv' := [(6, .int (nI (0))), (5, .int (nI (0))), (4, .int (nI (nm))), (3, .int (nI (wm))), (2, .int (nI (bestY Y (ix a)))), (0, .ref h0), (1, .int (nI (ix a)))]) hx hb dX5_make_66 hl (by decide) rfl (fun ls hl => ?_)
        refine lv_iconst (v := (nI (0))) hx hb dX5_make_68 (by decide) ?_
        refine lv_istore (lv' := [(7, .int (nI (0))), (6, .int (nI (0))), (5, .int (nI (0))), (4, .int (nI (nm))), (3, .int (nI (wm))), (2, .int (nI (bestY Y (ix a)))), (0, .ref h0), (1, .int (nI (ix a)))]) hx hb dX5_make_69 hl (by decide) rfl (fun ls hl => ?_)
        have loop_71 : ∀ (n_ : Nat) (ti : Nat) (wl : Nat) (nl : Nat) (Z : List (Nat × Nat × Nat × Nat)) (Gc : Nat → Nat → Int32) (H : Heap) (locs : List Loc), va_P D vwCl (wM cy h0 ad I_48 Gc) H → va_D A (wM cy h0 ad I_48 Gc) → va_S A s.heap H locs → (ti ≤ T.length) → (planY Y (ix a) = Z ++ planT Y wd nr (T.drop ti) wl nl) → ((nl : Int) ≤ dpN wd nr (lenL Y (T.drop ti)) wl) → (wl + (wdL Z).length = wm) → (nl + (nrL Z).length = nm) → (mkF F_48 Gc Y wd nr T ti Z) → T.length - ti < n_ → ∀ (ls : Array Slot), lv_has ls 11 [(0, .ref h0), (1, .int (nI (ix a))), (3, .int (nI (wl))), (4, .int (nI (nl))), (5, .int (nI ((wdL Z).length))), (6, .int (nI ((nrL Z).length))), (7, .int (nI (ti)))] → W p l e (headSpec wsX5_make ({ frames := 4, cells := 0, slots := 0, locals := 96 } : Room)).room s m ([.ref h0, .int (a)] : List Value).toArray below meth c H locs 0 0 (MQ below (va_Qi (fun (r : Int32) (u : (Nat → Int32) × (Nat → Nat → Int32)) => MP r u (sp_make Y a)) (fun u t => wE D cy A (wM cy h0 ad u.1 u.2) t) A) ([.ref h0, .int (a)] : List Value).toArray s 0 0 A) (F0 m 71 ls []) := by
          intro n_
          induction n_ with
          | zero => intro ti wl nl Z Gc H locs hP hD hS ht hZ hgv hws hns hG hm_; exact absurd hm_ (Nat.not_lt_zero _)
          | succ n_ ih_71 =>
            intro ti wl nl Z Gc H locs hP hD hS ht hZ hgv hws hns hG hm_ ls hl
            refine lv_iload hx hb dX5_make_71 (lv_at hl 6 rfl) ?_
            refine lv_aload_n hx hb dX5_make_73 rfl (lv_at hl 0 rfl) ?_
            refine va_get (D := D) (ci := 5) (v := .int (I_48 25)) (C := RX5) (T := TX5) (N := 34) hx hb hts (by decide +kernel) hown hK hP 0 rfl rfl 25 (by decide) (hts (.fieldLink RX5 155 "CaskYardModel" "setMany" "I") (by decide +kernel)) (fun _ h9 => h9) rfl dX5_make_74 ?_
            refine g_top (y := (nI (T.length))) hv25 ?_
            refine g_icmp_ge (tgt := 309) hx hb dX5_make_77 (by decide) (n_i (by omega)) (n_i (by omega)) (fun c_77 => ?_) (fun c_77 => ?_)
            · skip
              have hte : ti = T.length := by omega
              rw [List.drop_of_length_le (by omega)] at hgv
              have hwn0 := dp_nil hgv
              rw [plan_end (by omega), List.append_nil] at hZ
              refine lv_iconst (v := (nI (0))) hx hb dX5_make_309 (by decide) ?_
              refine lv_istore (lv' := [(7, .int (nI (0))), (0, .ref h0), (1, .int (nI (ix a))), (3, .int (nI (wl))), (4, .int (nI (nl))), (5, .int (nI ((wdL Z).length))), (6, .int (nI ((nrL Z).length)))]) hx hb dX5_make_310 hl (by decide) rfl (fun ls hl => ?_)
              have loop_312 : ∀ (n_ : Nat) (q : Nat) (Gt : Nat → Nat → Int32) (H : Heap) (locs : List Loc), va_P D vwCl (wM cy h0 ad I_48 Gt) H → va_D A (wM cy h0 ad I_48 Gt) → va_S A s.heap H locs → (q ≤ yB Y) → (mkT Gc Gt Y (fun b => cutPL (yP Y b) (amN wd nr Z b)) q) → yB Y - q < n_ → ∀ (ls : Array Slot), lv_has ls 11 [(0, .ref h0), (1, .int (nI (ix a))), (7, .int (nI (q)))] → W p l e (headSpec wsX5_make ({ frames := 4, cells := 0, slots := 0, locals := 96 } : Room)).room s m ([.ref h0, .int (a)] : List Value).toArray below meth c H locs 0 0 (MQ below (va_Qi (fun (r : Int32) (u : (Nat → Int32) × (Nat → Nat → Int32)) => MP r u (sp_make Y a)) (fun u t => wE D cy A (wM cy h0 ad u.1 u.2) t) A) ([.ref h0, .int (a)] : List Value).toArray s 0 0 A) (F0 m 312 ls []) := by
                intro n_
                induction n_ with
                | zero => intro q Gt H locs hP hD hS hq hT hm_; exact absurd hm_ (Nat.not_lt_zero _)
                | succ n_ ih_312 =>
                  intro q Gt H locs hP hD hS hq hT hm_ ls hl
                  refine lv_iload hx hb dX5_make_312 (lv_at hl 2 rfl) ?_
                  refine lv_aload_n hx hb dX5_make_314 rfl (lv_at hl 0 rfl) ?_
                  refine va_get (D := D) (ci := 5) (v := .int (I_48 2)) (C := RX5) (T := TX5) (N := 34) hx hb hts (by decide +kernel) hown hK hP 0 rfl rfl 2 (by decide) (hts (.fieldLink RX5 122 "CaskYardModel" "bolts" "I") (by decide +kernel)) (fun _ h9 => h9) rfl dX5_make_315 ?_
                  refine g_top (y := (nI (yB Y))) hv2 ?_
                  refine g_icmp_ge (tgt := 333) hx hb dX5_make_318 (by decide) (n_i (by omega)) (n_i (by omega)) (fun c_318 => ?_) (fun c_318 => ?_)
                  · skip
                    have hqy : q = yB Y := by omega
                    rw [hqy] at hT
                    have hGF : ∀ k_, 5 ≤ k_ → k_ ≤ 21 → k_ ≠ 10 → k_ ≠ 11 → k_ ≠ 12 → Gt k_ = F k_ := fun k_ h1 h2 h3 h4 h5 => (hT.1 k_ h1 (by omega) h3 h4 h5).trans ((hG.1 k_ h1 (by omega) h4).trans (hFq2.1 k_ h1 h2))
                    have hst8 : Gt 8 (ix a) = nI (ys Y (ix a)) := by rw [hGF 8 (by decide) (by decide) (by decide) (by decide) (by decide)]; exact (hmF (ix a) hia).2.2.2
                    have hta5 : Gt 5 (ix a) = nI (yh Y (ix a)) := by rw [hGF 5 (by decide) (by decide) (by decide) (by decide) (by decide)]; exact (hmF (ix a) hia).1
                    have htb6 : Gt 6 (ix a) = nI (yg Y (ix a)) := by rw [hGF 6 (by decide) (by decide) (by decide) (by decide) (by decide)]; exact (hmF (ix a) hia).2.1
                    have htc7 : Gt 7 (ix a) = nI (ye Y (ix a)) := by rw [hGF 7 (by decide) (by decide) (by decide) (by decide) (by decide)]; exact (hmF (ix a) hia).2.2.1
                    have hg33 : Gt 33 = Gc 33 := hT.1 33 (by decide) (by decide) (by decide) (by decide) (by decide)
                    have hc30 : yC Y < 30 := by omega
                    refine lv_iconst (v := (nI (0))) hx hb dX5_make_333 (by decide) ?_
                    refine lv_istore (lv' := [(5, .int (nI (0))), (0, .ref h0), (1, .int (nI (ix a))), (7, .int (nI (q)))]) hx hb dX5_make_334 hl (by decide) rfl (fun ls hl => ?_)
                    refine lv_iconst (v := (nI (0))) hx hb dX5_make_336 (by decide) ?_
                    refine lv_istore (lv' := [(6, .int (nI (0))), (5, .int (nI (0))), (0, .ref h0), (1, .int (nI (ix a))), (7, .int (nI (q)))]) hx hb dX5_make_337 hl (by decide) rfl (fun ls hl => ?_)
                    refine lv_iconst (v := (nI (0))) hx hb dX5_make_339 (by decide) ?_
                    refine lv_istore (lv' := [(7, .int (nI (0))), (6, .int (nI (0))), (5, .int (nI (0))), (0, .ref h0), (1, .int (nI (ix a)))]) hx hb dX5_make_340 hl (by decide) rfl (fun ls hl => ?_)
                    have loop_342 : ∀ (n_ : Nat) (k : Nat) (g14 : Nat → Int32) (g15 : Nat → Int32) (H : Heap) (locs : List Loc), va_P D vwCl (wM cy h0 ad I_48 (va_up (va_up Gt 14 g14) 15 g15)) H → va_D A (wM cy h0 ad I_48 (va_up (va_up Gt 14 g14) 15 g15)) → va_S A s.heap H locs → (k ≤ ys Y (ix a)) → (∀ j, g14 j = if 40 * yC Y ≤ j ∧ j < 40 * yC Y + k then nI (newB Z (ys Y (ix a)) (yg Y (ix a)) (j - 40 * yC Y)) else F 14 j) → (∀ j, g15 j = if 40 * yC Y ≤ j ∧ j < 40 * yC Y + k then nI 0 else F 15 j) → ys Y (ix a) - k < n_ → ∀ (ls : Array Slot), lv_has ls 11 [(0, .ref h0), (1, .int (nI (ix a))), (5, .int (nI (cwN (ys Y (ix a)) (yg Y (ix a)) k))), (6, .int (nI (k - cwN (ys Y (ix a)) (yg Y (ix a)) k))), (7, .int (nI (k)))] → W p l e (headSpec wsX5_make ({ frames := 4, cells := 0, slots := 0, locals := 96 } : Room)).room s m ([.ref h0, .int (a)] : List Value).toArray below meth c H locs 0 0 (MQ below (va_Qi (fun (r : Int32) (u : (Nat → Int32) × (Nat → Nat → Int32)) => MP r u (sp_make Y a)) (fun u t => wE D cy A (wM cy h0 ad u.1 u.2) t) A) ([.ref h0, .int (a)] : List Value).toArray s 0 0 A) (F0 m 342 ls []) := by
                      intro n_
                      induction n_ with
                      | zero => intro k g14 g15 H locs hP hD hS hk h14 h15 hm_; exact absurd hm_ (Nat.not_lt_zero _)
                      | succ n_ ih_342 =>
                        intro k g14 g15 H locs hP hD hS hk h14 h15 hm_ ls hl
                        obtain ⟨F1, hF1⟩ : ∃ G, G = va_up Gt 14 g14 := ⟨_, rfl⟩
                        rw [← hF1] at hP hD
                        have eF1_14 : F1 14 = g14 := by rw [hF1]; exact va_up_self _ _ _
                        obtain ⟨F2, hF2⟩ : ∃ G, G = va_up F1 15 g15 := ⟨_, rfl⟩
                        rw [← hF2] at hP hD
                        have eF2_15 : F2 15 = g15 := by rw [hF2]; exact va_up_self _ _ _
                        have eF2_14 : F2 14 = g14 := by rw [hF2, va_up_ne _ _ (by decide)]; exact eF1_14
                        refine lv_iload hx hb dX5_make_342 (lv_at hl 4 rfl) ?_
                        refine lv_aload_n hx hb dX5_make_344 rfl (lv_at hl 0 rfl) ?_
                        refine va_get (D := D) (ci := 5) (v := .ref ((ad 8))) (C := RX5) (T := TX5) (N := 34) hx hb hts (by decide +kernel) hown hK hP 0 rfl rfl 8 (by decide) (hts (.fieldLink RX5 19 "CaskYardModel" "staves" "[I") (by decide +kernel)) (fun _ h9 => h9) rfl dX5_make_345 ?_
                        refine lv_iload_n hx hb dX5_make_348 rfl (lv_at hl 1 rfl) ?_
                        refine g_iald hx hb hK hP 4 0 rfl rfl (ix a) rfl (by omega) (by decide) dX5_make_349 ?_
                        refine g_top (y := ((Gt 8) (ix a))) (congrFun (show F2 8 = Gt 8 by rw [hF2, va_up_ne _ _ (by decide), hF1, va_up_ne _ _ (by decide)]) (ix a)) ?_
                        refine g_top (y := (nI (ys Y (ix a)))) hst8 ?_
                        refine g_icmp_ge (tgt := 460) hx hb dX5_make_350 (by decide) (n_i (by omega)) (n_i (by omega)) (fun c_350 => ?_) (fun c_350 => ?_)
                        · skip
                          have hke : k = ys Y (ix a) := by omega
                          rw [hke] at h14 h15
                          refine lv_aload_n hx hb dX5_make_460 rfl (lv_at hl 0 rfl) ?_
                          refine va_get (D := D) (ci := 5) (v := .ref ((ad 13))) (C := RX5) (T := TX5) (N := 34) hx hb hts (by decide +kernel) hown hK hP 0 rfl rfl 13 (by decide) (hts (.fieldLink RX5 34 "CaskYardModel" "caskForm" "[I") (by decide +kernel)) (fun _ h9 => h9) rfl dX5_make_461 ?_
                          refine lv_aload_n hx hb dX5_make_464 rfl (lv_at hl 0 rfl) ?_
                          refine va_get (D := D) (ci := 5) (v := .int (I_48 3)) (C := RX5) (T := TX5) (N := 34) hx hb hts (by decide +kernel) hown hK hP 0 rfl rfl 3 (by decide) (hts (.fieldLink RX5 184 "CaskYardModel" "casks" "I") (by decide +kernel)) (fun _ h9 => h9) rfl dX5_make_465 ?_
                          refine g_top (y := (nI (yC Y))) hv3 ?_
                          refine lv_iload_n hx hb dX5_make_468 rfl (lv_at hl 1 rfl) ?_
                          refine g_iast hx hb hK hP hD hS 9 0 rfl rfl (yC Y) rfl (by omega) (by decide) dX5_make_469 (fun H locs hP hD hS => ?_)
                          rw [wMs_13] at hP hD
                          rw [(show F2 13 = Gt 13 by rw [hF2, va_up_ne _ _ (by decide), hF1, va_up_ne _ _ (by decide)])] at hP hD
                          obtain ⟨F3, hF3⟩ : ∃ G, G = va_up F2 13 (upd (Gt 13) (yC Y) (nI (ix a))) := ⟨_, rfl⟩
                          rw [← hF3] at hP hD
                          have eF3_13 : F3 13 = upd (Gt 13) (yC Y) (nI (ix a)) := by rw [hF3]; exact va_up_self _ _ _
                          have eF3_14 : F3 14 = g14 := by rw [hF3, va_up_ne _ _ (by decide)]; exact eF2_14
                          have eF3_15 : F3 15 = g15 := by rw [hF3, va_up_ne _ _ (by decide)]; exact eF2_15
                          refine lv_aload_n hx hb dX5_make_470 rfl (lv_at hl 0 rfl) ?_
                          refine va_get (D := D) (ci := 5) (v := .ref ((ad 16))) (C := RX5) (T := TX5) (N := 34) hx hb hts (by decide +kernel) hown hK hP 0 rfl rfl 16 (by decide) (hts (.fieldLink RX5 43 "CaskYardModel" "entries" "[I") (by decide +kernel)) (fun _ h9 => h9) rfl dX5_make_471 ?_
                          refine lv_aload_n hx hb dX5_make_474 rfl (lv_at hl 0 rfl) ?_
                          refine va_get (D := D) (ci := 5) (v := .int (I_48 3)) (C := RX5) (T := TX5) (N := 34) hx hb hts (by decide +kernel) hown hK hP 0 rfl rfl 3 (by decide) (hts (.fieldLink RX5 184 "CaskYardModel" "casks" "I") (by decide +kernel)) (fun _ h9 => h9) rfl dX5_make_475 ?_
                          refine g_top (y := (nI (yC Y))) hv3 ?_
                          refine lv_iconst (v := (nI (0))) hx hb dX5_make_478 (by decide) ?_
                          refine g_iast hx hb hK hP hD hS 12 0 rfl rfl (yC Y) rfl (by omega) (by decide) dX5_make_479 (fun H locs hP hD hS => ?_)
                          rw [wMs_16] at hP hD
                          rw [(show F3 16 = Gt 16 by rw [hF3, va_up_ne _ _ (by decide), hF2, va_up_ne _ _ (by decide), hF1, va_up_ne _ _ (by decide)])] at hP hD
                          obtain ⟨F4, hF4⟩ : ∃ G, G = va_up F3 16 (upd (Gt 16) (yC Y) (nI (0))) := ⟨_, rfl⟩
                          rw [← hF4] at hP hD
                          have eF4_16 : F4 16 = upd (Gt 16) (yC Y) (nI (0)) := by rw [hF4]; exact va_up_self _ _ _
                          have eF4_14 : F4 14 = g14 := by rw [hF4, va_up_ne _ _ (by decide)]; exact eF3_14
                          have eF4_15 : F4 15 = g15 := by rw [hF4, va_up_ne _ _ (by decide)]; exact eF3_15
                          have eF4_13 : F4 13 = upd (Gt 13) (yC Y) (nI (ix a)) := by rw [hF4, va_up_ne _ _ (by decide)]; exact eF3_13
                          refine lv_aload_n hx hb dX5_make_480 rfl (lv_at hl 0 rfl) ?_
                          refine lv_dup hx hb dX5_make_481 rfl ?_
                          refine va_get (D := D) (ci := 5) (v := .int (I_48 3)) (C := RX5) (T := TX5) (N := 34) hx hb hts (by decide +kernel) hown hK hP 0 rfl rfl 3 (by decide) (hts (.fieldLink RX5 184 "CaskYardModel" "casks" "I") (by decide +kernel)) (fun _ h9 => h9) rfl dX5_make_482 ?_
                          refine g_top (y := (nI (yC Y))) hv3 ?_
                          refine lv_iconst (v := (nI (1))) hx hb dX5_make_485 (by decide) ?_
                          refine g_iadd_n hx hb dX5_make_486 ?_
                          refine va_put (D := D) (ci := 5) (v := .int (nI ((yC Y) + 1))) (ty := .int) (C := RX5) (T := TX5) (N := 34) hx hb hts (by decide +kernel) tyX5 tyX5_ok nmX5 hown hK hP hD hS 0 rfl rfl 3 (by decide) (hts (.fieldLink RX5 184 "CaskYardModel" "casks" "I") (by decide +kernel)) (fun _ h9 => h9) rfl (by decide +kernel) rfl rfl (Nat.le_of_ble_eq_true rfl) dX5_make_487 (fun H locs hP hD hS => ?_)
                          have hP : va_P D vwCl (wM cy h0 ad (va_up I_48 3 (nI ((yC Y) + 1))) F4) H := hP
                          have hD : va_D A (wM cy h0 ad (va_up I_48 3 (nI ((yC Y) + 1))) F4) := hD
                          have e13F : F4 13 = upd (F 13) (yC Y) (nI (ix a)) := by rw [eF4_13, hGF 13 (by decide) (by decide) (by decide) (by decide) (by decide)]
                          have e16F : F4 16 = upd (F 16) (yC Y) (nI 0) := by rw [eF4_16, hGF 16 (by decide) (by decide) (by decide) (by decide) (by decide)]
                          refine lv_aload_n hx hb dX5_make_490 rfl (lv_at hl 0 rfl) ?_
                          refine va_get (D := D) (ci := 5) (v := .int (nI ((yC Y) + 1))) (C := RX5) (T := TX5) (N := 34) hx hb hts (by decide +kernel) hown hK hP 0 rfl rfl 3 (by decide) (hts (.fieldLink RX5 184 "CaskYardModel" "casks" "I") (by decide +kernel)) (fun _ h9 => h9) rfl dX5_make_491 ?_
                          refine lv_iconst (v := (nI (1))) hx hb dX5_make_494 (by decide) ?_
                          refine g_isub_n hx hb dX5_make_495 (by omega) ?_
                          exact W.iret (v := (nI (((yC Y) + 1) - 1))) hx hb hr (fun t ht hW => ⟨⟨_, ((va_up I_48 3 (nI ((yC Y) + 1))), F4), rfl, (by rw [sp_make, if_pos (by omega), if_neg (by omega)]; exact ⟨hv0, fun _ => congrArg nI (by omega), mk_end (G := Gt) hM hY hia (fun k_ h1 h2 => by show va_up I_48 3 _ k_ = _; by_cases e9 : k_ = 3 <;> simp [va_up, e9]; exact (hIc2.1 k_ h2).trans (va_up_ne _ _ (by omega))) (by rw [hZ, ← hwd2, ← hnr2]; exact hT.2.1) hGF (by rw [hZ]; exact h14) h15 eF4_14 eF4_15 e13F e16F (fun k_ h1 h2 h3 h4 h5 h6 => by show F4 k_ = Gt k_; rw [hF4, va_up_ne _ _ (by assumption), hF3, va_up_ne _ _ (by assumption), hF2, va_up_ne _ _ (by assumption), hF1, va_up_ne _ _ (by assumption)])⟩), by rw [ht]; exact hP, va_K.moved hW.alike hK, hD⟩, hS.F ht⟩) hS.2.2 dX5_make_496
                        · skip
                          have hcl := cwN_le (ys Y (ix a)) (yg Y (ix a)) k
                          refine lv_aload_n hx hb dX5_make_353 rfl (lv_at hl 0 rfl) ?_
                          refine lv_iload_n hx hb dX5_make_354 rfl (lv_at hl 1 rfl) ?_
                          refine lv_iload hx hb dX5_make_355 (lv_at hl 4 rfl) ?_
                          refine lv_aload_n hx hb dX5_make_357 rfl (lv_at hl 0 rfl) ?_
                          refine va_get (D := D) (ci := 5) (v := .ref ((ad 5))) (C := RX5) (T := TX5) (N := 34) hx hb hts (by decide +kernel) hown hK hP 0 rfl rfl 5 (by decide) (hts (.fieldLink RX5 9 "CaskYardModel" "tall" "[I") (by decide +kernel)) (fun _ h9 => h9) rfl dX5_make_358 ?_
                          refine lv_iload_n hx hb dX5_make_361 rfl (lv_at hl 1 rfl) ?_
                          refine g_iald hx hb hK hP 1 0 rfl rfl (ix a) rfl (by omega) (by decide) dX5_make_362 ?_
                          refine g_top (y := ((Gt 5) (ix a))) (congrFun (show F2 5 = Gt 5 by rw [hF2, va_up_ne _ _ (by decide), hF1, va_up_ne _ _ (by decide)]) (ix a)) ?_
                          refine g_top (y := (nI (yh Y (ix a)))) hta5 ?_
                          refine lv_iconst (v := (nI (2))) hx hb dX5_make_363 (by decide) ?_
                          refine g_idiv_n hx hb dX5_make_364 (by omega) (by omega) (by omega) ?_
                          refine vp_callSi (va_Run.run (va_runV (As := [.int (nI (ix a)), .int (nI (k)), .int (nI ((yh Y (ix a)) / 2))]) (rest := []) ⟨hx, hb, hml, hown, hts⟩ (c_X5_widthOf l D cy h0 ad I_48 F2 (ix a) (k) (yh Y (ix a) / 2) (by omega) (yh Y (ix a)) (yg Y (ix a)) (ye Y (ix a)) (by rw [(show F2 5 = Gt 5 by rw [hF2, va_up_ne _ _ (by decide), hF1, va_up_ne _ _ (by decide)])]; exact hta5) (by rw [(show F2 6 = Gt 6 by rw [hF2, va_up_ne _ _ (by decide), hF1, va_up_ne _ _ (by decide)])]; exact htb6) (by rw [(show F2 7 = Gt 7 by rw [hF2, va_up_ne _ _ (by decide), hF1, va_up_ne _ _ (by decide)])]; exact htc7) (form_b hfo) (by omega) (ys Y (ix a)) (by rw [(show F2 8 = Gt 8 by rw [hF2, va_up_ne _ _ (by decide), hF1, va_up_ne _ _ (by decide)])]; exact hst8) (by omega) (by omega)) (cwV 3 hts gX5_make_X5_widthOf rfl rfl rfl (by decide +kernel) ⟨Nat.le_of_ble_eq_true rfl, Nat.le_of_ble_eq_true rfl⟩) ⟨rB_blind, va_recv hK hP (ci := 5) (q0 := 0) rfl rfl, (rB_pre hP hK)⟩ rfl rfl hl.1 rfl (lv_room (Nat.le_of_ble_eq_true rfl)) dX5_make_365 ⟨Nat.le_of_ble_eq_true rfl, Nat.le_of_ble_eq_true rfl⟩)) (fun r_365 hr_365 => ?_)
                          refine g_top (y := (nI (widthN (ys Y (ix a)) k (yg Y (ix a))))) (by rw [hr_365, girth_mid hfo.2.2.1]) ?_
                          have hwl9 := width_le (k := k) (g := yg Y (ix a)) (n := ys Y (ix a)) (by omega)
                          refine lv_iconst (v := (nI (2))) hx hb dX5_make_368 (by decide) ?_
                          refine g_iadd_n hx hb dX5_make_369 ?_
                          refine lv_aload_n hx hb dX5_make_370 rfl (lv_at hl 0 rfl) ?_
                          refine va_get (D := D) (ci := 5) (v := .int (I_48 26)) (C := RX5) (T := TX5) (N := 34) hx hb hts (by decide +kernel) hown hK hP 0 rfl rfl 26 (by decide) (hts (.fieldLink RX5 146 "CaskYardModel" "wide" "I") (by decide +kernel)) (fun _ h9 => h9) rfl dX5_make_371 ?_
                          refine g_top (y := (nI (wd))) hv26 ?_
                          refine g_icmp_ne (tgt := 381) hx hb dX5_make_374 (by decide) (n_i (by omega)) (n_i (by omega)) (fun c_374 => ?_) (fun c_374 => ?_)
                          · skip
                            have hwk : ¬ widthN (ys Y (ix a)) k (yg Y (ix a)) + 2 = yg Y (ix a) / ys Y (ix a) + 3 := by omega
                            have hcb := cw_f (by omega) (by omega) hwk
                            refine lv_iconst (v := (nI (0))) hx hb dX5_make_381 (by decide) ?_
                            refine lv_istore (lv' := [(8, .int (nI (0))), (0, .ref h0), (1, .int (nI (ix a))), (5, .int (nI (cwN (ys Y (ix a)) (yg Y (ix a)) k))), (6, .int (nI (k - cwN (ys Y (ix a)) (yg Y (ix a)) k))), (7, .int (nI (k)))]) hx hb dX5_make_382 hl (by decide) rfl (fun ls hl => ?_)
                            refine lv_aload_n hx hb dX5_make_384 rfl (lv_at hl 1 rfl) ?_
                            refine va_get (D := D) (ci := 5) (v := .ref ((ad 14))) (C := RX5) (T := TX5) (N := 34) hx hb hts (by decide +kernel) hown hK hP 0 rfl rfl 14 (by decide) (hts (.fieldLink RX5 37 "CaskYardModel" "boltOf" "[I") (by decide +kernel)) (fun _ h9 => h9) rfl dX5_make_385 ?_
                            refine lv_bipush (v := (nI (40))) hx hb dX5_make_388 (by decide) ?_
                            refine lv_aload_n hx hb dX5_make_390 rfl (lv_at hl 1 rfl) ?_
                            refine va_get (D := D) (ci := 5) (v := .int (I_48 3)) (C := RX5) (T := TX5) (N := 34) hx hb hts (by decide +kernel) hown hK hP 0 rfl rfl 3 (by decide) (hts (.fieldLink RX5 184 "CaskYardModel" "casks" "I") (by decide +kernel)) (fun _ h9 => h9) rfl dX5_make_391 ?_
                            refine g_top (y := (nI (yC Y))) hv3 ?_
                            refine g_imul_n hx hb dX5_make_394 ?_
                            refine lv_iload hx hb dX5_make_395 (lv_at hl 5 rfl) ?_
                            refine g_iadd_n hx hb dX5_make_397 ?_
                            refine lv_iload hx hb dX5_make_398 (lv_at hl 0 rfl) ?_
                            refine g_if_eq (tgt := 413) hx hb dX5_make_400 (by decide) (n_i (by omega)) (fun c_400 => ?_) (fun c_400 => ?_)
                            · skip
                              refine lv_aload_n hx hb dX5_make_413 rfl (lv_at hl 1 rfl) ?_
                              refine va_get (D := D) (ci := 5) (v := .ref ((ad 33))) (C := RX5) (T := TX5) (N := 34) hx hb hts (by decide +kernel) hown hK hP 0 rfl rfl 33 (by decide) (hts (.fieldLink RX5 80 "CaskYardModel" "cutBolt" "[I") (by decide +kernel)) (fun _ h9 => h9) rfl dX5_make_414 ?_
                              refine lv_bipush (v := (nI (40))) hx hb dX5_make_417 (by decide) ?_
                              refine lv_iload hx hb dX5_make_419 (lv_at hl 4 rfl) ?_
                              refine g_iadd_n hx hb dX5_make_421 ?_
                              refine g_iald hx hb hK hP 24 0 rfl rfl (40 + (k - cwN (ys Y (ix a)) (yg Y (ix a)) k)) rfl (by omega) (by decide) dX5_make_422 ?_
                              refine g_top (y := ((Gt 33) (40 + (k - cwN (ys Y (ix a)) (yg Y (ix a)) k)))) (congrFun (show F2 33 = Gt 33 by rw [hF2, va_up_ne _ _ (by decide), hF1, va_up_ne _ _ (by decide)]) (40 + (k - cwN (ys Y (ix a)) (yg Y (ix a)) k))) ?_
                              refine g_top (y := (nI (newB Z (ys Y (ix a)) (yg Y (ix a)) (k)))) (by rw [hg33, hG.2.2.2.2 _ (by omega), newB, if_neg hwk]) ?_
                              refine g_iast hx hb hK hP hD hS 10 0 rfl rfl ((40 * (yC Y)) + k) rfl (by omega) (by decide) dX5_make_423 (fun H locs hP hD hS => ?_)
                              rw [wMs_14] at hP hD
                              rw [eF2_14] at hP hD
                              obtain ⟨F5, hF5⟩ : ∃ G, G = va_up F2 14 (upd (g14) ((40 * (yC Y)) + k) (nI (newB Z (ys Y (ix a)) (yg Y (ix a)) (k)))) := ⟨_, rfl⟩
                              rw [← hF5] at hP hD
                              have eF5_14 : F5 14 = upd (g14) ((40 * (yC Y)) + k) (nI (newB Z (ys Y (ix a)) (yg Y (ix a)) (k))) := by rw [hF5]; exact va_up_self _ _ _
                              have eF5_15 : F5 15 = g15 := by rw [hF5, va_up_ne _ _ (by decide)]; exact eF2_15
                              refine lv_iload hx hb dX5_make_424 (lv_at hl 0 rfl) ?_
                              refine g_if_eq (tgt := 435) hx hb dX5_make_426 (by decide) (n_i (by omega)) (fun c_426 => ?_) (fun c_426 => ?_)
                              · skip
                                refine lv_iinc (v := (nI (k - cwN (ys Y (ix a)) (yg Y (ix a)) k + 1))) (lv' := [(6, .int (nI (k - cwN (ys Y (ix a)) (yg Y (ix a)) k + 1))), (8, .int (nI (0))), (0, .ref h0), (1, .int (nI (ix a))), (5, .int (nI (cwN (ys Y (ix a)) (yg Y (ix a)) k))), (7, .int (nI (k)))]) hx hb dX5_make_435 hl (k := 4) rfl (nI_add _ _) (by decide) rfl (fun ls hl => ?_)
                                refine lv_aload_n hx hb dX5_make_438 rfl (lv_at hl 2 rfl) ?_
                                refine va_get (D := D) (ci := 5) (v := .ref ((ad 15))) (C := RX5) (T := TX5) (N := 34) hx hb hts (by decide +kernel) hown hK hP 0 rfl rfl 15 (by decide) (hts (.fieldLink RX5 40 "CaskYardModel" "past" "[I") (by decide +kernel)) (fun _ h9 => h9) rfl dX5_make_439 ?_
                                refine lv_bipush (v := (nI (40))) hx hb dX5_make_442 (by decide) ?_
                                refine lv_aload_n hx hb dX5_make_444 rfl (lv_at hl 2 rfl) ?_
                                refine va_get (D := D) (ci := 5) (v := .int (I_48 3)) (C := RX5) (T := TX5) (N := 34) hx hb hts (by decide +kernel) hown hK hP 0 rfl rfl 3 (by decide) (hts (.fieldLink RX5 184 "CaskYardModel" "casks" "I") (by decide +kernel)) (fun _ h9 => h9) rfl dX5_make_445 ?_
                                refine g_top (y := (nI (yC Y))) hv3 ?_
                                refine g_imul_n hx hb dX5_make_448 ?_
                                refine lv_iload hx hb dX5_make_449 (lv_at hl 5 rfl) ?_
                                refine g_iadd_n hx hb dX5_make_451 ?_
                                refine lv_iconst (v := (nI (0))) hx hb dX5_make_452 (by decide) ?_
                                refine g_iast hx hb hK hP hD hS 11 0 rfl rfl ((40 * (yC Y)) + k) rfl (by omega) (by decide) dX5_make_453 (fun H locs hP hD hS => ?_)
                                rw [wMs_15] at hP hD
                                rw [eF5_15] at hP hD
                                obtain ⟨F6, hF6⟩ : ∃ G, G = va_up F5 15 (upd (g15) ((40 * (yC Y)) + k) (nI (0))) := ⟨_, rfl⟩
                                rw [← hF6] at hP hD
                                have eF6_15 : F6 15 = upd (g15) ((40 * (yC Y)) + k) (nI (0)) := by rw [hF6]; exact va_up_self _ _ _
                                have eF6_14 : F6 14 = upd (g14) ((40 * (yC Y)) + k) (nI (newB Z (ys Y (ix a)) (yg Y (ix a)) (k))) := by rw [hF6, va_up_ne _ _ (by decide)]; exact eF5_14
                                have hcs : cwN (ys Y (ix a)) (yg Y (ix a)) (k + 1) = cwN (ys Y (ix a)) (yg Y (ix a)) k := by rw [cwN, if_neg hwk]; rfl
                                have hl : lv_has ls 11 [(6, .int (nI (k + 1 - cwN (ys Y (ix a)) (yg Y (ix a)) (k + 1)))), (8, .int (nI (0))), (0, .ref h0), (1, .int (nI (ix a))), (5, .int (nI (cwN (ys Y (ix a)) (yg Y (ix a)) (k + 1)))), (7, .int (nI (k)))] := by rw [← (show nI (cwN (ys Y (ix a)) (yg Y (ix a)) k) = nI (cwN (ys Y (ix a)) (yg Y (ix a)) (k + 1)) from congrArg nI hcs.symm), ← (show nI (k - cwN (ys Y (ix a)) (yg Y (ix a)) k + 1) = nI (k + 1 - cwN (ys Y (ix a)) (yg Y (ix a)) (k + 1)) from congrArg nI (by rw [hcs]; omega))]; exact hl
                                refine lv_iinc (v := (nI (k + 1))) (lv' := [(7, .int (nI (k + 1))), (6, .int (nI (k + 1 - cwN (ys Y (ix a)) (yg Y (ix a)) (k + 1)))), (8, .int (nI (0))), (0, .ref h0), (1, .int (nI (ix a))), (5, .int (nI (cwN (ys Y (ix a)) (yg Y (ix a)) (k + 1))))]) hx hb dX5_make_454 hl (k := 5) rfl (nI_add _ _) (by decide) rfl (fun ls hl => ?_)
                                refine lv_goto (tgt := 342) hx hb dX5_make_457 (by decide) ?_
                                have hFe : F6 = (va_up (va_up Gt 14 (upd (g14) ((40 * (yC Y)) + k) (nI (newB Z (ys Y (ix a)) (yg Y (ix a)) (k))))) 15 (upd (g15) ((40 * (yC Y)) + k) (nI (0)))) := fe2 eF6_14 eF6_15 (fun j_ a0_ a1_ => by rw [hF6, va_up_ne _ _ (by assumption), hF5, va_up_ne _ _ (by assumption), hF2, va_up_ne _ _ (by assumption), hF1, va_up_ne _ _ (by assumption)]) (by decide)
                                rw [hFe] at hP hD
                                exact ih_342 (k + 1) (upd (g14) ((40 * (yC Y)) + k) (nI (newB Z (ys Y (ix a)) (yg Y (ix a)) (k)))) (upd (g15) ((40 * (yC Y)) + k) (nI (0))) H locs hP hD hS (by omega) (hand_s h14) (hand_s (v := fun _ => 0) h15) (by omega) ls (lv_sub hl [3, 4, 5, 1, 0] rfl)
                              · skip
                                exfalso; omega
                            · skip
                              exfalso; omega
                          · skip
                            have hwk : widthN (ys Y (ix a)) k (yg Y (ix a)) + 2 = yg Y (ix a) / ys Y (ix a) + 3 := by omega
                            have hcb := cw_t (by omega) (by omega) hwk
                            refine lv_iconst (v := (nI (1))) hx hb dX5_make_377 (by decide) ?_
                            refine lv_goto (tgt := 382) hx hb dX5_make_378 (by decide) ?_
                            refine lv_istore (lv' := [(8, .int (nI (1))), (0, .ref h0), (1, .int (nI (ix a))), (5, .int (nI (cwN (ys Y (ix a)) (yg Y (ix a)) k))), (6, .int (nI (k - cwN (ys Y (ix a)) (yg Y (ix a)) k))), (7, .int (nI (k)))]) hx hb dX5_make_382 hl (by decide) rfl (fun ls hl => ?_)
                            refine lv_aload_n hx hb dX5_make_384 rfl (lv_at hl 1 rfl) ?_
                            refine va_get (D := D) (ci := 5) (v := .ref ((ad 14))) (C := RX5) (T := TX5) (N := 34) hx hb hts (by decide +kernel) hown hK hP 0 rfl rfl 14 (by decide) (hts (.fieldLink RX5 37 "CaskYardModel" "boltOf" "[I") (by decide +kernel)) (fun _ h9 => h9) rfl dX5_make_385 ?_
                            refine lv_bipush (v := (nI (40))) hx hb dX5_make_388 (by decide) ?_
                            refine lv_aload_n hx hb dX5_make_390 rfl (lv_at hl 1 rfl) ?_
                            refine va_get (D := D) (ci := 5) (v := .int (I_48 3)) (C := RX5) (T := TX5) (N := 34) hx hb hts (by decide +kernel) hown hK hP 0 rfl rfl 3 (by decide) (hts (.fieldLink RX5 184 "CaskYardModel" "casks" "I") (by decide +kernel)) (fun _ h9 => h9) rfl dX5_make_391 ?_
                            refine g_top (y := (nI (yC Y))) hv3 ?_
                            refine g_imul_n hx hb dX5_make_394 ?_
                            refine lv_iload hx hb dX5_make_395 (lv_at hl 5 rfl) ?_
                            refine g_iadd_n hx hb dX5_make_397 ?_
                            refine lv_iload hx hb dX5_make_398 (lv_at hl 0 rfl) ?_
                            refine g_if_eq (tgt := 413) hx hb dX5_make_400 (by decide) (n_i (by omega)) (fun c_400 => ?_) (fun c_400 => ?_)
                            · skip
                              exfalso; omega
                            · skip
                              refine lv_aload_n hx hb dX5_make_403 rfl (lv_at hl 1 rfl) ?_
                              refine va_get (D := D) (ci := 5) (v := .ref ((ad 33))) (C := RX5) (T := TX5) (N := 34) hx hb hts (by decide +kernel) hown hK hP 0 rfl rfl 33 (by decide) (hts (.fieldLink RX5 80 "CaskYardModel" "cutBolt" "[I") (by decide +kernel)) (fun _ h9 => h9) rfl dX5_make_404 ?_
                              refine lv_iload hx hb dX5_make_407 (lv_at hl 3 rfl) ?_
                              refine g_iald hx hb hK hP 24 0 rfl rfl (cwN (ys Y (ix a)) (yg Y (ix a)) k) rfl (by omega) (by decide) dX5_make_409 ?_
                              refine g_top (y := ((Gt 33) (cwN (ys Y (ix a)) (yg Y (ix a)) k))) (congrFun (show F2 33 = Gt 33 by rw [hF2, va_up_ne _ _ (by decide), hF1, va_up_ne _ _ (by decide)]) (cwN (ys Y (ix a)) (yg Y (ix a)) k)) ?_
                              refine g_top (y := (nI (newB Z (ys Y (ix a)) (yg Y (ix a)) (k)))) (by rw [hg33, hG.2.2.2.1 _ (by omega), newB, if_pos hwk]) ?_
                              refine lv_goto (tgt := 423) hx hb dX5_make_410 (by decide) ?_
                              refine g_iast hx hb hK hP hD hS 10 0 rfl rfl ((40 * (yC Y)) + k) rfl (by omega) (by decide) dX5_make_423 (fun H locs hP hD hS => ?_)
                              rw [wMs_14] at hP hD
                              rw [eF2_14] at hP hD
                              obtain ⟨F7, hF7⟩ : ∃ G, G = va_up F2 14 (upd (g14) ((40 * (yC Y)) + k) (nI (newB Z (ys Y (ix a)) (yg Y (ix a)) (k)))) := ⟨_, rfl⟩
                              rw [← hF7] at hP hD
                              have eF7_14 : F7 14 = upd (g14) ((40 * (yC Y)) + k) (nI (newB Z (ys Y (ix a)) (yg Y (ix a)) (k))) := by rw [hF7]; exact va_up_self _ _ _
                              have eF7_15 : F7 15 = g15 := by rw [hF7, va_up_ne _ _ (by decide)]; exact eF2_15
                              refine lv_iload hx hb dX5_make_424 (lv_at hl 0 rfl) ?_
                              refine g_if_eq (tgt := 435) hx hb dX5_make_426 (by decide) (n_i (by omega)) (fun c_426 => ?_) (fun c_426 => ?_)
                              · skip
                                exfalso; omega
                              · skip
                                refine lv_iinc (v := (nI (cwN (ys Y (ix a)) (yg Y (ix a)) k + 1))) (lv' := [(5, .int (nI (cwN (ys Y (ix a)) (yg Y (ix a)) k + 1))), (8, .int (nI (1))), (0, .ref h0), (1, .int (nI (ix a))), (6, .int (nI (k - cwN (ys Y (ix a)) (yg Y (ix a)) k))), (7, .int (nI (k)))]) hx hb dX5_make_429 hl (k := 3) rfl (nI_add _ _) (by decide) rfl (fun ls hl => ?_)
                                refine lv_goto (tgt := 438) hx hb dX5_make_432 (by decide) ?_
                                refine lv_aload_n hx hb dX5_make_438 rfl (lv_at hl 2 rfl) ?_
                                refine va_get (D := D) (ci := 5) (v := .ref ((ad 15))) (C := RX5) (T := TX5) (N := 34) hx hb hts (by decide +kernel) hown hK hP 0 rfl rfl 15 (by decide) (hts (.fieldLink RX5 40 "CaskYardModel" "past" "[I") (by decide +kernel)) (fun _ h9 => h9) rfl dX5_make_439 ?_
                                refine lv_bipush (v := (nI (40))) hx hb dX5_make_442 (by decide) ?_
                                refine lv_aload_n hx hb dX5_make_444 rfl (lv_at hl 2 rfl) ?_
                                refine va_get (D := D) (ci := 5) (v := .int (I_48 3)) (C := RX5) (T := TX5) (N := 34) hx hb hts (by decide +kernel) hown hK hP 0 rfl rfl 3 (by decide) (hts (.fieldLink RX5 184 "CaskYardModel" "casks" "I") (by decide +kernel)) (fun _ h9 => h9) rfl dX5_make_445 ?_
                                refine g_top (y := (nI (yC Y))) hv3 ?_
                                refine g_imul_n hx hb dX5_make_448 ?_
                                refine lv_iload hx hb dX5_make_449 (lv_at hl 5 rfl) ?_
                                refine g_iadd_n hx hb dX5_make_451 ?_
                                refine lv_iconst (v := (nI (0))) hx hb dX5_make_452 (by decide) ?_
                                refine g_iast hx hb hK hP hD hS 11 0 rfl rfl ((40 * (yC Y)) + k) rfl (by omega) (by decide) dX5_make_453 (fun H locs hP hD hS => ?_)
                                rw [wMs_15] at hP hD
                                rw [eF7_15] at hP hD
                                obtain ⟨F8, hF8⟩ : ∃ G, G = va_up F7 15 (upd (g15) ((40 * (yC Y)) + k) (nI (0))) := ⟨_, rfl⟩
                                rw [← hF8] at hP hD
                                have eF8_15 : F8 15 = upd (g15) ((40 * (yC Y)) + k) (nI (0)) := by rw [hF8]; exact va_up_self _ _ _
                                have eF8_14 : F8 14 = upd (g14) ((40 * (yC Y)) + k) (nI (newB Z (ys Y (ix a)) (yg Y (ix a)) (k))) := by rw [hF8, va_up_ne _ _ (by decide)]; exact eF7_14
                                have hcs : cwN (ys Y (ix a)) (yg Y (ix a)) (k + 1) = cwN (ys Y (ix a)) (yg Y (ix a)) k + 1 := by rw [cwN, if_pos hwk]
                                have hl : lv_has ls 11 [(5, .int (nI (cwN (ys Y (ix a)) (yg Y (ix a)) (k + 1)))), (8, .int (nI (1))), (0, .ref h0), (1, .int (nI (ix a))), (6, .int (nI (k + 1 - cwN (ys Y (ix a)) (yg Y (ix a)) (k + 1)))), (7, .int (nI (k)))] := by rw [← (show nI (cwN (ys Y (ix a)) (yg Y (ix a)) k + 1) = nI (cwN (ys Y (ix a)) (yg Y (ix a)) (k + 1)) from congrArg nI hcs.symm), ← (show nI (k - cwN (ys Y (ix a)) (yg Y (ix a)) k) = nI (k + 1 - cwN (ys Y (ix a)) (yg Y (ix a)) (k + 1)) from congrArg nI (by rw [hcs]; omega))]; exact hl
                                refine lv_iinc (v := (nI (k + 1))) (lv' := [(7, .int (nI (k + 1))), (5, .int (nI (cwN (ys Y (ix a)) (yg Y (ix a)) (k + 1)))), (8, .int (nI (1))), (0, .ref h0), (1, .int (nI (ix a))), (6, .int (nI (k + 1 - cwN (ys Y (ix a)) (yg Y (ix a)) (k + 1))))]) hx hb dX5_make_454 hl (k := 5) rfl (nI_add _ _) (by decide) rfl (fun ls hl => ?_)
                                refine lv_goto (tgt := 342) hx hb dX5_make_457 (by decide) ?_
                                have hFe : F8 = (va_up (va_up Gt 14 (upd (g14) ((40 * (yC Y)) + k) (nI (newB Z (ys Y (ix a)) (yg Y (ix a)) (k))))) 15 (upd (g15) ((40 * (yC Y)) + k) (nI (0)))) := fe2 eF8_14 eF8_15 (fun j_ a0_ a1_ => by rw [hF8, va_up_ne _ _ (by assumption), hF7, va_up_ne _ _ (by assumption), hF2, va_up_ne _ _ (by assumption), hF1, va_up_ne _ _ (by assumption)]) (by decide)
                                rw [hFe] at hP hD
                                exact ih_342 (k + 1) (upd (g14) ((40 * (yC Y)) + k) (nI (newB Z (ys Y (ix a)) (yg Y (ix a)) (k)))) (upd (g15) ((40 * (yC Y)) + k) (nI (0))) H locs hP hD hS (by omega) (hand_s h14) (hand_s (v := fun _ => 0) h15) (by omega) ls (lv_sub hl [3, 4, 1, 5, 0] rfl)
                    have hFe : Gt = (va_up (va_up Gt 14 (Gt 14)) 15 (Gt 15)) := fe2 rfl rfl (fun j_ a0_ a1_ => rfl) (by decide)
                    rw [hFe] at hP hD
                    exact loop_342 _ (0) (Gt 14) (Gt 15) H locs hP hD hS (Nat.zero_le _) (fun j => by rw [if_neg (by omega)]; exact congrFun (hGF 14 (by decide) (by decide) (by decide) (by decide) (by decide)) j) (fun j => by rw [if_neg (by omega)]; exact congrFun (hGF 15 (by decide) (by decide) (by decide) (by decide) (by decide)) j) (Nat.lt_succ_self _) ls (lv_sub hl [3, 4, 2, 1, 0] rfl)
                  · skip
                    refine lv_aload_n hx hb dX5_make_321 rfl (lv_at hl 0 rfl) ?_
                    refine lv_iload hx hb dX5_make_322 (lv_at hl 2 rfl) ?_
                    have hlq := (hyb q (by omega)).2.1
                    have hFc := w_free hD hS hA
                    refine va_callv (va_runV (As := [.int (nI (q))]) (rest := []) ⟨hx, hb, hml, hown, hts⟩ (c_X5_tidy l D cy H.size h0 ad I_48 Gt (q) (by omega) (cutPL (yP Y q) (amN wd nr Z q)) (by rw [cutPL_len]; exact hlq) ((hT.2.2 q (Nat.le_refl _) (by omega)).1) ((hT.2.2 q (Nat.le_refl _) (by omega)).2) (cp_bd hY hG (by omega))) (cwV 1 hts gX5_make_X5_tidy rfl rfl rfl (by decide +kernel) ⟨Nat.le_of_ble_eq_true rfl, Nat.le_of_ble_eq_true rfl⟩) ⟨wB_blind, va_recv hK hP (ci := 5) (q0 := 0) rfl rfl, wB_pre hP hK hD⟩ rfl rfl hl.1 rfl (lv_room (Nat.le_of_ble_eq_true rfl)) dX5_make_324 ⟨Nat.le_of_ble_eq_true rfl, Nat.le_of_ble_eq_true rfl⟩) hS (fun q _ h => hFc q h) hFc (fun u_324 t H locs ht hvm hw_324 hB _ _ hS => ?_)
                    obtain ⟨I_324, F_324⟩ := u_324
                    obtain ⟨hP1, hK1, hD1⟩ := hB
                    rw [ht] at hP1
                    dsimp only at hP1 hD1 hw_324
                    have hP := hP1
                    have hD := hD1.weaken (fun _ _ _ h => hFc _ h)
                    obtain ⟨x11, x12, hu_324, hA9, hO9⟩ := hw_324
                    rw [(Prod.mk.inj hu_324).1] at hP hD
                    have hT2 := mkT_step hT (fun b hb => by rw [cutPL_len]; exact (hyb b hb).2.1) (by omega) (Prod.mk.inj hu_324).2 hA9 hO9
                    have hP : va_P D vwCl (wM cy h0 ad I_48 F_324) H := hP
                    have hD : va_D A (wM cy h0 ad I_48 F_324) := hD
                    refine lv_iinc (v := (nI (q + 1))) (lv' := [(7, .int (nI (q + 1))), (0, .ref h0), (1, .int (nI (ix a)))]) hx hb dX5_make_327 hl (k := 2) rfl (nI_add _ _) (by decide) rfl (fun ls hl => ?_)
                    refine lv_goto (tgt := 312) hx hb dX5_make_330 (by decide) ?_
                    exact ih_312 (q + 1) (F_324) H locs hP hD hS (by omega) hT2 (by omega) ls (lv_sub hl [1, 2, 0] rfl)
              exact loop_312 _ (0) (Gc) H locs hP hD hS (Nat.zero_le _) (mkT_0 hM48 hG) (Nat.lt_succ_self _) ls (lv_sub hl [1, 2, 0] rfl)
            · skip
              have ht1 : ti < T.length := by omega
              have hz9 := hz _ (paD_mem ht1)
              have hz1 := hz9.1
              have hz2 := hz9.2
              have hp4 := (hyb _ hz1).2.1
              have hpq := (hyb _ hz1).2.2 _ (paD_mem hz2)
              have hp22 : Gc 22 ti = nI (paD T ti).1 := by rw [hG.1 22 (by decide) (by decide) (by decide)]; have := (arrP_at hTBx (i := ti) ht1).1; rwa [Nat.zero_add] at this
              have hp23 : Gc 23 ti = nI (paD T ti).2 := by rw [hG.1 23 (by decide) (by decide) (by decide)]; have := (arrP_at hTBx (i := ti) ht1).2; rwa [Nat.zero_add] at this
              have h11 : Gc 11 (5 * (paD T ti).1 + (paD T ti).2) = nI (paD (yP Y (paD T ti).1) (paD T ti).2).1 := by have h9 := (hG.2.1 _ hz1 _ hz2).1; rw [hG.2.2.1 _ (by rw [drop_s ht1]; exact List.mem_cons_self)] at h9; exact h9
              have h12 : Gc 12 (5 * (paD T ti).1 + (paD T ti).2) = nI (paD (yP Y (paD T ti).1) (paD T ti).2).2 := by rw [hG.1 12 (by decide) (by decide) (by decide)]; exact (arrP_at (hM48.2.2.2.2.2.1 _ hz1).2.2 hz2).2
              have hple : plen Y (paD T ti) = (paD (yP Y (paD T ti).1) (paD T ti).2).2 - (paD (yP Y (paD T ti).1) (paD T ti).2).1 := rfl
              have hpl6 : plen Y (paD T ti) ≤ 600 := by omega
              have hdv : plen Y (paD T ti) / wd ≤ 600 := Nat.le_trans (Nat.div_le_self _ _) hpl6
              obtain ⟨hq0, hqe⟩ : ∃ x, x = min wl (plen Y (paD T ti) / wd) := ⟨_, rfl⟩
              have hqw : hq0 ≤ wl := by rw [hqe]; exact Nat.min_le_left _ _
              have hqf : hq0 * wd ≤ plen Y (paD T ti) := by rw [hqe]; exact Nat.le_trans (Nat.mul_le_mul_right _ (Nat.min_le_right _ _)) (Nat.div_mul_le_self _ _)
              rw [drop_s ht1] at hgv
              have hgd0 := good_ex (by omega) hgv
              rw [← hqe] at hgd0
              refine lv_iload_n hx hb dX5_make_80 rfl (lv_at hl 2 rfl) ?_
              refine lv_aload_n hx hb dX5_make_81 rfl (lv_at hl 0 rfl) ?_
              refine lv_iload hx hb dX5_make_82 (lv_at hl 6 rfl) ?_
              refine vp_callSi (va_Run.run (va_runV (As := [.int (nI (ti))]) (rest := [.int (nI (wl))]) ⟨hx, hb, hml, hown, hts⟩ (c_X5_length l D cy h0 ad I_48 Gc (ti) ((paD T ti).1) ((paD T ti).2) ((paD (yP Y (paD T ti).1) (paD T ti).2).1) ((paD (yP Y (paD T ti).1) (paD T ti).2).2) (by omega) (by omega) (by omega) (hp22) (hp23) (h11) (h12) (by omega)) (cwV 1 hts gX5_make_X5_length rfl rfl rfl (by decide +kernel) ⟨Nat.le_of_ble_eq_true rfl, Nat.le_of_ble_eq_true rfl⟩) ⟨rB_blind, va_recv hK hP (ci := 5) (q0 := 0) rfl rfl, (rB_pre hP hK)⟩ rfl rfl hl.1 rfl (lv_room (Nat.le_of_ble_eq_true rfl)) dX5_make_84 ⟨Nat.le_of_ble_eq_true rfl, Nat.le_of_ble_eq_true rfl⟩)) (fun r_84 hr_84 => ?_)
              refine g_top (y := (nI (plen Y (paD T ti)))) (hr_84.trans (congrArg nI hple.symm)) ?_
              refine lv_aload_n hx hb dX5_make_87 rfl (lv_at hl 0 rfl) ?_
              refine va_get (D := D) (ci := 5) (v := .int (I_48 26)) (C := RX5) (T := TX5) (N := 34) hx hb hts (by decide +kernel) hown hK hP 0 rfl rfl 26 (by decide) (hts (.fieldLink RX5 146 "CaskYardModel" "wide" "I") (by decide +kernel)) (fun _ h9 => h9) rfl dX5_make_88 ?_
              refine g_top (y := (nI (wd))) hv26 ?_
              refine g_idiv_n hx hb dX5_make_91 (by omega) (by omega) (by omega) ?_
              refine va_mmin hx hb (hml.trans hl.1.symm) hown (hts (.methodLink RX5 131 Lib.Math.min.name) (by decide +kernel)) (hts (.static Lib.Math.min.name) (by decide +kernel)) (hts (.initialized "java/lang/Math") (by decide +kernel)) (hts (.code Lib.Math.min.name Lib.Math.min.code 2 (some .int)) (by decide +kernel)) (Nat.le_of_ble_eq_true rfl) (Nat.le_of_ble_eq_true rfl) (Nat.le_of_ble_eq_true rfl) (Nat.le_of_ble_eq_true rfl) dX5_make_92 ?_
              refine g_top (y := (nI (min (wl) ((plen Y (paD T ti)) / wd)))) (n_min (by omega) (by omega)) ?_
              refine g_top (y := (nI (hq0))) (congrArg nI hqe.symm) ?_
              refine lv_istore (lv' := [(8, .int (nI (hq0))), (0, .ref h0), (1, .int (nI (ix a))), (3, .int (nI (wl))), (4, .int (nI (nl))), (5, .int (nI ((wdL Z).length))), (6, .int (nI ((nrL Z).length))), (7, .int (nI (ti)))]) hx hb dX5_make_95 hl (by decide) rfl (fun ls hl => ?_)
              refine lv_iload hx hb dX5_make_97 (lv_at hl 4 rfl) ?_
              refine lv_aload_n hx hb dX5_make_99 rfl (lv_at hl 1 rfl) ?_
              refine lv_iload hx hb dX5_make_100 (lv_at hl 7 rfl) ?_
              refine vp_callSi (va_Run.run (va_runV (As := [.int (nI (ti))]) (rest := [.int (nI (nl))]) ⟨hx, hb, hml, hown, hts⟩ (c_X5_length l D cy h0 ad I_48 Gc (ti) ((paD T ti).1) ((paD T ti).2) ((paD (yP Y (paD T ti).1) (paD T ti).2).1) ((paD (yP Y (paD T ti).1) (paD T ti).2).2) (by omega) (by omega) (by omega) (hp22) (hp23) (h11) (h12) (by omega)) (cwV 1 hts gX5_make_X5_length rfl rfl rfl (by decide +kernel) ⟨Nat.le_of_ble_eq_true rfl, Nat.le_of_ble_eq_true rfl⟩) ⟨rB_blind, va_recv hK hP (ci := 5) (q0 := 0) rfl rfl, (rB_pre hP hK)⟩ rfl rfl hl.1 rfl (lv_room (Nat.le_of_ble_eq_true rfl)) dX5_make_102 ⟨Nat.le_of_ble_eq_true rfl, Nat.le_of_ble_eq_true rfl⟩)) (fun r_102 hr_102 => ?_)
              refine g_top (y := (nI (plen Y (paD T ti)))) (hr_102.trans (congrArg nI hple.symm)) ?_
              refine lv_iload hx hb dX5_make_105 (lv_at hl 0 rfl) ?_
              refine lv_aload_n hx hb dX5_make_107 rfl (lv_at hl 1 rfl) ?_
              refine va_get (D := D) (ci := 5) (v := .int (I_48 26)) (C := RX5) (T := TX5) (N := 34) hx hb hts (by decide +kernel) hown hK hP 0 rfl rfl 26 (by decide) (hts (.fieldLink RX5 146 "CaskYardModel" "wide" "I") (by decide +kernel)) (fun _ h9 => h9) rfl dX5_make_108 ?_
              refine g_top (y := (nI (wd))) hv26 ?_
              refine g_imul_n hx hb dX5_make_111 ?_
              refine g_isub_n hx hb dX5_make_112 hqf ?_
              refine lv_aload_n hx hb dX5_make_113 rfl (lv_at hl 1 rfl) ?_
              refine va_get (D := D) (ci := 5) (v := .int (I_48 27)) (C := RX5) (T := TX5) (N := 34) hx hb hts (by decide +kernel) hown hK hP 0 rfl rfl 27 (by decide) (hts (.fieldLink RX5 143 "CaskYardModel" "narrow" "I") (by decide +kernel)) (fun _ h9 => h9) rfl dX5_make_114 ?_
              refine g_top (y := (nI (nr))) hv27 ?_
              refine g_idiv_n hx hb dX5_make_117 (by omega) (by omega) (by omega) ?_
              have hdq : (plen Y (paD T ti) - hq0 * wd) / nr ≤ 600 := Nat.le_trans (Nat.div_le_self _ _) (by omega)
              refine va_mmin hx hb (hml.trans hl.1.symm) hown (hts (.methodLink RX5 131 Lib.Math.min.name) (by decide +kernel)) (hts (.static Lib.Math.min.name) (by decide +kernel)) (hts (.initialized "java/lang/Math") (by decide +kernel)) (hts (.code Lib.Math.min.name Lib.Math.min.code 2 (some .int)) (by decide +kernel)) (Nat.le_of_ble_eq_true rfl) (Nat.le_of_ble_eq_true rfl) (Nat.le_of_ble_eq_true rfl) (Nat.le_of_ble_eq_true rfl) dX5_make_118 ?_
              refine g_top (y := (nI (min (nl) (((plen Y (paD T ti)) - (hq0 * wd)) / nr)))) (n_min (by omega) (by omega)) ?_
              refine lv_istore (lv' := [(9, .int (nI (min (nl) (((plen Y (paD T ti)) - (hq0 * wd)) / nr)))), (8, .int (nI (hq0))), (0, .ref h0), (1, .int (nI (ix a))), (3, .int (nI (wl))), (4, .int (nI (nl))), (5, .int (nI ((wdL Z).length))), (6, .int (nI ((nrL Z).length))), (7, .int (nI (ti)))]) hx hb dX5_make_121 hl (by decide) rfl (fun ls hl => ?_)
              have loop_123 : ∀ (n_ : Nat) (h : Nat) (m9 : Nat), (h ≤ hq0) → (h * wd ≤ plen Y (paD T ti)) → (chN wd nr (lenL Y (T.drop (ti + 1))) (plen Y (paD T ti)) wl nl (hq0) = chN wd nr (lenL Y (T.drop (ti + 1))) (plen Y (paD T ti)) wl nl (h)) → (goodN wd nr (lenL Y (T.drop (ti + 1))) (plen Y (paD T ti)) wl nl (chN wd nr (lenL Y (T.drop (ti + 1))) (plen Y (paD T ti)) wl nl (h))) → (m9 = min nl ((plen Y (paD T ti) - h * wd) / nr)) → h < n_ → ∀ (ls : Array Slot), lv_has ls 11 [(0, .ref h0), (1, .int (nI (ix a))), (3, .int (nI (wl))), (4, .int (nI (nl))), (5, .int (nI ((wdL Z).length))), (6, .int (nI ((nrL Z).length))), (7, .int (nI (ti))), (8, .int (nI (h))), (9, .int (nI (m9)))] → W p l e (headSpec wsX5_make ({ frames := 4, cells := 0, slots := 0, locals := 96 } : Room)).room s m ([.ref h0, .int (a)] : List Value).toArray below meth c H locs 0 0 (MQ below (va_Qi (fun (r : Int32) (u : (Nat → Int32) × (Nat → Nat → Int32)) => MP r u (sp_make Y a)) (fun u t => wE D cy A (wM cy h0 ad u.1 u.2) t) A) ([.ref h0, .int (a)] : List Value).toArray s 0 0 A) (F0 m 123 ls []) := by
                intro n_
                induction n_ with
                | zero => intro h m9 hh hhw hch hgd hm9 hm_; exact absurd hm_ (Nat.not_lt_zero _)
                | succ n_ ih_123 =>
                  intro h m9 hh hhw hch hgd hm9 hm_ ls hl
                  have hm9l : m9 ≤ nl := by rw [hm9]; exact Nat.min_le_left _ _
                  refine lv_aload_n hx hb dX5_make_123 rfl (lv_at hl 0 rfl) ?_
                  refine lv_iload hx hb dX5_make_124 (lv_at hl 6 rfl) ?_
                  refine lv_iconst (v := (nI (1))) hx hb dX5_make_126 (by decide) ?_
                  refine g_iadd_n hx hb dX5_make_127 ?_
                  refine lv_iload_n hx hb dX5_make_128 rfl (lv_at hl 2 rfl) ?_
                  refine lv_iload hx hb dX5_make_129 (lv_at hl 7 rfl) ?_
                  refine g_isub_n hx hb dX5_make_131 (by omega) ?_
                  refine lv_iload hx hb dX5_make_132 (lv_at hl 3 rfl) ?_
                  refine lv_iload hx hb dX5_make_134 (lv_at hl 8 rfl) ?_
                  refine g_isub_n hx hb dX5_make_136 (by omega) ?_
                  have hmz := dpD_bd hY hT32 hz wd nr (ti + 1) (wl - h)
                  rw [lenL_dr] at hmz
                  have h24 : Gc 24 (41 * (ti + 1) + (wl - h)) = zI (dpN wd nr (lenL Y (T.drop (ti + 1))) (wl - h)) := by rw [hG.1 24 (by decide) (by decide) (by decide), hD48 (ti + 1) (by omega) (by omega) (wl - h) (by omega), lenL_dr]
                  refine vp_callSi (va_Run.run (va_runV (As := [.int (nI (ti + 1)), .int (nI (wl - h)), .int (nI (nl - m9))]) (rest := []) ⟨hx, hb, hml, hown, hts⟩ (c_X5_gives l D cy h0 ad I_48 Gc (ti + 1) (wl - h) (nl - m9) (dpN wd nr (lenL Y (T.drop (ti + 1))) (wl - h)) (by omega) (h24) (by omega) (by omega)) (cwV 3 hts gX5_make_X5_gives rfl rfl rfl (by decide +kernel) ⟨Nat.le_of_ble_eq_true rfl, Nat.le_of_ble_eq_true rfl⟩) ⟨rB_blind, va_recv hK hP (ci := 5) (q0 := 0) rfl rfl, (rB_pre hP hK)⟩ rfl rfl hl.1 rfl (lv_room (Nat.le_of_ble_eq_true rfl)) dX5_make_137 ⟨Nat.le_of_ble_eq_true rfl, Nat.le_of_ble_eq_true rfl⟩)) (fun r_137 hr_137 => ?_)
                  subst hr_137
                  refine g_ifne_b (tgt := 175) hx hb dX5_make_140 (by decide) (fun c_140 => ?_) (fun c_140 => ?_)
                  · skip
                    have hgd2 : goodN wd nr (lenL Y (T.drop (ti + 1))) (plen Y (paD T ti)) wl nl h := by show ((nl - min nl _ : Nat) : Int) ≤ _; rw [← hm9]; exact c_140
                    have hce := hch.trans (chN_hit hgd2)
                    rw [hqe] at hce
                    have hm9f : m9 * nr ≤ plen Y (paD T ti) - h * wd := by rw [hm9]; exact Nat.le_trans (Nat.mul_le_mul_right _ (Nat.min_le_right _ _)) (Nat.div_mul_le_self _ _)
                    have hfit : h * wd + m9 * nr ≤ plen Y (paD T ti) := by omega
                    refine lv_iconst (v := (nI (0))) hx hb dX5_make_175 (by decide) ?_
                    refine lv_istore (lv' := [(10, .int (nI (0))), (0, .ref h0), (1, .int (nI (ix a))), (3, .int (nI (wl))), (4, .int (nI (nl))), (5, .int (nI ((wdL Z).length))), (6, .int (nI ((nrL Z).length))), (7, .int (nI (ti))), (8, .int (nI (h))), (9, .int (nI (m9)))]) hx hb dX5_make_176 hl (by decide) rfl (fun ls hl => ?_)
                    have loop_178 : ∀ (n_ : Nat) (k : Nat) (g33 : Nat → Int32) (H : Heap) (locs : List Loc), va_P D vwCl (wM cy h0 ad I_48 (va_up Gc 33 g33)) H → va_D A (wM cy h0 ad I_48 (va_up Gc 33 g33)) → va_S A s.heap H locs → (k ≤ h) → (∀ j, j < k → g33 ((wdL Z).length + j) = nI (paD T ti).1) → (∀ j, j < (wdL Z).length ∨ (wdL Z).length + k ≤ j → g33 j = Gc 33 j) → h - k < n_ → ∀ (ls : Array Slot), lv_has ls 11 [(0, .ref h0), (1, .int (nI (ix a))), (3, .int (nI (wl))), (4, .int (nI (nl))), (5, .int (nI ((wdL Z).length))), (6, .int (nI ((nrL Z).length))), (7, .int (nI (ti))), (8, .int (nI (h))), (9, .int (nI (m9))), (10, .int (nI (k)))] → W p l e (headSpec wsX5_make ({ frames := 4, cells := 0, slots := 0, locals := 96 } : Room)).room s m ([.ref h0, .int (a)] : List Value).toArray below meth c H locs 0 0 (MQ below (va_Qi (fun (r : Int32) (u : (Nat → Int32) × (Nat → Nat → Int32)) => MP r u (sp_make Y a)) (fun u t => wE D cy A (wM cy h0 ad u.1 u.2) t) A) ([.ref h0, .int (a)] : List Value).toArray s 0 0 A) (F0 m 178 ls []) := by
                      intro n_
                      induction n_ with
                      | zero => intro k g33 H locs hP hD hS hk hAw hO hm_; exact absurd hm_ (Nat.not_lt_zero _)
                      | succ n_ ih_178 =>
                        intro k g33 H locs hP hD hS hk hAw hO hm_ ls hl
                        obtain ⟨F9, hF9⟩ : ∃ G, G = va_up Gc 33 g33 := ⟨_, rfl⟩
                        rw [← hF9] at hP hD
                        have eF9_33 : F9 33 = g33 := by rw [hF9]; exact va_up_self _ _ _
                        refine lv_iload hx hb dX5_make_178 (lv_at hl 9 rfl) ?_
                        refine lv_iload hx hb dX5_make_180 (lv_at hl 7 rfl) ?_
                        refine g_icmp_ge (tgt := 208) hx hb dX5_make_182 (by decide) (n_i (by omega)) (n_i (by omega)) (fun c_182 => ?_) (fun c_182 => ?_)
                        · skip
                          have hkh : k = h := by omega
                          rw [hkh] at hAw hO
                          refine lv_iconst (v := (nI (0))) hx hb dX5_make_208 (by decide) ?_
                          refine lv_istore (lv' := [(10, .int (nI (0))), (0, .ref h0), (1, .int (nI (ix a))), (3, .int (nI (wl))), (4, .int (nI (nl))), (5, .int (nI ((wdL Z).length))), (6, .int (nI ((nrL Z).length))), (7, .int (nI (ti))), (8, .int (nI (h))), (9, .int (nI (m9)))]) hx hb dX5_make_209 hl (by decide) rfl (fun ls hl => ?_)
                          have loop_211 : ∀ (n_ : Nat) (k : Nat) (q33 : Nat → Int32) (H : Heap) (locs : List Loc), va_P D vwCl (wM cy h0 ad I_48 (va_up F9 33 q33)) H → va_D A (wM cy h0 ad I_48 (va_up F9 33 q33)) → va_S A s.heap H locs → (k ≤ m9) → (∀ j, j < k → q33 (40 + (nrL Z).length + j) = nI (paD T ti).1) → (∀ j, j < 40 + (nrL Z).length ∨ 40 + (nrL Z).length + k ≤ j → q33 j = g33 j) → m9 - k < n_ → ∀ (ls : Array Slot), lv_has ls 11 [(0, .ref h0), (1, .int (nI (ix a))), (3, .int (nI (wl))), (4, .int (nI (nl))), (5, .int (nI ((wdL Z).length))), (6, .int (nI ((nrL Z).length))), (7, .int (nI (ti))), (8, .int (nI (h))), (9, .int (nI (m9))), (10, .int (nI (k)))] → W p l e (headSpec wsX5_make ({ frames := 4, cells := 0, slots := 0, locals := 96 } : Room)).room s m ([.ref h0, .int (a)] : List Value).toArray below meth c H locs 0 0 (MQ below (va_Qi (fun (r : Int32) (u : (Nat → Int32) × (Nat → Nat → Int32)) => MP r u (sp_make Y a)) (fun u t => wE D cy A (wM cy h0 ad u.1 u.2) t) A) ([.ref h0, .int (a)] : List Value).toArray s 0 0 A) (F0 m 211 ls []) := by
                            intro n_
                            induction n_ with
                            | zero => intro k q33 H locs hP hD hS hk2 hBw hO2 hm_; exact absurd hm_ (Nat.not_lt_zero _)
                            | succ n_ ih_211 =>
                              intro k q33 H locs hP hD hS hk2 hBw hO2 hm_ ls hl
                              obtain ⟨F10, hF10⟩ : ∃ G, G = va_up F9 33 q33 := ⟨_, rfl⟩
                              rw [← hF10] at hP hD
                              have eF10_33 : F10 33 = q33 := by rw [hF10]; exact va_up_self _ _ _
                              refine lv_iload hx hb dX5_make_211 (lv_at hl 9 rfl) ?_
                              refine lv_iload hx hb dX5_make_213 (lv_at hl 8 rfl) ?_
                              refine g_icmp_ge (tgt := 244) hx hb dX5_make_215 (by decide) (n_i (by omega)) (n_i (by omega)) (fun c_215 => ?_) (fun c_215 => ?_)
                              · skip
                                have hkm : k = m9 := by omega
                                rw [hkm] at hBw hO2
                                refine lv_iload hx hb dX5_make_244 (lv_at hl 4 rfl) ?_
                                refine lv_iload hx hb dX5_make_246 (lv_at hl 7 rfl) ?_
                                refine g_iadd_n hx hb dX5_make_248 ?_
                                refine lv_istore (lv' := [(5, .int (nI (((wdL Z).length) + h))), (0, .ref h0), (1, .int (nI (ix a))), (3, .int (nI (wl))), (4, .int (nI (nl))), (6, .int (nI ((nrL Z).length))), (7, .int (nI (ti))), (8, .int (nI (h))), (9, .int (nI (m9))), (10, .int (nI (k)))]) hx hb dX5_make_249 hl (by decide) rfl (fun ls hl => ?_)
                                refine lv_iload hx hb dX5_make_251 (lv_at hl 5 rfl) ?_
                                refine lv_iload hx hb dX5_make_253 (lv_at hl 8 rfl) ?_
                                refine g_iadd_n hx hb dX5_make_255 ?_
                                refine lv_istore (lv' := [(6, .int (nI (((nrL Z).length) + m9))), (5, .int (nI (((wdL Z).length) + h))), (0, .ref h0), (1, .int (nI (ix a))), (3, .int (nI (wl))), (4, .int (nI (nl))), (7, .int (nI (ti))), (8, .int (nI (h))), (9, .int (nI (m9))), (10, .int (nI (k)))]) hx hb dX5_make_256 hl (by decide) rfl (fun ls hl => ?_)
                                refine lv_iload_n hx hb dX5_make_258 rfl (lv_at hl 4 rfl) ?_
                                refine lv_iload hx hb dX5_make_259 (lv_at hl 7 rfl) ?_
                                refine g_isub_n hx hb dX5_make_261 (by omega) ?_
                                refine lv_istore_n (lv' := [(3, .int (nI (wl - h))), (6, .int (nI (((nrL Z).length) + m9))), (5, .int (nI (((wdL Z).length) + h))), (0, .ref h0), (1, .int (nI (ix a))), (4, .int (nI (nl))), (7, .int (nI (ti))), (8, .int (nI (h))), (9, .int (nI (m9))), (10, .int (nI (k)))]) hx hb dX5_make_262 rfl hl (by decide) rfl (fun ls hl => ?_)
                                refine lv_iload hx hb dX5_make_263 (lv_at hl 5 rfl) ?_
                                refine lv_iload hx hb dX5_make_265 (lv_at hl 8 rfl) ?_
                                refine g_isub_n hx hb dX5_make_267 (by omega) ?_
                                refine lv_istore (lv' := [(4, .int (nI (nl - m9))), (3, .int (nI (wl - h))), (6, .int (nI (((nrL Z).length) + m9))), (5, .int (nI (((wdL Z).length) + h))), (0, .ref h0), (1, .int (nI (ix a))), (7, .int (nI (ti))), (8, .int (nI (h))), (9, .int (nI (m9))), (10, .int (nI (k)))]) hx hb dX5_make_268 hl (by decide) rfl (fun ls hl => ?_)
                                refine lv_aload_n hx hb dX5_make_270 rfl (lv_at hl 4 rfl) ?_
                                refine lv_aload_n hx hb dX5_make_271 rfl (lv_at hl 4 rfl) ?_
                                refine va_get (D := D) (ci := 5) (v := .ref ((ad 22))) (C := RX5) (T := TX5) (N := 34) hx hb hts (by decide +kernel) hown hK hP 0 rfl rfl 22 (by decide) (hts (.fieldLink RX5 62 "CaskYardModel" "setBolt" "[I") (by decide +kernel)) (fun _ h9 => h9) rfl dX5_make_272 ?_
                                refine lv_iload hx hb dX5_make_275 (lv_at hl 6 rfl) ?_
                                refine g_iald hx hb hK hP 18 0 rfl rfl (ti) rfl (by omega) (by decide) dX5_make_277 ?_
                                refine g_top (y := ((Gc 22) (ti))) (congrFun (show F10 22 = Gc 22 by rw [hF10, va_up_ne _ _ (by decide), hF9, va_up_ne _ _ (by decide)]) (ti)) ?_
                                refine g_top (y := (nI ((paD T ti).1))) hp22 ?_
                                refine lv_aload_n hx hb dX5_make_278 rfl (lv_at hl 4 rfl) ?_
                                refine va_get (D := D) (ci := 5) (v := .ref ((ad 23))) (C := RX5) (T := TX5) (N := 34) hx hb hts (by decide +kernel) hown hK hP 0 rfl rfl 23 (by decide) (hts (.fieldLink RX5 65 "CaskYardModel" "setPart" "[I") (by decide +kernel)) (fun _ h9 => h9) rfl dX5_make_279 ?_
                                refine lv_iload hx hb dX5_make_282 (lv_at hl 6 rfl) ?_
                                refine g_iald hx hb hK hP 19 0 rfl rfl (ti) rfl (by omega) (by decide) dX5_make_284 ?_
                                refine g_top (y := ((Gc 23) (ti))) (congrFun (show F10 23 = Gc 23 by rw [hF10, va_up_ne _ _ (by decide), hF9, va_up_ne _ _ (by decide)]) (ti)) ?_
                                refine g_top (y := (nI ((paD T ti).2))) hp23 ?_
                                refine lv_iload hx hb dX5_make_285 (lv_at hl 7 rfl) ?_
                                refine lv_aload_n hx hb dX5_make_287 rfl (lv_at hl 4 rfl) ?_
                                refine va_get (D := D) (ci := 5) (v := .int (I_48 26)) (C := RX5) (T := TX5) (N := 34) hx hb hts (by decide +kernel) hown hK hP 0 rfl rfl 26 (by decide) (hts (.fieldLink RX5 146 "CaskYardModel" "wide" "I") (by decide +kernel)) (fun _ h9 => h9) rfl dX5_make_288 ?_
                                refine g_top (y := (nI (wd))) hv26 ?_
                                refine g_imul_n hx hb dX5_make_291 ?_
                                refine lv_iload hx hb dX5_make_292 (lv_at hl 8 rfl) ?_
                                refine lv_aload_n hx hb dX5_make_294 rfl (lv_at hl 4 rfl) ?_
                                refine va_get (D := D) (ci := 5) (v := .int (I_48 27)) (C := RX5) (T := TX5) (N := 34) hx hb hts (by decide +kernel) hown hK hP 0 rfl rfl 27 (by decide) (hts (.fieldLink RX5 143 "CaskYardModel" "narrow" "I") (by decide +kernel)) (fun _ h9 => h9) rfl dX5_make_295 ?_
                                refine g_top (y := (nI (nr))) hv27 ?_
                                refine g_imul_n hx hb dX5_make_298 ?_
                                refine g_iadd_n hx hb dX5_make_299 ?_
                                have hGk : ∀ k_, k_ ≠ 33 → F10 k_ = Gc k_ := by intro k_ hk_; rw [hF10, va_up_ne _ _ hk_, hF9, va_up_ne _ _ hk_]
                                have hG33 : F10 33 = q33 := eF10_33
                                have hFc := w_free hD hS hA
                                refine va_callv (va_runV (As := [.int (nI ((paD T ti).1)), .int (nI ((paD T ti).2)), .int (nI ((h * wd) + (m9 * nr)))]) (rest := []) ⟨hx, hb, hml, hown, hts⟩ (c_X5_cut l D cy H.size h0 ad I_48 F10 ((paD T ti).1) ((paD T ti).2) ((h * wd) + (m9 * nr)) ((paD (yP Y (paD T ti).1) (paD T ti).2).1) (by omega) (by omega) (by rw [hGk 11 (by decide)]; exact h11)) (cwV 3 hts gX5_make_X5_cut rfl rfl rfl (by decide +kernel) ⟨Nat.le_of_ble_eq_true rfl, Nat.le_of_ble_eq_true rfl⟩) ⟨wB_blind, va_recv hK hP (ci := 5) (q0 := 0) rfl rfl, wB_pre hP hK hD⟩ rfl rfl hl.1 rfl (lv_room (Nat.le_of_ble_eq_true rfl)) dX5_make_300 ⟨Nat.le_of_ble_eq_true rfl, Nat.le_of_ble_eq_true rfl⟩) hS (fun q _ h => hFc q h) hFc (fun u_300 t H locs ht hvm hw_300 hB _ _ hS => ?_)
                                obtain ⟨I_300, F_300⟩ := u_300
                                obtain ⟨hP1, hK1, hD1⟩ := hB
                                rw [ht] at hP1
                                dsimp only at hP1 hD1 hw_300
                                have hP := hP1
                                have hD := hD1.weaken (fun _ _ _ h => hFc _ h)
                                rw [(Prod.mk.inj hw_300).1] at hP hD
                                have hF300 := (Prod.mk.inj hw_300).2
                                have hwe : (wdL Z).length + h = (wdL (Z ++ [((paD T ti).1, (paD T ti).2, h, m9)])).length := by rw [wdL_s]; simp
                                have hne : (nrL Z).length + m9 = (nrL (Z ++ [((paD T ti).1, (paD T ti).2, h, m9)])).length := by rw [nrL_s]; simp
                                have hP : va_P D vwCl (wM cy h0 ad I_48 F_300) H := hP
                                have hD : va_D A (wM cy h0 ad I_48 F_300) := hD
                                have hl : lv_has ls 11 [(4, .int (nI (nl - m9))), (3, .int (nI (wl - h))), (6, .int (nI ((nrL (Z ++ [((paD T ti).1, (paD T ti).2, h, m9)])).length))), (5, .int (nI ((wdL (Z ++ [((paD T ti).1, (paD T ti).2, h, m9)])).length))), (0, .ref h0), (1, .int (nI (ix a))), (7, .int (nI (ti))), (8, .int (nI (h))), (9, .int (nI (m9))), (10, .int (nI (k)))] := by rw [← (show nI ((wdL Z).length + h) = _ from congrArg nI hwe), ← (show nI ((nrL Z).length + m9) = _ from congrArg nI hne)]; exact hl
                                refine lv_iinc (v := (nI (ti + 1))) (lv' := [(7, .int (nI (ti + 1))), (4, .int (nI (nl - m9))), (3, .int (nI (wl - h))), (6, .int (nI ((nrL (Z ++ [((paD T ti).1, (paD T ti).2, h, m9)])).length))), (5, .int (nI ((wdL (Z ++ [((paD T ti).1, (paD T ti).2, h, m9)])).length))), (0, .ref h0), (1, .int (nI (ix a))), (8, .int (nI (h))), (9, .int (nI (m9))), (10, .int (nI (k)))]) hx hb dX5_make_303 hl (k := 6) rfl (nI_add _ _) (by decide) rfl (fun ls hl => ?_)
                                refine lv_goto (tgt := 71) hx hb dX5_make_306 (by decide) ?_
                                exact ih_71 (ti + 1) (wl - h) (nl - m9) (Z ++ [((paD T ti).1, (paD T ti).2, h, m9)]) (F_300) H locs hP hD hS (by omega) (by rw [hZ, planT_s ht1 hce hm9, List.append_assoc]; rfl) (by rw [hm9]; exact hgd2) (by rw [← hwe]; omega) (by rw [← hne]; omega) (mkF_step hG hY ht1 hz hpw hfit (by omega) (by omega) (fun k_ q1 q2 q3 => by rw [hF300, va_up_ne _ _ q3]; exact hGk k_ (by omega)) (by rw [hF300, va_up_self, hGk 11 (by decide)]) (fun j hj => by rw [hF300, va_up_ne _ _ (by decide), hG33, hO2 _ (Or.inl (by omega))]; exact hAw j hj) (fun j hj => by rw [hF300, va_up_ne _ _ (by decide), hG33]; exact hBw j hj) (fun j hj => by rw [hF300, va_up_ne _ _ (by decide), hG33, hO2 j (by omega), hO j (by omega)])) (by omega) ls (lv_sub hl [5, 6, 2, 1, 4, 3, 0] rfl)
                              · skip
                                refine lv_aload_n hx hb dX5_make_218 rfl (lv_at hl 0 rfl) ?_
                                refine va_get (D := D) (ci := 5) (v := .ref ((ad 33))) (C := RX5) (T := TX5) (N := 34) hx hb hts (by decide +kernel) hown hK hP 0 rfl rfl 33 (by decide) (hts (.fieldLink RX5 80 "CaskYardModel" "cutBolt" "[I") (by decide +kernel)) (fun _ h9 => h9) rfl dX5_make_219 ?_
                                refine lv_bipush (v := (nI (40))) hx hb dX5_make_222 (by decide) ?_
                                refine lv_iload hx hb dX5_make_224 (lv_at hl 5 rfl) ?_
                                refine g_iadd_n hx hb dX5_make_226 ?_
                                refine lv_iload hx hb dX5_make_227 (lv_at hl 9 rfl) ?_
                                refine g_iadd_n hx hb dX5_make_229 ?_
                                refine lv_aload_n hx hb dX5_make_230 rfl (lv_at hl 0 rfl) ?_
                                refine va_get (D := D) (ci := 5) (v := .ref ((ad 22))) (C := RX5) (T := TX5) (N := 34) hx hb hts (by decide +kernel) hown hK hP 0 rfl rfl 22 (by decide) (hts (.fieldLink RX5 62 "CaskYardModel" "setBolt" "[I") (by decide +kernel)) (fun _ h9 => h9) rfl dX5_make_231 ?_
                                refine lv_iload hx hb dX5_make_234 (lv_at hl 6 rfl) ?_
                                refine g_iald hx hb hK hP 18 0 rfl rfl (ti) rfl (by omega) (by decide) dX5_make_236 ?_
                                refine g_top (y := ((Gc 22) (ti))) (congrFun (show F10 22 = Gc 22 by rw [hF10, va_up_ne _ _ (by decide), hF9, va_up_ne _ _ (by decide)]) (ti)) ?_
                                refine g_top (y := (nI ((paD T ti).1))) hp22 ?_
                                refine g_iast hx hb hK hP hD hS 24 0 rfl rfl ((40 + ((nrL Z).length)) + k) rfl (by omega) (by decide) dX5_make_237 (fun H locs hP hD hS => ?_)
                                rw [wMs_33] at hP hD
                                rw [eF10_33] at hP hD
                                obtain ⟨F11, hF11⟩ : ∃ G, G = va_up F10 33 (upd (q33) ((40 + ((nrL Z).length)) + k) (nI ((paD T ti).1))) := ⟨_, rfl⟩
                                rw [← hF11] at hP hD
                                have eF11_33 : F11 33 = upd (q33) ((40 + ((nrL Z).length)) + k) (nI ((paD T ti).1)) := by rw [hF11]; exact va_up_self _ _ _
                                refine lv_iinc (v := (nI (k + 1))) (lv' := [(10, .int (nI (k + 1))), (0, .ref h0), (1, .int (nI (ix a))), (3, .int (nI (wl))), (4, .int (nI (nl))), (5, .int (nI ((wdL Z).length))), (6, .int (nI ((nrL Z).length))), (7, .int (nI (ti))), (8, .int (nI (h))), (9, .int (nI (m9)))]) hx hb dX5_make_238 hl (k := 9) rfl (nI_add _ _) (by decide) rfl (fun ls hl => ?_)
                                refine lv_goto (tgt := 211) hx hb dX5_make_241 (by decide) ?_
                                have hFe : F11 = (va_up F9 33 (upd (q33) ((40 + ((nrL Z).length)) + k) (nI ((paD T ti).1)))) := fe1 eF11_33 (fun j_ a0_ => by rw [hF11, va_up_ne _ _ (by assumption), hF10, va_up_ne _ _ (by assumption)])
                                rw [hFe] at hP hD
                                exact ih_211 (k + 1) (upd (q33) ((40 + ((nrL Z).length)) + k) (nI ((paD T ti).1))) H locs hP hD hS (by omega) (row_push (f := fun _ => nI (paD T ti).1) hBw rfl) (fun j hj => by rw [upd_n (by omega)]; exact hO2 j (by omega)) (by omega) ls (lv_sub hl [1, 2, 3, 4, 5, 6, 7, 8, 9, 0] rfl)
                          have hFe : F9 = (va_up F9 33 (g33)) := fe1 eF9_33 (fun j_ a0_ => rfl)
                          rw [hFe] at hP hD
                          exact loop_211 _ (0) (g33) H locs hP hD hS (by omega) (fun j hj => absurd hj (Nat.not_lt_zero _)) (fun _ _ => rfl) (Nat.lt_succ_self _) ls (lv_sub hl [1, 2, 3, 4, 5, 6, 7, 8, 9, 0] rfl)
                        · skip
                          refine lv_aload_n hx hb dX5_make_185 rfl (lv_at hl 0 rfl) ?_
                          refine va_get (D := D) (ci := 5) (v := .ref ((ad 33))) (C := RX5) (T := TX5) (N := 34) hx hb hts (by decide +kernel) hown hK hP 0 rfl rfl 33 (by decide) (hts (.fieldLink RX5 80 "CaskYardModel" "cutBolt" "[I") (by decide +kernel)) (fun _ h9 => h9) rfl dX5_make_186 ?_
                          refine lv_iload hx hb dX5_make_189 (lv_at hl 4 rfl) ?_
                          refine lv_iload hx hb dX5_make_191 (lv_at hl 9 rfl) ?_
                          refine g_iadd_n hx hb dX5_make_193 ?_
                          refine lv_aload_n hx hb dX5_make_194 rfl (lv_at hl 0 rfl) ?_
                          refine va_get (D := D) (ci := 5) (v := .ref ((ad 22))) (C := RX5) (T := TX5) (N := 34) hx hb hts (by decide +kernel) hown hK hP 0 rfl rfl 22 (by decide) (hts (.fieldLink RX5 62 "CaskYardModel" "setBolt" "[I") (by decide +kernel)) (fun _ h9 => h9) rfl dX5_make_195 ?_
                          refine lv_iload hx hb dX5_make_198 (lv_at hl 6 rfl) ?_
                          refine g_iald hx hb hK hP 18 0 rfl rfl (ti) rfl (by omega) (by decide) dX5_make_200 ?_
                          refine g_top (y := ((Gc 22) (ti))) (congrFun (show F9 22 = Gc 22 by rw [hF9, va_up_ne _ _ (by decide)]) (ti)) ?_
                          refine g_top (y := (nI ((paD T ti).1))) hp22 ?_
                          refine g_iast hx hb hK hP hD hS 24 0 rfl rfl (((wdL Z).length) + k) rfl (by omega) (by decide) dX5_make_201 (fun H locs hP hD hS => ?_)
                          rw [wMs_33] at hP hD
                          rw [eF9_33] at hP hD
                          obtain ⟨F12, hF12⟩ : ∃ G, G = va_up F9 33 (upd (g33) (((wdL Z).length) + k) (nI ((paD T ti).1))) := ⟨_, rfl⟩
                          rw [← hF12] at hP hD
                          have eF12_33 : F12 33 = upd (g33) (((wdL Z).length) + k) (nI ((paD T ti).1)) := by rw [hF12]; exact va_up_self _ _ _
                          refine lv_iinc (v := (nI (k + 1))) (lv' := [(10, .int (nI (k + 1))), (0, .ref h0), (1, .int (nI (ix a))), (3, .int (nI (wl))), (4, .int (nI (nl))), (5, .int (nI ((wdL Z).length))), (6, .int (nI ((nrL Z).length))), (7, .int (nI (ti))), (8, .int (nI (h))), (9, .int (nI (m9)))]) hx hb dX5_make_202 hl (k := 9) rfl (nI_add _ _) (by decide) rfl (fun ls hl => ?_)
                          refine lv_goto (tgt := 178) hx hb dX5_make_205 (by decide) ?_
                          have hFe : F12 = (va_up Gc 33 (upd (g33) (((wdL Z).length) + k) (nI ((paD T ti).1)))) := fe1 eF12_33 (fun j_ a0_ => by rw [hF12, va_up_ne _ _ (by assumption), hF9, va_up_ne _ _ (by assumption)])
                          rw [hFe] at hP hD
                          exact ih_178 (k + 1) (upd (g33) (((wdL Z).length) + k) (nI ((paD T ti).1))) H locs hP hD hS (by omega) (row_push (f := fun _ => nI (paD T ti).1) hAw rfl) (fun j hj => by rw [upd_n (by omega)]; exact hO j (by omega)) (by omega) ls (lv_sub hl [1, 2, 3, 4, 5, 6, 7, 8, 9, 0] rfl)
                    have hFe : Gc = (va_up Gc 33 (Gc 33)) := fe1 rfl (fun j_ a0_ => rfl)
                    rw [hFe] at hP hD
                    exact loop_178 _ (0) (Gc 33) H locs hP hD hS (by omega) (fun j hj => absurd hj (Nat.not_lt_zero _)) (fun _ _ => rfl) (Nat.lt_succ_self _) ls (lv_sub hl [1, 2, 3, 4, 5, 6, 7, 8, 9, 0] rfl)
                  · skip
                    have hng : ¬ goodN wd nr (lenL Y (T.drop (ti + 1))) (plen Y (paD T ti)) wl nl h := fun q9 => c_140 (by rw [hm9]; exact q9)
                    have hpos : 0 < h := by
                      rcases Nat.eq_zero_or_pos h with e9 | e9
                      · subst e9; exact absurd hgd hng
                      · exact e9
                    have hm1w : (h - 1) * wd ≤ plen Y (paD T ti) := Nat.le_trans (Nat.mul_le_mul_right _ (Nat.sub_le _ _)) hhw
                    refine lv_iinc (v := (nI (h - 1))) (lv' := [(8, .int (nI (h - 1))), (0, .ref h0), (1, .int (nI (ix a))), (3, .int (nI (wl))), (4, .int (nI (nl))), (5, .int (nI ((wdL Z).length))), (6, .int (nI ((nrL Z).length))), (7, .int (nI (ti))), (9, .int (nI (m9)))]) hx hb dX5_make_143 hl (k := 7) rfl ((zI_add ((h : Nat) : Int) (-1)).trans (z_n (by omega))) (by decide) rfl (fun ls hl => ?_)
                    refine lv_iload hx hb dX5_make_146 (lv_at hl 4 rfl) ?_
                    refine lv_aload_n hx hb dX5_make_148 rfl (lv_at hl 1 rfl) ?_
                    refine lv_iload hx hb dX5_make_149 (lv_at hl 7 rfl) ?_
                    refine vp_callSi (va_Run.run (va_runV (As := [.int (nI (ti))]) (rest := [.int (nI (nl))]) ⟨hx, hb, hml, hown, hts⟩ (c_X5_length l D cy h0 ad I_48 Gc (ti) ((paD T ti).1) ((paD T ti).2) ((paD (yP Y (paD T ti).1) (paD T ti).2).1) ((paD (yP Y (paD T ti).1) (paD T ti).2).2) (by omega) (by omega) (by omega) (hp22) (hp23) (h11) (h12) (by omega)) (cwV 1 hts gX5_make_X5_length rfl rfl rfl (by decide +kernel) ⟨Nat.le_of_ble_eq_true rfl, Nat.le_of_ble_eq_true rfl⟩) ⟨rB_blind, va_recv hK hP (ci := 5) (q0 := 0) rfl rfl, (rB_pre hP hK)⟩ rfl rfl hl.1 rfl (lv_room (Nat.le_of_ble_eq_true rfl)) dX5_make_151 ⟨Nat.le_of_ble_eq_true rfl, Nat.le_of_ble_eq_true rfl⟩)) (fun r_151 hr_151 => ?_)
                    refine g_top (y := (nI (plen Y (paD T ti)))) (hr_151.trans (congrArg nI hple.symm)) ?_
                    refine lv_iload hx hb dX5_make_154 (lv_at hl 0 rfl) ?_
                    refine lv_aload_n hx hb dX5_make_156 rfl (lv_at hl 1 rfl) ?_
                    refine va_get (D := D) (ci := 5) (v := .int (I_48 26)) (C := RX5) (T := TX5) (N := 34) hx hb hts (by decide +kernel) hown hK hP 0 rfl rfl 26 (by decide) (hts (.fieldLink RX5 146 "CaskYardModel" "wide" "I") (by decide +kernel)) (fun _ h9 => h9) rfl dX5_make_157 ?_
                    refine g_top (y := (nI (wd))) hv26 ?_
                    refine g_imul_n hx hb dX5_make_160 ?_
                    refine g_isub_n hx hb dX5_make_161 hm1w ?_
                    refine lv_aload_n hx hb dX5_make_162 rfl (lv_at hl 1 rfl) ?_
                    refine va_get (D := D) (ci := 5) (v := .int (I_48 27)) (C := RX5) (T := TX5) (N := 34) hx hb hts (by decide +kernel) hown hK hP 0 rfl rfl 27 (by decide) (hts (.fieldLink RX5 143 "CaskYardModel" "narrow" "I") (by decide +kernel)) (fun _ h9 => h9) rfl dX5_make_163 ?_
                    refine g_top (y := (nI (nr))) hv27 ?_
                    refine g_idiv_n hx hb dX5_make_166 (by omega) (by omega) (by omega) ?_
                    have hdq : (plen Y (paD T ti) - (h - 1) * wd) / nr ≤ 600 := Nat.le_trans (Nat.div_le_self _ _) (by omega)
                    refine va_mmin hx hb (hml.trans hl.1.symm) hown (hts (.methodLink RX5 131 Lib.Math.min.name) (by decide +kernel)) (hts (.static Lib.Math.min.name) (by decide +kernel)) (hts (.initialized "java/lang/Math") (by decide +kernel)) (hts (.code Lib.Math.min.name Lib.Math.min.code 2 (some .int)) (by decide +kernel)) (Nat.le_of_ble_eq_true rfl) (Nat.le_of_ble_eq_true rfl) (Nat.le_of_ble_eq_true rfl) (Nat.le_of_ble_eq_true rfl) dX5_make_167 ?_
                    refine g_top (y := (nI (min (nl) (((plen Y (paD T ti)) - ((h - 1) * wd)) / nr)))) (n_min (by omega) (by omega)) ?_
                    refine lv_istore (lv' := [(9, .int (nI (min (nl) (((plen Y (paD T ti)) - ((h - 1) * wd)) / nr)))), (8, .int (nI (h - 1))), (0, .ref h0), (1, .int (nI (ix a))), (3, .int (nI (wl))), (4, .int (nI (nl))), (5, .int (nI ((wdL Z).length))), (6, .int (nI ((nrL Z).length))), (7, .int (nI (ti)))]) hx hb dX5_make_170 hl (by decide) rfl (fun ls hl => ?_)
                    refine lv_goto (tgt := 123) hx hb dX5_make_172 (by decide) ?_
                    exact ih_123 (h - 1) (min (nl) (((plen Y (paD T ti)) - ((h - 1) * wd)) / nr))  (by omega) hm1w (hch.trans (chN_miss hng hpos)) (by rw [← chN_miss hng hpos]; exact hgd) rfl (by omega) ls (lv_sub hl [2, 3, 4, 5, 6, 7, 8, 1, 0] rfl)
              exact loop_123 _ (hq0) (min (nl) (((plen Y (paD T ti)) - (hq0 * wd)) / nr))  (Nat.le_refl _) hqf rfl hgd0 rfl (Nat.lt_succ_self _) ls (lv_sub hl [2, 3, 4, 5, 6, 7, 8, 1, 0] rfl)
        exact loop_71 _ (0) (wm) (nm) ([]) (F_48) H locs hP hD hS (Nat.zero_le _) hpl hgv0 (by simp [wdL]) (by simp [nrL]) (mkF_0 hM48 hY wd nr T) (Nat.lt_succ_self _) ls (lv_sub hl [6, 7, 4, 3, 2, 1, 0] rfl)
      · skip
        refine lv_iconst (v := (zI ((-1)))) hx hb dX5_make_40 (by decide) ?_
        exact W.iret (v := (zI ((-1)))) hx hb hr (fun t ht hW => ⟨⟨_, (I_32, F_32), rfl, (by rw [sp_make, if_pos (by omega), if_pos (Or.inr (by omega))]; exact ⟨h0c, fun _ => rfl, hM2⟩), by rw [ht]; exact hP, va_K.moved hW.alike hK, hD⟩, hS.F ht⟩) hS.2.2 dX5_make_41
    · skip
      refine lv_iconst (v := (zI ((-1)))) hx hb dX5_make_28 (by decide) ?_
      exact W.iret (v := (zI ((-1)))) hx hb hr (fun t ht hW => ⟨⟨_, ((va_up I 0 (nI (0))), F), rfl, by rw [sp_make, if_pos (by omega), if_pos (Or.inl (by omega))]; exact ⟨rfl, fun _ => rfl, hM⟩, by rw [ht]; exact hP, va_K.moved hW.alike hK, hD⟩, hS.F ht⟩) hS.2.2 dX5_make_29
  · skip
    refine lv_aload_n hx hb dX5_make_13 rfl (lv_at hl 0 rfl) ?_
    refine lv_iconst (v := (nI (1))) hx hb dX5_make_14 (by decide) ?_
    have hFc := w_free hD hS hA
    refine va_calli (va_runV (As := [.int (nI (1))]) (rest := []) ⟨hx, hb, hml, hown, hts⟩ (c_X5_fail l D cy H.size h0 ad (va_up I 0 (nI (0))) F (nI 1)) (cwV 1 hts gX5_make_X5_fail rfl rfl rfl (by decide +kernel) ⟨Nat.le_of_ble_eq_true rfl, Nat.le_of_ble_eq_true rfl⟩) ⟨wB_blind, va_recv hK hP (ci := 5) (q0 := 0) rfl rfl, wB_pre hP hK hD⟩ rfl rfl hl.1 rfl (lv_room (Nat.le_of_ble_eq_true rfl)) dX5_make_15 ⟨Nat.le_of_ble_eq_true rfl, Nat.le_of_ble_eq_true rfl⟩) hS (fun q _ h => hFc q h) hFc (fun r_15 u_15 t H locs ht hvm hw_15 hB _ _ hS => ?_)
    obtain ⟨I_15, F_15⟩ := u_15
    obtain ⟨hP1, hK1, hD1⟩ := hB
    rw [ht] at hP1
    dsimp only at hP1 hD1 hw_15
    obtain ⟨hw_15, hu_15⟩ := hw_15
    rw [(Prod.mk.inj hu_15).1, (Prod.mk.inj hu_15).2] at hP1 hD1
    have hP := hP1
    have hD := hD1.weaken (fun _ _ _ h => hFc _ h)
    have hP : va_P D vwCl (wM cy h0 ad (va_up I 0 (nI (1))) F) H := hP
    have hD : va_D A (wM cy h0 ad (va_up I 0 (nI (1))) F) := hD
    refine g_top (y := (nI (0))) (hw_15) ?_
    exact W.iret (v := (nI (0))) hx hb hr (fun t ht hW => ⟨⟨_, ((va_up I 0 (nI (1))), F), rfl, by rw [sp_make, if_neg (by omega)]; exact MP_t rfl hM, by rw [ht]; exact hP, va_K.moved hW.alike hK, hD⟩, hS.F ht⟩) hS.2.2 dX5_make_18
