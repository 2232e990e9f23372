set_option maxHeartbeats 4000000 in
set_option maxRecDepth 100000 in
theorem c_X5_pieces (l : Launch) (D : va_G) (cy : Nat → ClassId) (sz : Nat) (h0 : Nat) (ad : Nat → Nat) (I : Nat → Int32) (F : Nat → Nat → Int32) (Y : YT) (hM : MR I F Y) (hY : WF Y) (i : Nat) (hif : i < yF Y) : Met l yX5_pieces wsX5_pieces ({ frames := 2, cells := 0, slots := 0, locals := 47 } : Room) (va_Pc [.ref h0, .int (nI (i))] (wB D cy sz (wM cy h0 ad I F))) (va_Qv (fun (u : (Nat → Int32) × (Nat → Nat → Int32)) => u = (va_up (va_up (va_up (va_up I 27 (nI (yg Y i / ys Y i + 2))) 26 (nI (yg Y i / ys Y i + 3))) 29 (nI (ys Y i - yg Y i % ys Y i))) 28 (nI (yg Y i % ys Y i)), F)) (fun u t => wE D cy (va_A (wM cy h0 ad I F) sz) (wM cy h0 ad u.1 u.2) t) (va_A (wM cy h0 ad I F) sz)) 0 0 (va_A (wM cy h0 ad I F) sz) := by
  refine Met.ofW (cc := cX5_pieces) (maxL := 5) (ret := none) (by decide) rfl ?_
  intro p e s m args below meth c s₁ B hml hv
  obtain ⟨rfl, hsz, hP, hK, hD0⟩ := hv
  have hx := B.exec
  have hb := B.bytes
  have hr := B.returns
  have hts := atoms_spec (ws := wsX5_pieces) B.pre
  have hown : s.vm.findClass RX5 = some m.cls := findClass_of_methodNamed B.named
  have hlocks := B.notSynchronized
  subst hsz
  have hD := hD0.self (sz := s.heap.size)
  generalize hAe : va_A (wM cy h0 ad I F) s.heap.size = A at hD ⊢
  have hA : ∀ q : Nat, s.heap.size ≤ q → A q := w_A hAe
  have hS : va_S A s.heap s.heap [] := va_S.rf
  have hl := lv_entry ([.ref h0, .int (nI (i))]) (n := 5) (Nat.le_of_ble_eq_true rfl)
  rw [lg_entry_eq]
  generalize (lg_sl ([.ref h0, .int (nI (i))]) ++ List.replicate (5 - (lg_sl ([.ref h0, .int (nI (i))])).length) Slot.unset).toArray = ls at hl ⊢
  have hl : lv_has ls 5 [(0, .ref h0), (1, .int (nI (i)))] := hl
  obtain ⟨hm1, hm2, hm3, hm4, hmF, hmB, hmC, hmR, hmW⟩ := id hM
  obtain ⟨hy0, hyF, hyB, hyC, hyf, hyb, hyc, hyr, hyw⟩ := id hY
  have hfo := hyf i hif
  have hqle := Nat.div_le_self (yg Y i) (ys Y i)
  refine lv_aload_n hx hb dX5_pieces_0 rfl (lv_at hl 0 rfl) ?_
  refine va_get (D := D) (ci := 5) (v := .ref ((ad 5))) (C := RX5) (T := TX5) (N := 34) hx hb hts (by decide +kernel) hown hK hP 0 rfl rfl 5 (by decide) (hts (.fieldLink RX5 9 "CaskYardModel" "tall" "[I") (by decide +kernel)) (fun _ h9 => h9) rfl dX5_pieces_1 ?_
  refine lv_iload_n hx hb dX5_pieces_4 rfl (lv_at hl 1 rfl) ?_
  refine g_iald hx hb hK hP 1 0 rfl rfl (i) rfl (by omega) (by decide) dX5_pieces_5 ?_
  refine g_top (y := (nI (yh Y (i)))) (hmF (i) (by omega)).1 ?_
  refine lv_iconst (v := (nI (2))) hx hb dX5_pieces_6 (by decide) ?_
  refine g_idiv_n hx hb dX5_pieces_7 (by omega) (by omega) (by omega) ?_
  refine lv_istore_n (lv' := [(2, .int (nI ((yh Y (i)) / 2))), (0, .ref h0), (1, .int (nI (i)))]) hx hb dX5_pieces_8 rfl hl (by decide) rfl (fun ls hl => ?_)
  refine lv_ldc hx hb hown (hts (.constant RX5 142 (1000000)) (by decide +kernel)) dX5_pieces_9 ?_
  refine g_top (y := (nI (1000000))) (by decide) ?_
  refine lv_istore_n (lv' := [(3, .int (nI (1000000))), (2, .int (nI ((yh Y (i)) / 2))), (0, .ref h0), (1, .int (nI (i)))]) hx hb dX5_pieces_11 rfl hl (by decide) rfl (fun ls hl => ?_)
  refine lv_iconst (v := (nI (0))) hx hb dX5_pieces_12 (by decide) ?_
  refine lv_istore (lv' := [(4, .int (nI (0))), (3, .int (nI (1000000))), (2, .int (nI ((yh Y (i)) / 2))), (0, .ref h0), (1, .int (nI (i)))]) hx hb dX5_pieces_13 hl (by decide) rfl (fun ls hl => ?_)
  have loop_15 : ∀ (n_ : Nat) (low : Nat) (k : Nat), (k ≤ ys Y i) → (low = if k = 0 then 1000000 else yg Y i / ys Y i) → ys Y i - k < n_ → ∀ (ls : Array Slot), lv_has ls 5 [(0, .ref h0), (1, .int (nI (i))), (2, .int (nI (yh Y i / 2))), (3, .int (nI (low))), (4, .int (nI (k)))] → W p l e (headSpec wsX5_pieces ({ frames := 2, cells := 0, slots := 0, locals := 47 } : Room)).room s m ([.ref h0, .int (nI (i))] : List Value).toArray below meth c s.heap [] 0 0 (MQ below (va_Qv (fun (u : (Nat → Int32) × (Nat → Nat → Int32)) => u = (va_up (va_up (va_up (va_up I 27 (nI (yg Y i / ys Y i + 2))) 26 (nI (yg Y i / ys Y i + 3))) 29 (nI (ys Y i - yg Y i % ys Y i))) 28 (nI (yg Y i % ys Y i)), F)) (fun u t => wE D cy A (wM cy h0 ad u.1 u.2) t) A) ([.ref h0, .int (nI (i))] : List Value).toArray s 0 0 A) (F0 m 15 ls []) := by
    intro n_
    induction n_ with
    | zero => intro low k hk hlo hm_; exact absurd hm_ (Nat.not_lt_zero _)
    | succ n_ ih_15 =>
      intro low k hk hlo hm_ ls hl
      have hlw : low ≤ 1000000 := by rw [hlo]; split <;> omega
      refine lv_iload hx hb dX5_pieces_15 (lv_at hl 4 rfl) ?_
      refine lv_aload_n hx hb dX5_pieces_17 rfl (lv_at hl 0 rfl) ?_
      refine va_get (D := D) (ci := 5) (v := .ref ((ad 8))) (C := RX5) (T := TX5) (N := 34) hx hb hts (by decide +kernel) hown hK hP 0 rfl rfl 8 (by decide) (hts (.fieldLink RX5 19 "CaskYardModel" "staves" "[I") (by decide +kernel)) (fun _ h9 => h9) rfl dX5_pieces_18 ?_
      refine lv_iload_n hx hb dX5_pieces_21 rfl (lv_at hl 1 rfl) ?_
      refine g_iald hx hb hK hP 4 0 rfl rfl (i) rfl (by omega) (by decide) dX5_pieces_22 ?_
      refine g_top (y := (nI (ys Y (i)))) (hmF (i) (by omega)).2.2.2 ?_
      refine g_icmp_ge (tgt := 45) hx hb dX5_pieces_23 (by decide) (n_i (by omega)) (n_i (by omega)) (fun c_23 => ?_) (fun c_23 => ?_)
      · skip
        have hlq : low = yg Y i / ys Y i := by rw [hlo, if_neg (by omega)]
        subst hlq
        refine lv_aload_n hx hb dX5_pieces_45 rfl (lv_at hl 0 rfl) ?_
        refine lv_iload_n hx hb dX5_pieces_46 rfl (lv_at hl 3 rfl) ?_
        refine lv_iconst (v := (nI (2))) hx hb dX5_pieces_47 (by decide) ?_
        refine g_iadd_n hx hb dX5_pieces_48 ?_
        refine va_put (D := D) (ci := 5) (v := .int (nI ((yg Y i / ys Y i) + 2))) (ty := .int) (C := RX5) (T := TX5) (N := 34) hx hb hts (by decide +kernel) tyX5 tyX5_ok nmX5 hown hK hP hD hS 0 rfl rfl 27 (by decide) (hts (.fieldLink RX5 143 "CaskYardModel" "narrow" "I") (by decide +kernel)) (fun _ h9 => h9) rfl (by decide +kernel) rfl rfl (Nat.le_of_ble_eq_true rfl) dX5_pieces_49 (fun H locs hP hD hS => ?_)
        have hP : va_P D vwCl (wM cy h0 ad (va_up I 27 (nI ((yg Y i / ys Y i) + 2))) F) H := hP
        have hD : va_D A (wM cy h0 ad (va_up I 27 (nI ((yg Y i / ys Y i) + 2))) F) := hD
        refine lv_aload_n hx hb dX5_pieces_52 rfl (lv_at hl 0 rfl) ?_
        refine lv_iload_n hx hb dX5_pieces_53 rfl (lv_at hl 3 rfl) ?_
        refine lv_iconst (v := (nI (3))) hx hb dX5_pieces_54 (by decide) ?_
        refine g_iadd_n hx hb dX5_pieces_55 ?_
        refine va_put (D := D) (ci := 5) (v := .int (nI ((yg Y i / ys Y i) + 3))) (ty := .int) (C := RX5) (T := TX5) (N := 34) hx hb hts (by decide +kernel) tyX5 tyX5_ok nmX5 hown hK hP hD hS 0 rfl rfl 26 (by decide) (hts (.fieldLink RX5 146 "CaskYardModel" "wide" "I") (by decide +kernel)) (fun _ h9 => h9) rfl (by decide +kernel) rfl rfl (Nat.le_of_ble_eq_true rfl) dX5_pieces_56 (fun H locs hP hD hS => ?_)
        have hP : va_P D vwCl (wM cy h0 ad (va_up (va_up I 27 (nI ((yg Y i / ys Y i) + 2))) 26 (nI ((yg Y i / ys Y i) + 3))) F) H := hP
        have hD : va_D A (wM cy h0 ad (va_up (va_up I 27 (nI ((yg Y i / ys Y i) + 2))) 26 (nI ((yg Y i / ys Y i) + 3))) F) := hD
        refine lv_aload_n hx hb dX5_pieces_59 rfl (lv_at hl 0 rfl) ?_
        refine lv_iconst (v := (nI (0))) hx hb dX5_pieces_60 (by decide) ?_
        refine va_put (D := D) (ci := 5) (v := .int (nI (0))) (ty := .int) (C := RX5) (T := TX5) (N := 34) hx hb hts (by decide +kernel) tyX5 tyX5_ok nmX5 hown hK hP hD hS 0 rfl rfl 29 (by decide) (hts (.fieldLink RX5 149 "CaskYardModel" "narrowMany" "I") (by decide +kernel)) (fun _ h9 => h9) rfl (by decide +kernel) rfl rfl (Nat.le_of_ble_eq_true rfl) dX5_pieces_61 (fun H locs hP hD hS => ?_)
        have hP : va_P D vwCl (wM cy h0 ad (va_up (va_up (va_up I 27 (nI ((yg Y i / ys Y i) + 2))) 26 (nI ((yg Y i / ys Y i) + 3))) 29 (nI (0))) F) H := hP
        have hD : va_D A (wM cy h0 ad (va_up (va_up (va_up I 27 (nI ((yg Y i / ys Y i) + 2))) 26 (nI ((yg Y i / ys Y i) + 3))) 29 (nI (0))) F) := hD
        refine lv_iconst (v := (nI (0))) hx hb dX5_pieces_64 (by decide) ?_
        refine lv_istore (lv' := [(4, .int (nI (0))), (0, .ref h0), (1, .int (nI (i))), (2, .int (nI (yh Y i / 2))), (3, .int (nI (yg Y i / ys Y i)))]) hx hb dX5_pieces_65 hl (by decide) rfl (fun ls hl => ?_)
        have loop_67 : ∀ (n_ : Nat) (m9 : Nat) (k : Nat) (H : Heap) (locs : List Loc), va_P D vwCl (wM cy h0 ad (va_up (va_up (va_up I 27 (nI ((yg Y i / ys Y i) + 2))) 26 (nI ((yg Y i / ys Y i) + 3))) 29 (nI (m9))) F) H → va_D A (wM cy h0 ad (va_up (va_up (va_up I 27 (nI ((yg Y i / ys Y i) + 2))) 26 (nI ((yg Y i / ys Y i) + 3))) 29 (nI (m9))) F) → va_S A s.heap H locs → (k ≤ ys Y i) → (m9 + yg Y i * k / (ys Y i) = k + k * (yg Y i / ys Y i)) → (m9 ≤ k) → ys Y i - k < n_ → ∀ (ls : Array Slot), lv_has ls 5 [(0, .ref h0), (1, .int (nI (i))), (2, .int (nI (yh Y i / 2))), (3, .int (nI (yg Y i / ys Y i))), (4, .int (nI (k)))] → W p l e (headSpec wsX5_pieces ({ frames := 2, cells := 0, slots := 0, locals := 47 } : Room)).room s m ([.ref h0, .int (nI (i))] : List Value).toArray below meth c H locs 0 0 (MQ below (va_Qv (fun (u : (Nat → Int32) × (Nat → Nat → Int32)) => u = (va_up (va_up (va_up (va_up I 27 (nI (yg Y i / ys Y i + 2))) 26 (nI (yg Y i / ys Y i + 3))) 29 (nI (ys Y i - yg Y i % ys Y i))) 28 (nI (yg Y i % ys Y i)), F)) (fun u t => wE D cy A (wM cy h0 ad u.1 u.2) t) A) ([.ref h0, .int (nI (i))] : List Value).toArray s 0 0 A) (F0 m 67 ls []) := by
          intro n_
          induction n_ with
          | zero => intro m9 k H locs hP hD hS hk2 hcn hm9 hm_; exact absurd hm_ (Nat.not_lt_zero _)
          | succ n_ ih_67 =>
            intro m9 k H locs hP hD hS hk2 hcn hm9 hm_ ls hl
            refine lv_iload hx hb dX5_pieces_67 (lv_at hl 4 rfl) ?_
            refine lv_aload_n hx hb dX5_pieces_69 rfl (lv_at hl 0 rfl) ?_
            refine va_get (D := D) (ci := 5) (v := .ref ((ad 8))) (C := RX5) (T := TX5) (N := 34) hx hb hts (by decide +kernel) hown hK hP 0 rfl rfl 8 (by decide) (hts (.fieldLink RX5 19 "CaskYardModel" "staves" "[I") (by decide +kernel)) (fun _ h9 => h9) rfl dX5_pieces_70 ?_
            refine lv_iload_n hx hb dX5_pieces_73 rfl (lv_at hl 1 rfl) ?_
            refine g_iald hx hb hK hP 4 0 rfl rfl (i) rfl (by omega) (by decide) dX5_pieces_74 ?_
            refine g_top (y := (nI (ys Y (i)))) (hmF (i) (by omega)).2.2.2 ?_
            refine g_icmp_ge (tgt := 110) hx hb dX5_pieces_75 (by decide) (n_i (by omega)) (n_i (by omega)) (fun c_75 => ?_) (fun c_75 => ?_)
            · skip
              have hkn : k = ys Y i := by omega
              rw [hkn] at hcn
              have hce := cnt_e (by omega) hcn
              refine lv_aload_n hx hb dX5_pieces_110 rfl (lv_at hl 0 rfl) ?_
              refine lv_aload_n hx hb dX5_pieces_111 rfl (lv_at hl 0 rfl) ?_
              refine va_get (D := D) (ci := 5) (v := .ref ((ad 8))) (C := RX5) (T := TX5) (N := 34) hx hb hts (by decide +kernel) hown hK hP 0 rfl rfl 8 (by decide) (hts (.fieldLink RX5 19 "CaskYardModel" "staves" "[I") (by decide +kernel)) (fun _ h9 => h9) rfl dX5_pieces_112 ?_
              refine lv_iload_n hx hb dX5_pieces_115 rfl (lv_at hl 1 rfl) ?_
              refine g_iald hx hb hK hP 4 0 rfl rfl (i) rfl (by omega) (by decide) dX5_pieces_116 ?_
              refine g_top (y := (nI (ys Y (i)))) (hmF (i) (by omega)).2.2.2 ?_
              refine lv_aload_n hx hb dX5_pieces_117 rfl (lv_at hl 0 rfl) ?_
              refine va_get (D := D) (ci := 5) (v := .int (nI (m9))) (C := RX5) (T := TX5) (N := 34) hx hb hts (by decide +kernel) hown hK hP 0 rfl rfl 29 (by decide) (hts (.fieldLink RX5 149 "CaskYardModel" "narrowMany" "I") (by decide +kernel)) (fun _ h9 => h9) rfl dX5_pieces_118 ?_
              refine g_isub_n hx hb dX5_pieces_121 (by omega) ?_
              refine va_put (D := D) (ci := 5) (v := .int (nI ((ys Y (i)) - m9))) (ty := .int) (C := RX5) (T := TX5) (N := 34) hx hb hts (by decide +kernel) tyX5 tyX5_ok nmX5 hown hK hP hD hS 0 rfl rfl 28 (by decide) (hts (.fieldLink RX5 152 "CaskYardModel" "wideMany" "I") (by decide +kernel)) (fun _ h9 => h9) rfl (by decide +kernel) rfl rfl (Nat.le_of_ble_eq_true rfl) dX5_pieces_122 (fun H locs hP hD hS => ?_)
              have hP : va_P D vwCl (wM cy h0 ad (va_up (va_up (va_up (va_up I 27 (nI ((yg Y i / ys Y i) + 2))) 26 (nI ((yg Y i / ys Y i) + 3))) 29 (nI (m9))) 28 (nI ((ys Y (i)) - m9))) F) H := hP
              have hD : va_D A (wM cy h0 ad (va_up (va_up (va_up (va_up I 27 (nI ((yg Y i / ys Y i) + 2))) 26 (nI ((yg Y i / ys Y i) + 3))) 29 (nI (m9))) 28 (nI ((ys Y (i)) - m9))) F) := hD
              exact W.vret hx hb hr (fun t ht hW => ⟨⟨((va_up (va_up (va_up (va_up I 27 (nI ((yg Y i / ys Y i) + 2))) 26 (nI ((yg Y i / ys Y i) + 3))) 29 (nI (m9))) 28 (nI ((ys Y (i)) - m9))), F), rfl, (by rw [hce.2, hce.1]), by rw [ht]; exact hP, va_K.moved hW.alike hK, hD⟩, hS.F ht⟩) hS.2.2 dX5_pieces_125
            · skip
              refine lv_aload_n hx hb dX5_pieces_78 rfl (lv_at hl 0 rfl) ?_
              refine lv_dup hx hb dX5_pieces_79 rfl ?_
              refine va_get (D := D) (ci := 5) (v := .int (nI (m9))) (C := RX5) (T := TX5) (N := 34) hx hb hts (by decide +kernel) hown hK hP 0 rfl rfl 29 (by decide) (hts (.fieldLink RX5 149 "CaskYardModel" "narrowMany" "I") (by decide +kernel)) (fun _ h9 => h9) rfl dX5_pieces_80 ?_
              refine lv_aload_n hx hb dX5_pieces_83 rfl (lv_at hl 0 rfl) ?_
              refine lv_iload_n hx hb dX5_pieces_84 rfl (lv_at hl 1 rfl) ?_
              refine lv_iload hx hb dX5_pieces_85 (lv_at hl 4 rfl) ?_
              refine lv_iload_n hx hb dX5_pieces_87 rfl (lv_at hl 2 rfl) ?_
              refine vp_callSi (va_Run.run (va_runV (As := [.int (nI (i)), .int (nI (k)), .int (nI (yh Y i / 2))]) (rest := [.int (nI (m9)), .ref h0]) ⟨hx, hb, hml, hown, hts⟩ (c_X5_widthOf l D cy h0 ad (va_up (va_up (va_up I 27 (nI ((yg Y i / ys Y i) + 2))) 26 (nI ((yg Y i / ys Y i) + 3))) 29 (nI (m9))) F (i) (k) (yh Y i / 2) (Nat.lt_of_lt_of_le hif hyF) (yh Y (i)) (yg Y (i)) (ye Y (i)) ((hmF (i) hif).1) ((hmF (i) hif).2.1) ((hmF (i) hif).2.2.1) (form_b (hyf (i) hif)) (by omega) (ys Y (i)) ((hmF (i) hif).2.2.2) (by omega) ((hyf (i) hif).2.2.2.2.2.2.2.2)) (cwV 3 hts gX5_pieces_X5_widthOf rfl rfl rfl (by decide +kernel) ⟨Nat.le_of_ble_eq_true rfl, Nat.le_of_ble_eq_true rfl⟩) ⟨rB_blind, va_recv hK hP (ci := 5) (q0 := 0) rfl rfl, (rB_pre hP hK)⟩ rfl rfl hl.1 rfl (lv_room (Nat.le_of_ble_eq_true rfl)) dX5_pieces_88 ⟨Nat.le_of_ble_eq_true rfl, Nat.le_of_ble_eq_true rfl⟩)) (fun r_88 hr_88 => ?_)
              refine g_top (y := (nI (widthN (ys Y i) k (yg Y i)))) (by rw [hr_88, girth_mid hfo.2.2.1]) ?_
              have hwg := width_ge (k := k) (g := yg Y i) (n := ys Y i) (by omega)
              have hwl := width_le (k := k) (g := yg Y i) (n := ys Y i) (by omega)
              refine lv_iload_n hx hb dX5_pieces_91 rfl (lv_at hl 3 rfl) ?_
              refine g_icmp_ne (tgt := 99) hx hb dX5_pieces_92 (by decide) (n_i (by omega)) (n_i (by omega)) (fun c_92 => ?_) (fun c_92 => ?_)
              · skip
                refine lv_iconst (v := (nI (0))) hx hb dX5_pieces_99 (by decide) ?_
                refine g_iadd_n hx hb dX5_pieces_100 ?_
                refine va_put (D := D) (ci := 5) (v := .int (nI (m9 + 0))) (ty := .int) (C := RX5) (T := TX5) (N := 34) hx hb hts (by decide +kernel) tyX5 tyX5_ok nmX5 hown hK hP hD hS 0 rfl rfl 29 (by decide) (hts (.fieldLink RX5 149 "CaskYardModel" "narrowMany" "I") (by decide +kernel)) (fun _ h9 => h9) rfl (by decide +kernel) rfl rfl (Nat.le_of_ble_eq_true rfl) dX5_pieces_101 (fun H locs hP hD hS => ?_)
                have hP : va_P D vwCl (wM cy h0 ad (va_up (va_up (va_up I 27 (nI ((yg Y i / ys Y i) + 2))) 26 (nI ((yg Y i / ys Y i) + 3))) 29 (nI (m9 + 0))) F) H := hP
                have hD : va_D A (wM cy h0 ad (va_up (va_up (va_up I 27 (nI ((yg Y i / ys Y i) + 2))) 26 (nI ((yg Y i / ys Y i) + 3))) 29 (nI (m9 + 0))) F) := hD
                refine lv_iinc (v := (nI (k + 1))) (lv' := [(4, .int (nI (k + 1))), (0, .ref h0), (1, .int (nI (i))), (2, .int (nI (yh Y i / 2))), (3, .int (nI (yg Y i / ys Y i)))]) hx hb dX5_pieces_104 hl (k := 4) rfl (nI_add _ _) (by decide) rfl (fun ls hl => ?_)
                refine lv_goto (tgt := 67) hx hb dX5_pieces_107 (by decide) ?_
                exact ih_67 (m9 + 0) (k + 1) H locs hP hD hS (by omega) ((cnt_s (by omega) hcn).2 (by omega)) (by omega) (by omega) ls (lv_sub hl [1, 2, 3, 4, 0] rfl)
              · skip
                refine lv_iconst (v := (nI (1))) hx hb dX5_pieces_95 (by decide) ?_
                refine lv_goto (tgt := 100) hx hb dX5_pieces_96 (by decide) ?_
                refine g_iadd_n hx hb dX5_pieces_100 ?_
                refine va_put (D := D) (ci := 5) (v := .int (nI (m9 + 1))) (ty := .int) (C := RX5) (T := TX5) (N := 34) hx hb hts (by decide +kernel) tyX5 tyX5_ok nmX5 hown hK hP hD hS 0 rfl rfl 29 (by decide) (hts (.fieldLink RX5 149 "CaskYardModel" "narrowMany" "I") (by decide +kernel)) (fun _ h9 => h9) rfl (by decide +kernel) rfl rfl (Nat.le_of_ble_eq_true rfl) dX5_pieces_101 (fun H locs hP hD hS => ?_)
                have hP : va_P D vwCl (wM cy h0 ad (va_up (va_up (va_up I 27 (nI ((yg Y i / ys Y i) + 2))) 26 (nI ((yg Y i / ys Y i) + 3))) 29 (nI (m9 + 1))) F) H := hP
                have hD : va_D A (wM cy h0 ad (va_up (va_up (va_up I 27 (nI ((yg Y i / ys Y i) + 2))) 26 (nI ((yg Y i / ys Y i) + 3))) 29 (nI (m9 + 1))) F) := hD
                refine lv_iinc (v := (nI (k + 1))) (lv' := [(4, .int (nI (k + 1))), (0, .ref h0), (1, .int (nI (i))), (2, .int (nI (yh Y i / 2))), (3, .int (nI (yg Y i / ys Y i)))]) hx hb dX5_pieces_104 hl (k := 4) rfl (nI_add _ _) (by decide) rfl (fun ls hl => ?_)
                refine lv_goto (tgt := 67) hx hb dX5_pieces_107 (by decide) ?_
                exact ih_67 (m9 + 1) (k + 1) H locs hP hD hS (by omega) ((cnt_s (by omega) hcn).1 (by omega)) (by omega) (by omega) ls (lv_sub hl [1, 2, 3, 4, 0] rfl)
        exact loop_67 _ (0) (0) H locs hP hD hS (by omega) (by simp) (by omega) (Nat.lt_succ_self _) ls (lv_sub hl [1, 2, 3, 4, 0] rfl)
      · skip
        refine lv_iload_n hx hb dX5_pieces_26 rfl (lv_at hl 3 rfl) ?_
        refine lv_aload_n hx hb dX5_pieces_27 rfl (lv_at hl 0 rfl) ?_
        refine lv_iload_n hx hb dX5_pieces_28 rfl (lv_at hl 1 rfl) ?_
        refine lv_iload hx hb dX5_pieces_29 (lv_at hl 4 rfl) ?_
        refine lv_iload_n hx hb dX5_pieces_31 rfl (lv_at hl 2 rfl) ?_
        refine vp_callSi (va_Run.run (va_runV (As := [.int (nI (i)), .int (nI (k)), .int (nI (yh Y i / 2))]) (rest := [.int (nI (low))]) ⟨hx, hb, hml, hown, hts⟩ (c_X5_widthOf l D cy h0 ad I F (i) (k) (yh Y i / 2) (Nat.lt_of_lt_of_le hif hyF) (yh Y (i)) (yg Y (i)) (ye Y (i)) ((hmF (i) hif).1) ((hmF (i) hif).2.1) ((hmF (i) hif).2.2.1) (form_b (hyf (i) hif)) (by omega) (ys Y (i)) ((hmF (i) hif).2.2.2) (by omega) ((hyf (i) hif).2.2.2.2.2.2.2.2)) (cwV 3 hts gX5_pieces_X5_widthOf rfl rfl rfl (by decide +kernel) ⟨Nat.le_of_ble_eq_true rfl, Nat.le_of_ble_eq_true rfl⟩) ⟨rB_blind, va_recv hK hP (ci := 5) (q0 := 0) rfl rfl, (rB_pre hP hK)⟩ rfl rfl hl.1 rfl (lv_room (Nat.le_of_ble_eq_true rfl)) dX5_pieces_32 ⟨Nat.le_of_ble_eq_true rfl, Nat.le_of_ble_eq_true rfl⟩)) (fun r_32 hr_32 => ?_)
        refine g_top (y := (nI (widthN (ys Y i) k (yg Y i)))) (by rw [hr_32, girth_mid hfo.2.2.1]) ?_
        have hwg := width_ge (k := k) (g := yg Y i) (n := ys Y i) (by omega)
        have hwl := width_le (k := k) (g := yg Y i) (n := ys Y i) (by omega)
        refine va_mmin hx hb (hml.trans hl.1.symm) hown (hts (.methodLink RX5 131 Lib.Math.min.name) (by decide +kernel)) (hts (.static Lib.Math.min.name) (by decide +kernel)) (hts (.initialized "java/lang/Math") (by decide +kernel)) (hts (.code Lib.Math.min.name Lib.Math.min.code 2 (some .int)) (by decide +kernel)) (Nat.le_of_ble_eq_true rfl) (Nat.le_of_ble_eq_true rfl) (Nat.le_of_ble_eq_true rfl) (Nat.le_of_ble_eq_true rfl) dX5_pieces_35 ?_
        refine g_top (y := (nI (min (low) (widthN (ys Y i) k (yg Y i))))) (n_min (by omega) (by omega)) ?_
        refine lv_istore_n (lv' := [(3, .int (nI (min (low) (widthN (ys Y i) k (yg Y i))))), (0, .ref h0), (1, .int (nI (i))), (2, .int (nI (yh Y i / 2))), (4, .int (nI (k)))]) hx hb dX5_pieces_38 rfl hl (by decide) rfl (fun ls hl => ?_)
        refine lv_iinc (v := (nI (k + 1))) (lv' := [(4, .int (nI (k + 1))), (3, .int (nI (min (low) (widthN (ys Y i) k (yg Y i))))), (0, .ref h0), (1, .int (nI (i))), (2, .int (nI (yh Y i / 2)))]) hx hb dX5_pieces_39 hl (k := 4) rfl (nI_add _ _) (by decide) rfl (fun ls hl => ?_)
        refine lv_goto (tgt := 15) hx hb dX5_pieces_42 (by decide) ?_
        exact ih_15 (min (low) (widthN (ys Y i) k (yg Y i))) (k + 1)  (by omega) (low_step hlo hwg (fun e0 => by rw [e0]; exact width_0 _ _) (by omega)) (by omega) ls (lv_sub hl [2, 3, 4, 1, 0] rfl)
  exact loop_15 _ (1000000) (0)  (by omega) rfl (Nat.lt_succ_self _) ls (lv_sub hl [3, 4, 2, 1, 0] rfl)
