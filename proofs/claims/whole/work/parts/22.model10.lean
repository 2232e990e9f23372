set_option maxHeartbeats 4000000 in
set_option maxRecDepth 100000 in
theorem c_X5_reckon (l : Launch) (D : va_G) (cy : Nat → ClassId) (sz : Nat) (h0 : Nat) (ad : Nat → Nat) (I : Nat → Int32) (F : Nat → Nat → Int32) (Y : YT) (hM : MR I F Y) (hY : WF Y) (T : List (Nat × Nat)) (hT : T.length ≤ 32) (hz : ∀ z ∈ T, z.1 < yB Y ∧ z.2 < (yP Y z.1).length) (wd nr wm : Nat) (h25 : I 25 = nI T.length) (h26 : I 26 = nI wd) (h27 : I 27 = nI nr) (h28 : I 28 = nI wm) (hTA : arrP (F 22) (F 23) 0 T) (hbd : 1 ≤ nr ∧ nr ≤ 3000 ∧ wd ≤ 3000 ∧ wm ≤ 40) : Met l yX5_reckon wsX5_reckon ({ frames := 2, cells := 0, slots := 0, locals := 43 } : Room) (va_Pc [.ref h0] (wB D cy sz (wM cy h0 ad I F))) (va_Qv (fun (u : (Nat → Int32) × (Nat → Nat → Int32)) => ∃ g24, u = (I, va_up F 24 g24) ∧ ∀ t, 0 ≤ t → t ≤ T.length → ∀ a, a ≤ wm → g24 (41 * t + a) = zI (dpN wd nr ((lenL Y T).drop (t)) (a))) (fun u t => wE D cy (va_A (wM cy h0 ad I F) sz) (wM cy h0 ad u.1 u.2) t) (va_A (wM cy h0 ad I F) sz)) 0 0 (va_A (wM cy h0 ad I F) sz) := by
  refine Met.ofW (cc := cX5_reckon) (maxL := 7) (ret := none) (by decide) rfl ?_
  intro p e s m args below meth c s₁ B hml hv
  obtain ⟨rfl, hsz, hP, hK, hD0⟩ := hv
  have hx := B.exec
  have hb := B.bytes
  have hr := B.returns
  have hts := atoms_spec (ws := wsX5_reckon) B.pre
  have hown : s.vm.findClass RX5 = some m.cls := findClass_of_methodNamed B.named
  have hlocks := B.notSynchronized
  subst hsz
  have hD := hD0.self (sz := s.heap.size)
  generalize hAe : va_A (wM cy h0 ad I F) s.heap.size = A at hD ⊢
  have hA : ∀ q : Nat, s.heap.size ≤ q → A q := w_A hAe
  have hS : va_S A s.heap s.heap [] := va_S.rf
  have hl := lv_entry ([.ref h0]) (n := 7) (Nat.le_of_ble_eq_true rfl)
  rw [lg_entry_eq]
  generalize (lg_sl ([.ref h0]) ++ List.replicate (7 - (lg_sl ([.ref h0])).length) Slot.unset).toArray = ls at hl ⊢
  have hl : lv_has ls 7 [(0, .ref h0)] := hl
  obtain ⟨hm1, hm2, hm3, hm4, hmF, hmB, hmC, hmR, hmW⟩ := id hM
  obtain ⟨hy0, hyF, hyB, hyC, hyf, hyb, hyc, hyr, hyw⟩ := id hY
  refine lv_bipush (v := (nI (41))) hx hb dX5_reckon_0 (by decide) ?_
  refine lv_istore_n (lv' := [(1, .int (nI (41))), (0, .ref h0)]) hx hb dX5_reckon_2 rfl hl (by decide) rfl (fun ls hl => ?_)
  refine lv_iconst (v := (nI (0))) hx hb dX5_reckon_3 (by decide) ?_
  refine lv_istore_n (lv' := [(2, .int (nI (0))), (1, .int (nI (41))), (0, .ref h0)]) hx hb dX5_reckon_4 rfl hl (by decide) rfl (fun ls hl => ?_)
  have loop_5 : ∀ (n_ : Nat) (a : Nat) (g24 : Nat → Int32) (H : Heap) (locs : List Loc), va_P D vwCl (wM cy h0 ad I (va_up F 24 g24)) H → va_D A (wM cy h0 ad I (va_up F 24 g24)) → va_S A s.heap H locs → (a ≤ wm + 1) → (∀ j, j < a → g24 (41 * T.length + j) = zI (dpN wd nr [] j)) → wm + 1 - a < n_ → ∀ (ls : Array Slot), lv_has ls 7 [(0, .ref h0), (1, .int (nI (41))), (2, .int (nI (a)))] → W p l e (headSpec wsX5_reckon ({ frames := 2, cells := 0, slots := 0, locals := 43 } : Room)).room s m ([.ref h0] : List Value).toArray below meth c H locs 0 0 (MQ below (va_Qv (fun (u : (Nat → Int32) × (Nat → Nat → Int32)) => ∃ g24, u = (I, va_up F 24 g24) ∧ ∀ t, 0 ≤ t → t ≤ T.length → ∀ a, a ≤ wm → g24 (41 * t + a) = zI (dpN wd nr ((lenL Y T).drop (t)) (a))) (fun u t => wE D cy A (wM cy h0 ad u.1 u.2) t) A) ([.ref h0] : List Value).toArray s 0 0 A) (F0 m 5 ls []) := by
    intro n_
    induction n_ with
    | zero => intro a g24 H locs hP hD hS ha hI7 hm_; exact absurd hm_ (Nat.not_lt_zero _)
    | succ n_ ih_5 =>
      intro a g24 H locs hP hD hS ha hI7 hm_ ls hl
      obtain ⟨F1, hF1⟩ : ∃ G, G = va_up F 24 g24 := ⟨_, rfl⟩
      rw [← hF1] at hP hD
      have eF1_24 : F1 24 = g24 := by rw [hF1]; exact va_up_self _ _ _
      refine lv_iload_n hx hb dX5_reckon_5 rfl (lv_at hl 2 rfl) ?_
      refine lv_aload_n hx hb dX5_reckon_6 rfl (lv_at hl 0 rfl) ?_
      refine va_get (D := D) (ci := 5) (v := .int (I 28)) (C := RX5) (T := TX5) (N := 34) hx hb hts (by decide +kernel) hown hK hP 0 rfl rfl 28 (by decide) (hts (.fieldLink RX5 152 "CaskYardModel" "wideMany" "I") (by decide +kernel)) (fun _ h9 => h9) rfl dX5_reckon_7 ?_
      refine g_top (y := (nI (wm))) h28 ?_
      refine g_icmp_gt (tgt := 41) hx hb dX5_reckon_10 (by decide) (n_i (by omega)) (n_i (by omega)) (fun c_10 => ?_) (fun c_10 => ?_)
      · skip
        refine lv_aload_n hx hb dX5_reckon_41 rfl (lv_at hl 0 rfl) ?_
        refine va_get (D := D) (ci := 5) (v := .int (I 25)) (C := RX5) (T := TX5) (N := 34) hx hb hts (by decide +kernel) hown hK hP 0 rfl rfl 25 (by decide) (hts (.fieldLink RX5 155 "CaskYardModel" "setMany" "I") (by decide +kernel)) (fun _ h9 => h9) rfl dX5_reckon_42 ?_
        refine g_top (y := (nI (T.length))) h25 ?_
        refine lv_iconst (v := (nI (1))) hx hb dX5_reckon_45 (by decide) ?_
        refine g_isub_z (i := ((T.length : Nat) : Int)) (j := ((1 : Nat) : Int)) hx hb dX5_reckon_46 (zI_nI (T.length)) (zI_nI (1)) ?_
        refine lv_istore_n (lv' := [(2, .int (zI ((((T.length : Nat) : Int)) - (((1 : Nat) : Int))))), (0, .ref h0), (1, .int (nI (41)))]) hx hb dX5_reckon_47 rfl hl (by decide) rfl (fun ls hl => ?_)
        have loop_48 : ∀ (n_ : Nat) (j : Nat) (k24 : Nat → Int32) (H : Heap) (locs : List Loc), va_P D vwCl (wM cy h0 ad I (va_up F1 24 k24)) H → va_D A (wM cy h0 ad I (va_up F1 24 k24)) → va_S A s.heap H locs → (j ≤ T.length) → (∀ t, j ≤ t → t ≤ T.length → ∀ a, a ≤ wm → k24 (41 * t + a) = zI (dpN wd nr ((lenL Y T).drop (t)) (a))) → j < n_ → ∀ (ls : Array Slot), lv_has ls 7 [(0, .ref h0), (1, .int (nI (41))), (2, .int (zI ((j : Int) - 1)))] → W p l e (headSpec wsX5_reckon ({ frames := 2, cells := 0, slots := 0, locals := 43 } : Room)).room s m ([.ref h0] : List Value).toArray below meth c H locs 0 0 (MQ below (va_Qv (fun (u : (Nat → Int32) × (Nat → Nat → Int32)) => ∃ g24, u = (I, va_up F 24 g24) ∧ ∀ t, 0 ≤ t → t ≤ T.length → ∀ a, a ≤ wm → g24 (41 * t + a) = zI (dpN wd nr ((lenL Y T).drop (t)) (a))) (fun u t => wE D cy A (wM cy h0 ad u.1 u.2) t) A) ([.ref h0] : List Value).toArray s 0 0 A) (F0 m 48 ls []) := by
          intro n_
          induction n_ with
          | zero => intro j k24 H locs hP hD hS hj hD9 hm_; exact absurd hm_ (Nat.not_lt_zero _)
          | succ n_ ih_48 =>
            intro j k24 H locs hP hD hS hj hD9 hm_ ls hl
            obtain ⟨F2, hF2⟩ : ∃ G, G = va_up F1 24 k24 := ⟨_, rfl⟩
            rw [← hF2] at hP hD
            have eF2_24 : F2 24 = k24 := by rw [hF2]; exact va_up_self _ _ _
            refine lv_iload_n hx hb dX5_reckon_48 rfl (lv_at hl 2 rfl) ?_
            refine g_if_lt (tgt := 169) hx hb dX5_reckon_49 (by decide) (zI_toInt (by omega) (by omega)) (fun c_49 => ?_) (fun c_49 => ?_)
            · skip
              obtain rfl : j = 0 := by omega
              exact W.vret hx hb hr (fun t ht hW => ⟨⟨(I, F2), rfl, ⟨k24, by rw [hF2, hF1, bx_uu], hD9⟩, by rw [ht]; exact hP, va_K.moved hW.alike hK, hD⟩, hS.F ht⟩) hS.2.2 dX5_reckon_169
            · skip
              obtain ⟨i, rfl⟩ : ∃ i, j = i + 1 := ⟨j - 1, by omega⟩
              have hz9 := hz _ (paD_mem (L := T) (i := i) (by omega))
              have hz1 := hz9.1
              have hz2 := hz9.2
              have hp4 := (hyb _ hz1).2.1
              have hpq := (hyb _ hz1).2.2 _ (paD_mem hz2)
              have hp22 : F 22 i = nI (paD T i).1 := by have := (arrP_at hTA (i := i) (by omega)).1; rwa [Nat.zero_add] at this
              have hp23 : F 23 i = nI (paD T i).2 := by have := (arrP_at hTA (i := i) (by omega)).2; rwa [Nat.zero_add] at this
              have hple : plen Y (paD T i) = (paD (yP Y (paD T i).1) (paD T i).2).2 - (paD (yP Y (paD T i).1) (paD T i).2).1 := rfl
              have hl : lv_has ls 7 [(0, .ref h0), (1, .int (nI (41))), (2, .int (nI (i)))] := by rw [← (show zI (((i + 1 : Nat) : Int) - 1) = nI i from z_n (by omega))]; exact hl
              refine lv_iconst (v := (nI (0))) hx hb dX5_reckon_52 (by decide) ?_
              refine lv_istore_n (lv' := [(3, .int (nI (0))), (0, .ref h0), (1, .int (nI (41))), (2, .int (nI (i)))]) hx hb dX5_reckon_53 rfl hl (by decide) rfl (fun ls hl => ?_)
              have loop_54 : ∀ (n_ : Nat) (a : Nat) (m24 : Nat → Int32) (H : Heap) (locs : List Loc), va_P D vwCl (wM cy h0 ad I (va_up F2 24 m24)) H → va_D A (wM cy h0 ad I (va_up F2 24 m24)) → va_S A s.heap H locs → (a ≤ wm + 1) → (∀ t, i + 1 ≤ t → t ≤ T.length → ∀ a, a ≤ wm → m24 (41 * t + a) = zI (dpN wd nr ((lenL Y T).drop (t)) (a))) → (∀ j, j < a → m24 (41 * i + j) = zI (dpN wd nr ((lenL Y T).drop (i)) (j))) → wm + 1 - a < n_ → ∀ (ls : Array Slot), lv_has ls 7 [(0, .ref h0), (1, .int (nI (41))), (2, .int (nI (i))), (3, .int (nI (a)))] → W p l e (headSpec wsX5_reckon ({ frames := 2, cells := 0, slots := 0, locals := 43 } : Room)).room s m ([.ref h0] : List Value).toArray below meth c H locs 0 0 (MQ below (va_Qv (fun (u : (Nat → Int32) × (Nat → Nat → Int32)) => ∃ g24, u = (I, va_up F 24 g24) ∧ ∀ t, 0 ≤ t → t ≤ T.length → ∀ a, a ≤ wm → g24 (41 * t + a) = zI (dpN wd nr ((lenL Y T).drop (t)) (a))) (fun u t => wE D cy A (wM cy h0 ad u.1 u.2) t) A) ([.ref h0] : List Value).toArray s 0 0 A) (F0 m 54 ls []) := by
                intro n_
                induction n_ with
                | zero => intro a m24 H locs hP hD hS ha2 hD8 hR8 hm_; exact absurd hm_ (Nat.not_lt_zero _)
                | succ n_ ih_54 =>
                  intro a m24 H locs hP hD hS ha2 hD8 hR8 hm_ ls hl
                  obtain ⟨F3, hF3⟩ : ∃ G, G = va_up F2 24 m24 := ⟨_, rfl⟩
                  rw [← hF3] at hP hD
                  have eF3_24 : F3 24 = m24 := by rw [hF3]; exact va_up_self _ _ _
                  refine lv_iload_n hx hb dX5_reckon_54 rfl (lv_at hl 3 rfl) ?_
                  refine lv_aload_n hx hb dX5_reckon_55 rfl (lv_at hl 0 rfl) ?_
                  refine va_get (D := D) (ci := 5) (v := .int (I 28)) (C := RX5) (T := TX5) (N := 34) hx hb hts (by decide +kernel) hown hK hP 0 rfl rfl 28 (by decide) (hts (.fieldLink RX5 152 "CaskYardModel" "wideMany" "I") (by decide +kernel)) (fun _ h9 => h9) rfl dX5_reckon_56 ?_
                  refine g_top (y := (nI (wm))) h28 ?_
                  refine g_icmp_gt (tgt := 163) hx hb dX5_reckon_59 (by decide) (n_i (by omega)) (n_i (by omega)) (fun c_59 => ?_) (fun c_59 => ?_)
                  · skip
                    refine lv_iinc (v := (zI (((i : Nat) : Int) + (-1)))) (lv' := [(2, .int (zI (((i : Nat) : Int) + (-1)))), (0, .ref h0), (1, .int (nI (41))), (3, .int (nI (a)))]) hx hb dX5_reckon_163 hl (k := 2) rfl (by rw [show (nI (i)) = zI (((i : Nat) : Int)) from (zI_nI (i))]; exact zI_add _ _) (by decide) rfl (fun ls hl => ?_)
                    refine lv_goto (tgt := 48) hx hb dX5_reckon_166 (by decide) ?_
                    have hFe : F3 = (va_up F1 24 (m24)) := fe1 eF3_24 (fun j_ a0_ => by rw [hF3, va_up_ne _ _ (by assumption), hF2, va_up_ne _ _ (by assumption)])
                    rw [hFe] at hP hD
                    exact ih_48 (i) (m24) H locs hP hD hS (by omega) (fun t h1 h2 x h3 => by rcases Nat.eq_or_lt_of_le h1 with e9 | e9 <;> first | (subst e9; exact hR8 x (by omega)) | exact hD8 t e9 h2 x h3) (by omega) ls (lv_sub hl [1, 2, 0] rfl)
                  · skip
                    refine lv_iconst (v := (zI ((-1)))) hx hb dX5_reckon_62 (by decide) ?_
                    refine lv_istore (lv' := [(4, .int (zI ((-1)))), (0, .ref h0), (1, .int (nI (41))), (2, .int (nI (i))), (3, .int (nI (a)))]) hx hb dX5_reckon_63 hl (by decide) rfl (fun ls hl => ?_)
                    refine lv_iconst (v := (nI (0))) hx hb dX5_reckon_65 (by decide) ?_
                    refine lv_istore (lv' := [(5, .int (nI (0))), (4, .int (zI ((-1)))), (0, .ref h0), (1, .int (nI (41))), (2, .int (nI (i))), (3, .int (nI (a)))]) hx hb dX5_reckon_66 hl (by decide) rfl (fun ls hl => ?_)
                    have loop_68 : ∀ (n_ : Nat) (h : Nat) (bz : Int), (h ≤ a + 1) → (bz = bestN (dpN wd nr ((lenL Y T).drop (i + 1))) (plen Y (paD T i)) wd nr a (h)) → a + 1 - h < n_ → ∀ (ls : Array Slot), lv_has ls 7 [(0, .ref h0), (1, .int (nI (41))), (2, .int (nI (i))), (3, .int (nI (a))), (4, .int (zI (bz))), (5, .int (nI (h)))] → W p l e (headSpec wsX5_reckon ({ frames := 2, cells := 0, slots := 0, locals := 43 } : Room)).room s m ([.ref h0] : List Value).toArray below meth c H locs 0 0 (MQ below (va_Qv (fun (u : (Nat → Int32) × (Nat → Nat → Int32)) => ∃ g24, u = (I, va_up F 24 g24) ∧ ∀ t, 0 ≤ t → t ≤ T.length → ∀ a, a ≤ wm → g24 (41 * t + a) = zI (dpN wd nr ((lenL Y T).drop (t)) (a))) (fun u t => wE D cy A (wM cy h0 ad u.1 u.2) t) A) ([.ref h0] : List Value).toArray s 0 0 A) (F0 m 68 ls []) := by
                      intro n_
                      induction n_ with
                      | zero => intro h bz hh hbz hm_; exact absurd hm_ (Nat.not_lt_zero _)
                      | succ n_ ih_68 =>
                        intro h bz hh hbz hm_ ls hl
                        have hbb := bestN_bd (f := dpN wd nr ((lenL Y T).drop (i + 1))) (L := plen Y (paD T i)) (wd := wd) (nr := nr) (a := a) (B := 19200) (fun x => dpD_bd hY hT hz wd nr (i + 1) x) (by omega) (by omega) h
                        refine lv_iload hx hb dX5_reckon_68 (lv_at hl 5 rfl) ?_
                        refine lv_iload_n hx hb dX5_reckon_70 rfl (lv_at hl 3 rfl) ?_
                        refine g_icmp_gt (tgt := 145) hx hb dX5_reckon_71 (by decide) (n_i (by omega)) (n_i (by omega)) (fun c_71 => ?_) (fun c_71 => ?_)
                        · skip
                          have hbe : bestN (dpN wd nr ((lenL Y T).drop (i + 1))) (plen Y (paD T i)) wd nr a (a + 1) = bz := by rw [hbz, show a + 1 = h by omega]
                          refine lv_aload_n hx hb dX5_reckon_145 rfl (lv_at hl 0 rfl) ?_
                          refine va_get (D := D) (ci := 5) (v := .ref ((ad 24))) (C := RX5) (T := TX5) (N := 34) hx hb hts (by decide +kernel) hown hK hP 0 rfl rfl 24 (by decide) (hts (.fieldLink RX5 68 "CaskYardModel" "most" "[I") (by decide +kernel)) (fun _ h9 => h9) rfl dX5_reckon_146 ?_
                          refine lv_iload_n hx hb dX5_reckon_149 rfl (lv_at hl 1 rfl) ?_
                          refine lv_iload_n hx hb dX5_reckon_150 rfl (lv_at hl 2 rfl) ?_
                          refine g_imul_n hx hb dX5_reckon_151 ?_
                          refine lv_iload_n hx hb dX5_reckon_152 rfl (lv_at hl 3 rfl) ?_
                          refine g_iadd_n hx hb dX5_reckon_153 ?_
                          refine lv_iload hx hb dX5_reckon_154 (lv_at hl 4 rfl) ?_
                          refine g_iast hx hb hK hP hD hS 20 0 rfl rfl ((41 * i) + a) rfl (by omega) (by decide) dX5_reckon_156 (fun H locs hP hD hS => ?_)
                          rw [wMs_24] at hP hD
                          rw [eF3_24] at hP hD
                          obtain ⟨F4, hF4⟩ : ∃ G, G = va_up F3 24 (upd (m24) ((41 * i) + a) (zI (bz))) := ⟨_, rfl⟩
                          rw [← hF4] at hP hD
                          have eF4_24 : F4 24 = upd (m24) ((41 * i) + a) (zI (bz)) := by rw [hF4]; exact va_up_self _ _ _
                          refine lv_iinc (v := (nI (a + 1))) (lv' := [(3, .int (nI (a + 1))), (0, .ref h0), (1, .int (nI (41))), (2, .int (nI (i))), (4, .int (zI (bz))), (5, .int (nI (h)))]) hx hb dX5_reckon_157 hl (k := 3) rfl (nI_add _ _) (by decide) rfl (fun ls hl => ?_)
                          refine lv_goto (tgt := 54) hx hb dX5_reckon_160 (by decide) ?_
                          have hFe : F4 = (va_up F2 24 (upd (m24) ((41 * i) + a) (zI (bz)))) := fe1 eF4_24 (fun j_ a0_ => by rw [hF4, va_up_ne _ _ (by assumption), hF3, va_up_ne _ _ (by assumption)])
                          rw [hFe] at hP hD
                          exact ih_54 (a + 1) (upd (m24) ((41 * i) + a) (zI (bz))) H locs hP hD hS (by omega) (fun t h1 h2 x h3 => by rw [upd_n (by omega)]; exact hD8 t h1 h2 x h3) (row_push hR8 (by rw [lenL_drop Y (by omega), dpN, hbe])) (by omega) ls (lv_sub hl [1, 2, 3, 0] rfl)
                        · skip
                          have hmu : h * wd ≤ 41 * 3000 := Nat.mul_le_mul (by omega) (by omega)
                          have hdb := dpD_bd hY hT hz wd nr (i + 1) (a - h)
                          refine lv_iload hx hb dX5_reckon_74 (lv_at hl 5 rfl) ?_
                          refine lv_aload_n hx hb dX5_reckon_76 rfl (lv_at hl 0 rfl) ?_
                          refine va_get (D := D) (ci := 5) (v := .int (I 26)) (C := RX5) (T := TX5) (N := 34) hx hb hts (by decide +kernel) hown hK hP 0 rfl rfl 26 (by decide) (hts (.fieldLink RX5 146 "CaskYardModel" "wide" "I") (by decide +kernel)) (fun _ h9 => h9) rfl dX5_reckon_77 ?_
                          refine g_top (y := (nI (wd))) h26 ?_
                          refine g_imul_n hx hb dX5_reckon_80 ?_
                          refine lv_aload_n hx hb dX5_reckon_81 rfl (lv_at hl 0 rfl) ?_
                          refine lv_iload_n hx hb dX5_reckon_82 rfl (lv_at hl 2 rfl) ?_
                          refine vp_callSi (va_Run.run (va_runV (As := [.int (nI (i))]) (rest := [.int (nI (h * wd))]) ⟨hx, hb, hml, hown, hts⟩ (c_X5_length l D cy h0 ad I F3 (i) ((paD T i).1) ((paD T i).2) ((paD (yP Y (paD T i).1) (paD T i).2).1) ((paD (yP Y (paD T i).1) (paD T i).2).2) (by omega) (by omega) (by omega) (by rw [(show F3 22 = F 22 by rw [hF3, va_up_ne _ _ (by decide), hF2, va_up_ne _ _ (by decide), hF1, va_up_ne _ _ (by decide)])]; exact hp22) (by rw [(show F3 23 = F 23 by rw [hF3, va_up_ne _ _ (by decide), hF2, va_up_ne _ _ (by decide), hF1, va_up_ne _ _ (by decide)])]; exact hp23) (by rw [(show F3 11 = F 11 by rw [hF3, va_up_ne _ _ (by decide), hF2, va_up_ne _ _ (by decide), hF1, va_up_ne _ _ (by decide)])]; exact (arrP_at (hmB _ hz1).2.2 hz2).1) (by rw [(show F3 12 = F 12 by rw [hF3, va_up_ne _ _ (by decide), hF2, va_up_ne _ _ (by decide), hF1, va_up_ne _ _ (by decide)])]; exact (arrP_at (hmB _ hz1).2.2 hz2).2) (by omega)) (cwV 1 hts gX5_reckon_X5_length rfl rfl rfl (by decide +kernel) ⟨Nat.le_of_ble_eq_true rfl, Nat.le_of_ble_eq_true rfl⟩) ⟨rB_blind, va_recv hK hP (ci := 5) (q0 := 0) rfl rfl, (rB_pre hP hK)⟩ rfl rfl hl.1 rfl (lv_room (Nat.le_of_ble_eq_true rfl)) dX5_reckon_83 ⟨Nat.le_of_ble_eq_true rfl, Nat.le_of_ble_eq_true rfl⟩)) (fun r_83 hr_83 => ?_)
                          refine g_top (y := (nI (plen Y (paD T i)))) (hr_83.trans (congrArg nI hple.symm)) ?_
                          refine g_icmp_gt (tgt := 145) hx hb dX5_reckon_86 (by decide) (n_i (by omega)) (n_i (by omega)) (fun c_86 => ?_) (fun c_86 => ?_)
                          · skip
                            have hbe : bestN (dpN wd nr ((lenL Y T).drop (i + 1))) (plen Y (paD T i)) wd nr a (a + 1) = bz := by rw [hbz, show a + 1 = h + (a + 1 - h) by omega]; exact bestN_e (by omega) _
                            refine lv_aload_n hx hb dX5_reckon_145 rfl (lv_at hl 0 rfl) ?_
                            refine va_get (D := D) (ci := 5) (v := .ref ((ad 24))) (C := RX5) (T := TX5) (N := 34) hx hb hts (by decide +kernel) hown hK hP 0 rfl rfl 24 (by decide) (hts (.fieldLink RX5 68 "CaskYardModel" "most" "[I") (by decide +kernel)) (fun _ h9 => h9) rfl dX5_reckon_146 ?_
                            refine lv_iload_n hx hb dX5_reckon_149 rfl (lv_at hl 1 rfl) ?_
                            refine lv_iload_n hx hb dX5_reckon_150 rfl (lv_at hl 2 rfl) ?_
                            refine g_imul_n hx hb dX5_reckon_151 ?_
                            refine lv_iload_n hx hb dX5_reckon_152 rfl (lv_at hl 3 rfl) ?_
                            refine g_iadd_n hx hb dX5_reckon_153 ?_
                            refine lv_iload hx hb dX5_reckon_154 (lv_at hl 4 rfl) ?_
                            refine g_iast hx hb hK hP hD hS 20 0 rfl rfl ((41 * i) + a) rfl (by omega) (by decide) dX5_reckon_156 (fun H locs hP hD hS => ?_)
                            rw [wMs_24] at hP hD
                            rw [eF3_24] at hP hD
                            obtain ⟨F5, hF5⟩ : ∃ G, G = va_up F3 24 (upd (m24) ((41 * i) + a) (zI (bz))) := ⟨_, rfl⟩
                            rw [← hF5] at hP hD
                            have eF5_24 : F5 24 = upd (m24) ((41 * i) + a) (zI (bz)) := by rw [hF5]; exact va_up_self _ _ _
                            refine lv_iinc (v := (nI (a + 1))) (lv' := [(3, .int (nI (a + 1))), (0, .ref h0), (1, .int (nI (41))), (2, .int (nI (i))), (4, .int (zI (bz))), (5, .int (nI (h)))]) hx hb dX5_reckon_157 hl (k := 3) rfl (nI_add _ _) (by decide) rfl (fun ls hl => ?_)
                            refine lv_goto (tgt := 54) hx hb dX5_reckon_160 (by decide) ?_
                            have hFe : F5 = (va_up F2 24 (upd (m24) ((41 * i) + a) (zI (bz)))) := fe1 eF5_24 (fun j_ a0_ => by rw [hF5, va_up_ne _ _ (by assumption), hF3, va_up_ne _ _ (by assumption)])
                            rw [hFe] at hP hD
                            exact ih_54 (a + 1) (upd (m24) ((41 * i) + a) (zI (bz))) H locs hP hD hS (by omega) (fun t h1 h2 x h3 => by rw [upd_n (by omega)]; exact hD8 t h1 h2 x h3) (row_push hR8 (by rw [lenL_drop Y (by omega), dpN, hbe])) (by omega) ls (lv_sub hl [1, 2, 3, 0] rfl)
                          · skip
                            refine lv_aload_n hx hb dX5_reckon_89 rfl (lv_at hl 0 rfl) ?_
                            refine va_get (D := D) (ci := 5) (v := .ref ((ad 24))) (C := RX5) (T := TX5) (N := 34) hx hb hts (by decide +kernel) hown hK hP 0 rfl rfl 24 (by decide) (hts (.fieldLink RX5 68 "CaskYardModel" "most" "[I") (by decide +kernel)) (fun _ h9 => h9) rfl dX5_reckon_90 ?_
                            refine lv_iload_n hx hb dX5_reckon_93 rfl (lv_at hl 1 rfl) ?_
                            refine lv_iload_n hx hb dX5_reckon_94 rfl (lv_at hl 2 rfl) ?_
                            refine lv_iconst (v := (nI (1))) hx hb dX5_reckon_95 (by decide) ?_
                            refine g_iadd_n hx hb dX5_reckon_96 ?_
                            refine g_imul_n hx hb dX5_reckon_97 ?_
                            refine lv_iload_n hx hb dX5_reckon_98 rfl (lv_at hl 3 rfl) ?_
                            refine g_iadd_n hx hb dX5_reckon_99 ?_
                            refine lv_iload hx hb dX5_reckon_100 (lv_at hl 5 rfl) ?_
                            refine g_isub_n hx hb dX5_reckon_102 (by omega) ?_
                            refine g_iald hx hb hK hP 20 0 rfl rfl (41 * (i + 1) + (a - h)) (congrArg nI (by omega)) (by omega) (by decide) dX5_reckon_103 ?_
                            refine g_top (y := ((m24) (41 * (i + 1) + (a - h)))) (congrFun eF3_24 (41 * (i + 1) + (a - h))) ?_
                            refine g_top (y := (zI (dpN wd nr ((lenL Y T).drop (i + 1)) (a - h)))) (hD8 (i + 1) (by omega) (by omega) (a - h) (by omega)) ?_
                            refine lv_istore (lv' := [(6, .int (zI (dpN wd nr ((lenL Y T).drop (i + 1)) (a - h)))), (0, .ref h0), (1, .int (nI (41))), (2, .int (nI (i))), (3, .int (nI (a))), (4, .int (zI (bz))), (5, .int (nI (h)))]) hx hb dX5_reckon_104 hl (by decide) rfl (fun ls hl => ?_)
                            refine lv_iload hx hb dX5_reckon_106 (lv_at hl 0 rfl) ?_
                            refine g_if_lt (tgt := 139) hx hb dX5_reckon_108 (by decide) (zI_toInt (by omega) (by omega)) (fun c_108 => ?_) (fun c_108 => ?_)
                            · skip
                              refine lv_iinc (v := (nI (h + 1))) (lv' := [(5, .int (nI (h + 1))), (6, .int (zI (dpN wd nr ((lenL Y T).drop (i + 1)) (a - h)))), (0, .ref h0), (1, .int (nI (41))), (2, .int (nI (i))), (3, .int (nI (a))), (4, .int (zI (bz)))]) hx hb dX5_reckon_139 hl (k := 6) rfl (nI_add _ _) (by decide) rfl (fun ls hl => ?_)
                              refine lv_goto (tgt := 68) hx hb dX5_reckon_142 (by decide) ?_
                              exact ih_68 (h + 1) (bz)  (by omega) (by rw [bestN_k (fun q9 => by omega)]; exact hbz) (by omega) ls (lv_sub hl [2, 3, 4, 5, 6, 0] rfl)
                            · skip
                              refine lv_iload hx hb dX5_reckon_111 (lv_at hl 5 rfl) ?_
                              refine lv_iload hx hb dX5_reckon_113 (lv_at hl 0 rfl) ?_
                              refine lv_aload_n hx hb dX5_reckon_115 rfl (lv_at hl 1 rfl) ?_
                              refine lv_iload_n hx hb dX5_reckon_116 rfl (lv_at hl 3 rfl) ?_
                              refine vp_callSi (va_Run.run (va_runV (As := [.int (nI (i))]) (rest := [.int (zI (dpN wd nr ((lenL Y T).drop (i + 1)) (a - h))), .int (zI (bz))]) ⟨hx, hb, hml, hown, hts⟩ (c_X5_length l D cy h0 ad I F3 (i) ((paD T i).1) ((paD T i).2) ((paD (yP Y (paD T i).1) (paD T i).2).1) ((paD (yP Y (paD T i).1) (paD T i).2).2) (by omega) (by omega) (by omega) (by rw [(show F3 22 = F 22 by rw [hF3, va_up_ne _ _ (by decide), hF2, va_up_ne _ _ (by decide), hF1, va_up_ne _ _ (by decide)])]; exact hp22) (by rw [(show F3 23 = F 23 by rw [hF3, va_up_ne _ _ (by decide), hF2, va_up_ne _ _ (by decide), hF1, va_up_ne _ _ (by decide)])]; exact hp23) (by rw [(show F3 11 = F 11 by rw [hF3, va_up_ne _ _ (by decide), hF2, va_up_ne _ _ (by decide), hF1, va_up_ne _ _ (by decide)])]; exact (arrP_at (hmB _ hz1).2.2 hz2).1) (by rw [(show F3 12 = F 12 by rw [hF3, va_up_ne _ _ (by decide), hF2, va_up_ne _ _ (by decide), hF1, va_up_ne _ _ (by decide)])]; exact (arrP_at (hmB _ hz1).2.2 hz2).2) (by omega)) (cwV 1 hts gX5_reckon_X5_length rfl rfl rfl (by decide +kernel) ⟨Nat.le_of_ble_eq_true rfl, Nat.le_of_ble_eq_true rfl⟩) ⟨rB_blind, va_recv hK hP (ci := 5) (q0 := 0) rfl rfl, (rB_pre hP hK)⟩ rfl rfl hl.1 rfl (lv_room (Nat.le_of_ble_eq_true rfl)) dX5_reckon_117 ⟨Nat.le_of_ble_eq_true rfl, Nat.le_of_ble_eq_true rfl⟩)) (fun r_117 hr_117 => ?_)
                              refine g_top (y := (nI (plen Y (paD T i)))) (hr_117.trans (congrArg nI hple.symm)) ?_
                              refine lv_iload hx hb dX5_reckon_120 (lv_at hl 6 rfl) ?_
                              refine lv_aload_n hx hb dX5_reckon_122 rfl (lv_at hl 1 rfl) ?_
                              refine va_get (D := D) (ci := 5) (v := .int (I 26)) (C := RX5) (T := TX5) (N := 34) hx hb hts (by decide +kernel) hown hK hP 0 rfl rfl 26 (by decide) (hts (.fieldLink RX5 146 "CaskYardModel" "wide" "I") (by decide +kernel)) (fun _ h9 => h9) rfl dX5_reckon_123 ?_
                              refine g_top (y := (nI (wd))) h26 ?_
                              refine g_imul_n hx hb dX5_reckon_126 ?_
                              refine g_isub_n hx hb dX5_reckon_127 (by omega) ?_
                              refine lv_aload_n hx hb dX5_reckon_128 rfl (lv_at hl 1 rfl) ?_
                              refine va_get (D := D) (ci := 5) (v := .int (I 27)) (C := RX5) (T := TX5) (N := 34) hx hb hts (by decide +kernel) hown hK hP 0 rfl rfl 27 (by decide) (hts (.fieldLink RX5 143 "CaskYardModel" "narrow" "I") (by decide +kernel)) (fun _ h9 => h9) rfl dX5_reckon_129 ?_
                              refine g_top (y := (nI (nr))) h27 ?_
                              refine g_idiv_n hx hb dX5_reckon_132 (by omega) (by omega) (by omega) ?_
                              have hdq : (plen Y (paD T i) - h * wd) / nr ≤ 600 := Nat.le_trans (Nat.div_le_self _ _) (by omega)
                              have hdq0 := Nat.zero_le ((plen Y (paD T i) - h * wd) / nr)
                              refine g_iadd_z (i := dpN wd nr ((lenL Y T).drop (i + 1)) (a - h)) (j := ((((plen Y (paD T i)) - (h * wd)) / nr : Nat) : Int)) hx hb dX5_reckon_133 rfl (zI_nI (((plen Y (paD T i)) - (h * wd)) / nr)) ?_
                              refine g_top (y := (zI (dpN wd nr ((lenL Y T).drop (i + 1)) (a - h) + ((plen Y (paD T i) - h * wd) / nr : Nat)))) rfl ?_
                              have hdz : (0 : Int) ≤ (((plen Y (paD T i) - h * wd) / nr : Nat) : Int) ∧ (((plen Y (paD T i) - h * wd) / nr : Nat) : Int) ≤ 600 := ⟨Int.natCast_nonneg _, by exact_mod_cast hdq⟩
                              refine va_mmax hx hb (hml.trans hl.1.symm) hown (hts (.methodLink RX5 136 Lib.Math.max.name) (by decide +kernel)) (hts (.static Lib.Math.max.name) (by decide +kernel)) (hts (.initialized "java/lang/Math") (by decide +kernel)) (hts (.code Lib.Math.max.name Lib.Math.max.code 2 (some .int)) (by decide +kernel)) (Nat.le_of_ble_eq_true rfl) (Nat.le_of_ble_eq_true rfl) (Nat.le_of_ble_eq_true rfl) (Nat.le_of_ble_eq_true rfl) dX5_reckon_134 ?_
                              refine g_top (y := (zI (max (bz) (dpN wd nr ((lenL Y T).drop (i + 1)) (a - h) + ((plen Y (paD T i) - h * wd) / nr : Nat))))) (z_max rfl rfl (by omega) (by omega) (by omega) (by omega)) ?_
                              refine lv_istore (lv' := [(4, .int (zI (max (bz) (dpN wd nr ((lenL Y T).drop (i + 1)) (a - h) + ((plen Y (paD T i) - h * wd) / nr : Nat))))), (6, .int (zI (dpN wd nr ((lenL Y T).drop (i + 1)) (a - h)))), (0, .ref h0), (1, .int (nI (41))), (2, .int (nI (i))), (3, .int (nI (a))), (5, .int (nI (h)))]) hx hb dX5_reckon_137 hl (by decide) rfl (fun ls hl => ?_)
                              refine lv_iinc (v := (nI (h + 1))) (lv' := [(5, .int (nI (h + 1))), (4, .int (zI (max (bz) (dpN wd nr ((lenL Y T).drop (i + 1)) (a - h) + ((plen Y (paD T i) - h * wd) / nr : Nat))))), (6, .int (zI (dpN wd nr ((lenL Y T).drop (i + 1)) (a - h)))), (0, .ref h0), (1, .int (nI (41))), (2, .int (nI (i))), (3, .int (nI (a)))]) hx hb dX5_reckon_139 hl (k := 6) rfl (nI_add _ _) (by decide) rfl (fun ls hl => ?_)
                              refine lv_goto (tgt := 68) hx hb dX5_reckon_142 (by decide) ?_
                              exact ih_68 (h + 1) (max (bz) (dpN wd nr ((lenL Y T).drop (i + 1)) (a - h) + ((plen Y (paD T i) - h * wd) / nr : Nat)))  (by omega) (by rw [bestN_t ⟨by omega, by omega, by omega⟩, ← hbz]) (by omega) ls (lv_sub hl [3, 4, 5, 6, 1, 0] rfl)
                    exact loop_68 _ (0) ((-1))  (by omega) rfl (Nat.lt_succ_self _) ls (lv_sub hl [2, 3, 4, 5, 1, 0] rfl)
              have hFe : F2 = (va_up F2 24 (k24)) := fe1 eF2_24 (fun j_ a0_ => rfl)
              rw [hFe] at hP hD
              exact loop_54 _ (0) (k24) H locs hP hD hS (by omega) hD9 (fun j hj => absurd hj (Nat.not_lt_zero _)) (Nat.lt_succ_self _) ls (lv_sub hl [1, 2, 3, 0] rfl)
        have hFe : F1 = (va_up F1 24 (g24)) := fe1 eF1_24 (fun j_ a0_ => rfl)
        rw [hFe] at hP hD
        exact loop_48 _ (T.length) (g24) H locs hP hD hS (by omega) (fun t h1 h2 x h3 => by rw [show t = T.length by omega, hI7 x (by omega), List.drop_of_length_le (by simp [lenL])]) (Nat.lt_succ_self _) ls (lv_sub hl [1, 2, 0] rfl)
      · skip
        refine lv_aload_n hx hb dX5_reckon_13 rfl (lv_at hl 0 rfl) ?_
        refine va_get (D := D) (ci := 5) (v := .ref ((ad 24))) (C := RX5) (T := TX5) (N := 34) hx hb hts (by decide +kernel) hown hK hP 0 rfl rfl 24 (by decide) (hts (.fieldLink RX5 68 "CaskYardModel" "most" "[I") (by decide +kernel)) (fun _ h9 => h9) rfl dX5_reckon_14 ?_
        refine lv_iload_n hx hb dX5_reckon_17 rfl (lv_at hl 1 rfl) ?_
        refine lv_aload_n hx hb dX5_reckon_18 rfl (lv_at hl 0 rfl) ?_
        refine va_get (D := D) (ci := 5) (v := .int (I 25)) (C := RX5) (T := TX5) (N := 34) hx hb hts (by decide +kernel) hown hK hP 0 rfl rfl 25 (by decide) (hts (.fieldLink RX5 155 "CaskYardModel" "setMany" "I") (by decide +kernel)) (fun _ h9 => h9) rfl dX5_reckon_19 ?_
        refine g_top (y := (nI (T.length))) h25 ?_
        refine g_imul_n hx hb dX5_reckon_22 ?_
        refine lv_iload_n hx hb dX5_reckon_23 rfl (lv_at hl 2 rfl) ?_
        refine g_iadd_n hx hb dX5_reckon_24 ?_
        refine lv_iload_n hx hb dX5_reckon_25 rfl (lv_at hl 2 rfl) ?_
        refine g_if_ne (tgt := 33) hx hb dX5_reckon_26 (by decide) (n_i (by omega)) (fun c_26 => ?_) (fun c_26 => ?_)
        · skip
          refine lv_iconst (v := (zI ((-1)))) hx hb dX5_reckon_33 (by decide) ?_
          refine g_iast hx hb hK hP hD hS 20 0 rfl rfl ((41 * (T.length)) + a) rfl (by omega) (by decide) dX5_reckon_34 (fun H locs hP hD hS => ?_)
          rw [wMs_24] at hP hD
          rw [eF1_24] at hP hD
          obtain ⟨F6, hF6⟩ : ∃ G, G = va_up F1 24 (upd (g24) ((41 * (T.length)) + a) (zI ((-1)))) := ⟨_, rfl⟩
          rw [← hF6] at hP hD
          have eF6_24 : F6 24 = upd (g24) ((41 * (T.length)) + a) (zI ((-1))) := by rw [hF6]; exact va_up_self _ _ _
          refine lv_iinc (v := (nI (a + 1))) (lv' := [(2, .int (nI (a + 1))), (0, .ref h0), (1, .int (nI (41)))]) hx hb dX5_reckon_35 hl (k := 2) rfl (nI_add _ _) (by decide) rfl (fun ls hl => ?_)
          refine lv_goto (tgt := 5) hx hb dX5_reckon_38 (by decide) ?_
          have hFe : F6 = (va_up F 24 (upd (g24) ((41 * (T.length)) + a) (zI ((-1))))) := fe1 eF6_24 (fun j_ a0_ => by rw [hF6, va_up_ne _ _ (by assumption), hF1, va_up_ne _ _ (by assumption)])
          rw [hFe] at hP hD
          exact ih_5 (a + 1) (upd (g24) ((41 * (T.length)) + a) (zI ((-1)))) H locs hP hD hS (by omega) (row_push hI7 (by rw [dpN, if_neg (by omega)])) (by omega) ls (lv_sub hl [1, 2, 0] rfl)
        · skip
          refine lv_iconst (v := (nI (0))) hx hb dX5_reckon_29 (by decide) ?_
          refine lv_goto (tgt := 34) hx hb dX5_reckon_30 (by decide) ?_
          refine g_iast hx hb hK hP hD hS 20 0 rfl rfl ((41 * (T.length)) + a) rfl (by omega) (by decide) dX5_reckon_34 (fun H locs hP hD hS => ?_)
          rw [wMs_24] at hP hD
          rw [eF1_24] at hP hD
          obtain ⟨F7, hF7⟩ : ∃ G, G = va_up F1 24 (upd (g24) ((41 * (T.length)) + a) (nI (0))) := ⟨_, rfl⟩
          rw [← hF7] at hP hD
          have eF7_24 : F7 24 = upd (g24) ((41 * (T.length)) + a) (nI (0)) := by rw [hF7]; exact va_up_self _ _ _
          refine lv_iinc (v := (nI (a + 1))) (lv' := [(2, .int (nI (a + 1))), (0, .ref h0), (1, .int (nI (41)))]) hx hb dX5_reckon_35 hl (k := 2) rfl (nI_add _ _) (by decide) rfl (fun ls hl => ?_)
          refine lv_goto (tgt := 5) hx hb dX5_reckon_38 (by decide) ?_
          have hFe : F7 = (va_up F 24 (upd (g24) ((41 * (T.length)) + a) (nI (0)))) := fe1 eF7_24 (fun j_ a0_ => by rw [hF7, va_up_ne _ _ (by assumption), hF1, va_up_ne _ _ (by assumption)])
          rw [hFe] at hP hD
          exact ih_5 (a + 1) (upd (g24) ((41 * (T.length)) + a) (nI (0))) H locs hP hD hS (by omega) (row_push hI7 (by rw [dpN, if_pos (by omega)]; rfl)) (by omega) ls (lv_sub hl [1, 2, 0] rfl)
  have hFe : F = (va_up F 24 (F 24)) := fe1 rfl (fun j_ a0_ => rfl)
  rw [hFe] at hP hD
  exact loop_5 _ (0) (F 24) s.heap [] hP hD hS (by omega) (fun j hj => absurd hj (Nat.not_lt_zero _)) (Nat.lt_succ_self _) ls (lv_sub hl [2, 1, 0] rfl)
