set_option maxHeartbeats 4000000 in
set_option maxRecDepth 100000 in
theorem c_X5_renew (l : Launch) (D : va_G) (cy : Nat → ClassId) (sz : Nat) (h0 : Nat) (ad : Nat → Nat) (I : Nat → Int32) (F : Nat → Nat → Int32) (Y : YT) (hM : MR I F Y) (hY : WF Y) (a b : Int32) : Met l yX5_renew wsX5_renew ({ frames := 3, cells := 0, slots := 0, locals := 69 } : Room) (va_Pc [.ref h0, .int (a), .int (b)] (wB D cy sz (wM cy h0 ad I F))) (va_Qi (fun (r : Int32) (u : (Nat → Int32) × (Nat → Nat → Int32)) => MP r u (sp_renew Y a b)) (fun u t => wE D cy (va_A (wM cy h0 ad I F) sz) (wM cy h0 ad u.1 u.2) t) (va_A (wM cy h0 ad I F) sz)) 0 0 (va_A (wM cy h0 ad I F) sz) := by
  refine Met.ofW (cc := cX5_renew) (maxL := 6) (ret := (some .int)) (by decide) rfl ?_
  intro p e s m args below meth c s₁ B hml hv
  obtain ⟨rfl, hsz, hP, hK, hD0⟩ := hv
  have hx := B.exec
  have hb := B.bytes
  have hr := B.returns
  have hts := atoms_spec (ws := wsX5_renew) B.pre
  have hown : s.vm.findClass RX5 = some m.cls := findClass_of_methodNamed B.named
  have hlocks := B.notSynchronized
  subst hsz
  have hD := hD0.self (sz := s.heap.size)
  generalize hAe : va_A (wM cy h0 ad I F) s.heap.size = A at hD ⊢
  have hA : ∀ q : Nat, s.heap.size ≤ q → A q := w_A hAe
  have hS : va_S A s.heap s.heap [] := va_S.rf
  have hl := lv_entry ([.ref h0, .int (a), .int (b)]) (n := 6) (Nat.le_of_ble_eq_true rfl)
  rw [lg_entry_eq]
  generalize (lg_sl ([.ref h0, .int (a), .int (b)]) ++ List.replicate (6 - (lg_sl ([.ref h0, .int (a), .int (b)])).length) Slot.unset).toArray = ls at hl ⊢
  have hl : lv_has ls 6 [(0, .ref h0), (1, .int (a)), (2, .int (b))] := hl
  obtain ⟨hm1, hm2, hm3, hm4, hmF, hmB, hmC, hmR, hmW⟩ := id hM
  obtain ⟨hy0, hyF, hyB, hyC, hyf, hyb, hyc, hyr, hyw⟩ := id hY
  have hxa := ix_m a
  have hxb := ix_m b
  refine lv_aload_n hx hb dX5_renew_0 rfl (lv_at hl 0 rfl) ?_
  refine lv_iconst (v := (nI (0))) hx hb dX5_renew_1 (by decide) ?_
  refine va_put (D := D) (ci := 5) (v := .int (nI (0))) (ty := .int) (C := RX5) (T := TX5) (N := 34) hx hb hts (by decide +kernel) tyX5 tyX5_ok nmX5 hown hK hP hD hS 0 rfl rfl 0 (by decide) (hts (.fieldLink RX5 83 "CaskYardModel" "code" "I") (by decide +kernel)) (fun _ h9 => h9) rfl (by decide +kernel) rfl rfl (Nat.le_of_ble_eq_true rfl) dX5_renew_2 (fun H locs hP hD hS => ?_)
  have hP : va_P D vwCl (wM cy h0 ad (va_up I 0 (nI (0))) F) H := hP
  have hD : va_D A (wM cy h0 ad (va_up I 0 (nI (0))) F) := hD
  refine lv_aload_n hx hb dX5_renew_5 rfl (lv_at hl 0 rfl) ?_
  refine lv_iload_n hx hb dX5_renew_6 rfl (lv_at hl 1 rfl) ?_
  refine lv_iload_n hx hb dX5_renew_7 rfl (lv_at hl 2 rfl) ?_
  refine vp_callSi (va_Run.run (va_runV (As := [.int (a), .int (b)]) (rest := []) ⟨hx, hb, hml, hown, hts⟩ (c_X5_isStave l D cy h0 ad (va_up I 0 (nI (0))) F (Y) (hM) (hY) (a) (b)) (cwV 2 hts gX5_renew_X5_isStave rfl rfl rfl (by decide +kernel) ⟨Nat.le_of_ble_eq_true rfl, Nat.le_of_ble_eq_true rfl⟩) ⟨rB_blind, va_recv hK hP (ci := 5) (q0 := 0) rfl rfl, (rB_pre hP hK)⟩ rfl rfl hl.1 rfl (lv_room (Nat.le_of_ble_eq_true rfl)) dX5_renew_8 ⟨Nat.le_of_ble_eq_true rfl, Nat.le_of_ble_eq_true rfl⟩)) (fun r_8 hr_8 => ?_)
  subst hr_8
  refine g_ifne_b (tgt := 20) hx hb dX5_renew_11 (by decide) (fun c_11 => ?_) (fun c_11 => ?_)
  · skip
    have c11a := c_11.1
    have c11b := c_11.2
    have h_a := ix_n (a := a) (by omega)
    have hic : ix a < yC Y := by omega
    have hcf := (hyc (ix a) hic).1
    have hcs := hyf (ycf Y (ix a)) hcf
    have hl : lv_has ls 6 [(0, .ref h0), (1, .int (nI (ix a))), (2, .int (b))] := by rw [← h_a]; exact hl
    have h_b := ix_n (a := b) (by omega)
    have hl : lv_has ls 6 [(0, .ref h0), (1, .int (nI (ix a))), (2, .int (nI (ix b)))] := by rw [← h_b]; exact hl
    refine lv_aload_n hx hb dX5_renew_20 rfl (lv_at hl 0 rfl) ?_
    refine lv_iload_n hx hb dX5_renew_21 rfl (lv_at hl 1 rfl) ?_
    refine lv_iload_n hx hb dX5_renew_22 rfl (lv_at hl 2 rfl) ?_
    refine vp_callSi (va_Run.run (va_runV (As := [.int (nI (ix a)), .int (nI (ix b))]) (rest := []) ⟨hx, hb, hml, hown, hts⟩ (c_X5_middle l D cy h0 ad (va_up I 0 (nI (0))) F (Y) (hM) (hY) (ix a) (ix b) (hic) (by omega)) (cwV 2 hts gX5_renew_X5_middle rfl rfl rfl (by decide +kernel) ⟨Nat.le_of_ble_eq_true rfl, Nat.le_of_ble_eq_true rfl⟩) ⟨rB_blind, va_recv hK hP (ci := 5) (q0 := 0) rfl rfl, (rB_pre hP hK)⟩ rfl rfl hl.1 rfl (lv_room (Nat.le_of_ble_eq_true rfl)) dX5_renew_23 ⟨Nat.le_of_ble_eq_true rfl, Nat.le_of_ble_eq_true rfl⟩)) (fun r_23 hr_23 => ?_)
    subst hr_23
    have hmb1 := mid_lt (Y := Y) (x := ix a) (k := ix b) hcs
    refine lv_iconst (v := (nI (2))) hx hb dX5_renew_26 (by decide) ?_
    refine g_iadd_n hx hb dX5_renew_27 ?_
    refine lv_istore_n (lv' := [(3, .int (nI ((midN Y (ix a) (ix b)) + 2))), (0, .ref h0), (1, .int (nI (ix a))), (2, .int (nI (ix b)))]) hx hb dX5_renew_28 rfl hl (by decide) rfl (fun ls hl => ?_)
    refine lv_iconst (v := (nI (0))) hx hb dX5_renew_29 (by decide) ?_
    refine lv_istore (lv' := [(4, .int (nI (0))), (3, .int (nI ((midN Y (ix a) (ix b)) + 2))), (0, .ref h0), (1, .int (nI (ix a))), (2, .int (nI (ix b)))]) hx hb dX5_renew_30 hl (by decide) rfl (fun ls hl => ?_)
    have loop_32 : ∀ (n_ : Nat) (q : Nat), (q ≤ yB Y) → (renB Y (midN Y (ix a) (ix b) + 2) 0 (yB Y) = renB Y (midN Y (ix a) (ix b) + 2) q (yB Y - q)) → yB Y - q < n_ → ∀ (ls : Array Slot), lv_has ls 6 [(0, .ref h0), (1, .int (nI (ix a))), (2, .int (nI (ix b))), (3, .int (nI (midN Y (ix a) (ix b) + 2))), (4, .int (nI (q)))] → W p l e (headSpec wsX5_renew ({ frames := 3, cells := 0, slots := 0, locals := 69 } : Room)).room s m ([.ref h0, .int (a), .int (b)] : List Value).toArray below meth c H locs 0 0 (MQ below (va_Qi (fun (r : Int32) (u : (Nat → Int32) × (Nat → Nat → Int32)) => MP r u (sp_renew Y a b)) (fun u t => wE D cy A (wM cy h0 ad u.1 u.2) t) A) ([.ref h0, .int (a), .int (b)] : List Value).toArray s 0 0 A) (F0 m 32 ls []) := by
      intro n_
      induction n_ with
      | zero => intro q hq hrn hm_; exact absurd hm_ (Nat.not_lt_zero _)
      | succ n_ ih_32 =>
        intro q hq hrn hm_ ls hl
        refine lv_iload hx hb dX5_renew_32 (lv_at hl 4 rfl) ?_
        refine lv_aload_n hx hb dX5_renew_34 rfl (lv_at hl 0 rfl) ?_
        refine va_get (D := D) (ci := 5) (v := .int (I 2)) (C := RX5) (T := TX5) (N := 34) hx hb hts (by decide +kernel) hown hK hP 0 rfl rfl 2 (by decide) (hts (.fieldLink RX5 122 "CaskYardModel" "bolts" "I") (by decide +kernel)) (fun _ h9 => h9) rfl dX5_renew_35 ?_
        refine g_top (y := (nI (yB Y))) hm2 ?_
        refine g_icmp_ge (tgt := 152) hx hb dX5_renew_38 (by decide) (n_i (by omega)) (n_i (by omega)) (fun c_38 => ?_) (fun c_38 => ?_)
        · skip
          refine lv_iconst (v := (zI ((-1)))) hx hb dX5_renew_152 (by decide) ?_
          exact W.iret (v := (zI ((-1)))) hx hb hr (fun t ht hW => ⟨⟨_, ((va_up I 0 (nI (0))), F), rfl, by rw [sp_renew, if_pos (by omega), hrn, show yB Y - q = 0 by omega]; exact ⟨rfl, fun _ => rfl, hM⟩, by rw [ht]; exact hP, va_K.moved hW.alike hK, hD⟩, hS.F ht⟩) hS.2.2 dX5_renew_153
        · skip
          have hqb : q < yB Y := by omega
          have hpl := (hyb q hqb).2.1
          have hpq := (hyb q hqb).2.2
          have hrp := (hyb q hqb).1
          refine lv_iconst (v := (nI (0))) hx hb dX5_renew_41 (by decide) ?_
          refine lv_istore (lv' := [(5, .int (nI (0))), (0, .ref h0), (1, .int (nI (ix a))), (2, .int (nI (ix b))), (3, .int (nI (midN Y (ix a) (ix b) + 2))), (4, .int (nI (q)))]) hx hb dX5_renew_42 hl (by decide) rfl (fun ls hl => ?_)
          have loop_44 : ∀ (n_ : Nat) (i : Nat), (i ≤ (yP Y q).length) → (fitN (midN Y (ix a) (ix b) + 2) (yP Y q) 0 (yP Y q).length = fitN (midN Y (ix a) (ix b) + 2) (yP Y q) i ((yP Y q).length - i)) → (yP Y q).length - i < n_ → ∀ (ls : Array Slot), lv_has ls 6 [(0, .ref h0), (1, .int (nI (ix a))), (2, .int (nI (ix b))), (3, .int (nI (midN Y (ix a) (ix b) + 2))), (4, .int (nI (q))), (5, .int (nI (i)))] → W p l e (headSpec wsX5_renew ({ frames := 3, cells := 0, slots := 0, locals := 69 } : Room)).room s m ([.ref h0, .int (a), .int (b)] : List Value).toArray below meth c H locs 0 0 (MQ below (va_Qi (fun (r : Int32) (u : (Nat → Int32) × (Nat → Nat → Int32)) => MP r u (sp_renew Y a b)) (fun u t => wE D cy A (wM cy h0 ad u.1 u.2) t) A) ([.ref h0, .int (a), .int (b)] : List Value).toArray s 0 0 A) (F0 m 44 ls []) := by
            intro n_
            induction n_ with
            | zero => intro i hi hft hm_; exact absurd hm_ (Nat.not_lt_zero _)
            | succ n_ ih_44 =>
              intro i hi hft hm_ ls hl
              refine lv_iload hx hb dX5_renew_44 (lv_at hl 5 rfl) ?_
              refine lv_aload_n hx hb dX5_renew_46 rfl (lv_at hl 0 rfl) ?_
              refine va_get (D := D) (ci := 5) (v := .ref ((ad 10))) (C := RX5) (T := TX5) (N := 34) hx hb hts (by decide +kernel) hown hK hP 0 rfl rfl 10 (by decide) (hts (.fieldLink RX5 25 "CaskYardModel" "partMany" "[I") (by decide +kernel)) (fun _ h9 => h9) rfl dX5_renew_47 ?_
              refine lv_iload hx hb dX5_renew_50 (lv_at hl 4 rfl) ?_
              refine g_iald hx hb hK hP 6 0 rfl rfl (q) rfl (by omega) (by decide) dX5_renew_52 ?_
              refine g_top (y := (nI ((yP Y (q)).length))) (hmB (q) (by omega)).2.1 ?_
              refine g_icmp_ge (tgt := 146) hx hb dX5_renew_53 (by decide) (n_i (by omega)) (n_i (by omega)) (fun c_53 => ?_) (fun c_53 => ?_)
              · skip
                have hno : ysp Y q + 1095 ≤ yNow Y → fitN (midN Y (ix a) (ix b) + 2) (yP Y q) 0 (yP Y q).length = none := fun _ => hft.trans (fitN_end (by omega))
                refine lv_iinc (v := (nI (q + 1))) (lv' := [(4, .int (nI (q + 1))), (0, .ref h0), (1, .int (nI (ix a))), (2, .int (nI (ix b))), (3, .int (nI (midN Y (ix a) (ix b) + 2))), (5, .int (nI (i)))]) hx hb dX5_renew_146 hl (k := 4) rfl (nI_add _ _) (by decide) rfl (fun ls hl => ?_)
                refine lv_goto (tgt := 32) hx hb dX5_renew_149 (by decide) ?_
                exact ih_32 (q + 1)  (by omega) (hrn.trans (renB_none (by omega) hno)) (by omega) ls (lv_sub hl [1, 2, 3, 4, 0] rfl)
              · skip
                have hq9 := hpq _ (paD_mem (L := yP Y q) (i := i) (by omega))
                refine lv_aload_n hx hb dX5_renew_56 rfl (lv_at hl 0 rfl) ?_
                refine lv_iload hx hb dX5_renew_57 (lv_at hl 4 rfl) ?_
                refine vp_callSi (va_Run.run (va_runV (As := [.int (nI (q))]) (rest := []) ⟨hx, hb, hml, hown, hts⟩ (c_X5_isRipe l D cy h0 ad (va_up I 0 (nI (0))) F (q) (ysp Y (q)) (yNow Y) (Nat.lt_of_lt_of_le hqb hyB) (hm4) ((hmB (q) hqb).1) (⟨(hyb (q) hqb).1, hy0⟩)) (cwV 1 hts gX5_renew_X5_isRipe rfl rfl rfl (by decide +kernel) ⟨Nat.le_of_ble_eq_true rfl, Nat.le_of_ble_eq_true rfl⟩) ⟨rB_blind, va_recv hK hP (ci := 5) (q0 := 0) rfl rfl, (rB_pre hP hK)⟩ rfl rfl hl.1 rfl (lv_room (Nat.le_of_ble_eq_true rfl)) dX5_renew_59 ⟨Nat.le_of_ble_eq_true rfl, Nat.le_of_ble_eq_true rfl⟩)) (fun r_59 hr_59 => ?_)
                subst hr_59
                refine g_ifeq_b (tgt := 146) hx hb dX5_renew_62 (by decide) (fun c_62 => ?_) (fun c_62 => ?_)
                · skip
                  have hno : ysp Y q + 1095 ≤ yNow Y → fitN (midN Y (ix a) (ix b) + 2) (yP Y q) 0 (yP Y q).length = none := fun h => absurd h c_62
                  refine lv_iinc (v := (nI (q + 1))) (lv' := [(4, .int (nI (q + 1))), (0, .ref h0), (1, .int (nI (ix a))), (2, .int (nI (ix b))), (3, .int (nI (midN Y (ix a) (ix b) + 2))), (5, .int (nI (i)))]) hx hb dX5_renew_146 hl (k := 4) rfl (nI_add _ _) (by decide) rfl (fun ls hl => ?_)
                  refine lv_goto (tgt := 32) hx hb dX5_renew_149 (by decide) ?_
                  exact ih_32 (q + 1)  (by omega) (hrn.trans (renB_none (by omega) hno)) (by omega) ls (lv_sub hl [1, 2, 3, 4, 0] rfl)
                · skip
                  refine lv_aload_n hx hb dX5_renew_65 rfl (lv_at hl 0 rfl) ?_
                  refine va_get (D := D) (ci := 5) (v := .ref ((ad 12))) (C := RX5) (T := TX5) (N := 34) hx hb hts (by decide +kernel) hown hK hP 0 rfl rfl 12 (by decide) (hts (.fieldLink RX5 31 "CaskYardModel" "to" "[I") (by decide +kernel)) (fun _ h9 => h9) rfl dX5_renew_66 ?_
                  refine lv_iload hx hb dX5_renew_69 (lv_at hl 4 rfl) ?_
                  refine lv_iload hx hb dX5_renew_71 (lv_at hl 5 rfl) ?_
                  refine vp_callSi (va_Run.run (va_runS (As := [.int (nI (q)), .int (nI (i))]) (rest := [.ref ((ad 12))]) ⟨hx, hb, hml, hown, hts⟩ (c_X5_part l  (q) (i)) (va_cwS 2 hts gX5_renew_X5_part rfl rfl rfl (by decide +kernel) ⟨Nat.le_of_ble_eq_true rfl, Nat.le_of_ble_eq_true rfl⟩) ⟨nB_blind, nB_pre⟩ rfl rfl hl.1 rfl (lv_room (Nat.le_of_ble_eq_true rfl)) dX5_renew_73 ⟨Nat.le_of_ble_eq_true rfl, Nat.le_of_ble_eq_true rfl⟩)) (fun r_73 hr_73 => ?_)
                  subst hr_73
                  refine g_iald hx hb hK hP 8 0 rfl rfl (5 * (q) + (i)) rfl (by omega) (by decide) dX5_renew_76 ?_
                  refine g_top (y := (nI ((paD (yP Y q) i).2))) ((arrP_at (hmB q hqb).2.2 (i := i) (by omega)).2) ?_
                  refine lv_aload_n hx hb dX5_renew_77 rfl (lv_at hl 0 rfl) ?_
                  refine va_get (D := D) (ci := 5) (v := .ref ((ad 11))) (C := RX5) (T := TX5) (N := 34) hx hb hts (by decide +kernel) hown hK hP 0 rfl rfl 11 (by decide) (hts (.fieldLink RX5 28 "CaskYardModel" "from" "[I") (by decide +kernel)) (fun _ h9 => h9) rfl dX5_renew_78 ?_
                  refine lv_iload hx hb dX5_renew_81 (lv_at hl 4 rfl) ?_
                  refine lv_iload hx hb dX5_renew_83 (lv_at hl 5 rfl) ?_
                  refine vp_callSi (va_Run.run (va_runS (As := [.int (nI (q)), .int (nI (i))]) (rest := [.ref ((ad 11)), .int (nI ((paD (yP Y q) i).2))]) ⟨hx, hb, hml, hown, hts⟩ (c_X5_part l  (q) (i)) (va_cwS 2 hts gX5_renew_X5_part rfl rfl rfl (by decide +kernel) ⟨Nat.le_of_ble_eq_true rfl, Nat.le_of_ble_eq_true rfl⟩) ⟨nB_blind, nB_pre⟩ rfl rfl hl.1 rfl (lv_room (Nat.le_of_ble_eq_true rfl)) dX5_renew_85 ⟨Nat.le_of_ble_eq_true rfl, Nat.le_of_ble_eq_true rfl⟩)) (fun r_85 hr_85 => ?_)
                  subst hr_85
                  refine g_iald hx hb hK hP 7 0 rfl rfl (5 * (q) + (i)) rfl (by omega) (by decide) dX5_renew_88 ?_
                  refine g_top (y := (nI ((paD (yP Y q) i).1))) ((arrP_at (hmB q hqb).2.2 (i := i) (by omega)).1) ?_
                  refine g_isub_n hx hb dX5_renew_89 (by omega) ?_
                  refine lv_iload_n hx hb dX5_renew_90 rfl (lv_at hl 3 rfl) ?_
                  refine g_icmp_ge (tgt := 97) hx hb dX5_renew_91 (by decide) (n_i (by omega)) (n_i (by omega)) (fun c_91 => ?_) (fun c_91 => ?_)
                  · skip
                    have hfit : (midN Y (ix a) (ix b) + 2) ≤ (paD (yP Y q) i).2 - (paD (yP Y q) i).1 := by omega
                    refine lv_aload_n hx hb dX5_renew_97 rfl (lv_at hl 0 rfl) ?_
                    refine lv_iload hx hb dX5_renew_98 (lv_at hl 4 rfl) ?_
                    refine lv_iload hx hb dX5_renew_100 (lv_at hl 5 rfl) ?_
                    refine lv_iload_n hx hb dX5_renew_102 rfl (lv_at hl 3 rfl) ?_
                    have hFc := w_free hD hS hA
                    refine va_callv (va_runV (As := [.int (nI (q)), .int (nI (i)), .int (nI (midN Y (ix a) (ix b) + 2))]) (rest := []) ⟨hx, hb, hml, hown, hts⟩ (c_X5_cut l D cy H.size h0 ad (va_up I 0 (nI (0))) F (q) (i) (midN Y (ix a) (ix b) + 2) ((paD (yP Y q) i).1) (by omega) (by omega) ((arrP_at (hmB q hqb).2.2 (i := i) (by omega)).1)) (cwV 3 hts gX5_renew_X5_cut rfl rfl rfl (by decide +kernel) ⟨Nat.le_of_ble_eq_true rfl, Nat.le_of_ble_eq_true rfl⟩) ⟨wB_blind, va_recv hK hP (ci := 5) (q0 := 0) rfl rfl, wB_pre hP hK hD⟩ rfl rfl hl.1 rfl (lv_room (Nat.le_of_ble_eq_true rfl)) dX5_renew_103 ⟨Nat.le_of_ble_eq_true rfl, Nat.le_of_ble_eq_true rfl⟩) hS (fun q _ h => hFc q h) hFc (fun u_103 t H locs ht hvm hw_103 hB _ _ hS => ?_)
                    obtain ⟨I_103, F_103⟩ := u_103
                    obtain ⟨hP1, hK1, hD1⟩ := hB
                    rw [ht] at hP1
                    dsimp only at hP1 hD1 hw_103
                    have hP := hP1
                    have hD := hD1.weaken (fun _ _ _ h => hFc _ h)
                    have hI_103 := (Prod.mk.inj hw_103).1
                    have hF_103 := (Prod.mk.inj hw_103).2
                    rw [hI_103] at hP hD
                    have hP : va_P D vwCl (wM cy h0 ad (va_up I 0 (nI (0))) F_103) H := hP
                    have hD : va_D A (wM cy h0 ad (va_up I 0 (nI (0))) F_103) := hD
                    refine lv_aload_n hx hb dX5_renew_106 rfl (lv_at hl 0 rfl) ?_
                    refine lv_iload hx hb dX5_renew_107 (lv_at hl 4 rfl) ?_
                    have hFc := w_free hD hS hA
                    refine va_callv (va_runV (As := [.int (nI (q))]) (rest := []) ⟨hx, hb, hml, hown, hts⟩ (c_X5_tidy l D cy H.size h0 ad (va_up I 0 (nI (0))) F_103 (q) (by omega) (shortL (yP Y q) i (midN Y (ix a) (ix b) + 2)) (by rw [shortL_len]; exact hpl) (by rw [hF_103, va_up_ne _ _ (by decide), shortL_len]; exact (hmB q hqb).2.1) (by rw [hF_103, va_up_self, va_up_ne _ _ (by decide)]; exact arrP_short (hmB q hqb).2.2 (by omega)) (shortL_bd (by omega) hpq hfit)) (cwV 1 hts gX5_renew_X5_tidy rfl rfl rfl (by decide +kernel) ⟨Nat.le_of_ble_eq_true rfl, Nat.le_of_ble_eq_true rfl⟩) ⟨wB_blind, va_recv hK hP (ci := 5) (q0 := 0) rfl rfl, wB_pre hP hK hD⟩ rfl rfl hl.1 rfl (lv_room (Nat.le_of_ble_eq_true rfl)) dX5_renew_109 ⟨Nat.le_of_ble_eq_true rfl, Nat.le_of_ble_eq_true rfl⟩) hS (fun q _ h => hFc q h) hFc (fun u_109 t H locs ht hvm hw_109 hB _ _ hS => ?_)
                    obtain ⟨I_109, F_109⟩ := u_109
                    obtain ⟨hP1, hK1, hD1⟩ := hB
                    rw [ht] at hP1
                    dsimp only at hP1 hD1 hw_109
                    have hP := hP1
                    have hD := hD1.weaken (fun _ _ _ h => hFc _ h)
                    obtain ⟨g11, g12, hu_109, hA9, hO9⟩ := hw_109
                    have hI_109 := (Prod.mk.inj hu_109).1
                    have hF_109 := (Prod.mk.inj hu_109).2
                    rw [hI_109] at hP hD
                    have hP : va_P D vwCl (wM cy h0 ad (va_up I 0 (nI (0))) F_109) H := hP
                    have hD : va_D A (wM cy h0 ad (va_up I 0 (nI (0))) F_109) := hD
                    refine lv_aload_n hx hb dX5_renew_112 rfl (lv_at hl 0 rfl) ?_
                    refine va_get (D := D) (ci := 5) (v := .ref ((ad 14))) (C := RX5) (T := TX5) (N := 34) hx hb hts (by decide +kernel) hown hK hP 0 rfl rfl 14 (by decide) (hts (.fieldLink RX5 37 "CaskYardModel" "boltOf" "[I") (by decide +kernel)) (fun _ h9 => h9) rfl dX5_renew_113 ?_
                    refine lv_bipush (v := (nI (40))) hx hb dX5_renew_116 (by decide) ?_
                    refine lv_iload_n hx hb dX5_renew_118 rfl (lv_at hl 1 rfl) ?_
                    refine g_imul_n hx hb dX5_renew_119 ?_
                    refine lv_iload_n hx hb dX5_renew_120 rfl (lv_at hl 2 rfl) ?_
                    refine g_iadd_n hx hb dX5_renew_121 ?_
                    refine lv_iload hx hb dX5_renew_122 (lv_at hl 4 rfl) ?_
                    refine g_iast hx hb hK hP hD hS 10 0 rfl rfl ((40 * (ix a)) + (ix b)) rfl (by omega) (by decide) dX5_renew_124 (fun H locs hP hD hS => ?_)
                    rw [wMs_14] at hP hD
                    obtain ⟨F1, hF1⟩ : ∃ G, G = va_up F_109 14 (upd (F_109 14) ((40 * (ix a)) + (ix b)) (nI (q))) := ⟨_, rfl⟩
                    rw [← hF1] at hP hD
                    have eF1_14 : F1 14 = upd (F_109 14) ((40 * (ix a)) + (ix b)) (nI (q)) := by rw [hF1]; exact va_up_self _ _ _
                    refine lv_aload_n hx hb dX5_renew_125 rfl (lv_at hl 0 rfl) ?_
                    refine va_get (D := D) (ci := 5) (v := .ref ((ad 15))) (C := RX5) (T := TX5) (N := 34) hx hb hts (by decide +kernel) hown hK hP 0 rfl rfl 15 (by decide) (hts (.fieldLink RX5 40 "CaskYardModel" "past" "[I") (by decide +kernel)) (fun _ h9 => h9) rfl dX5_renew_126 ?_
                    refine lv_bipush (v := (nI (40))) hx hb dX5_renew_129 (by decide) ?_
                    refine lv_iload_n hx hb dX5_renew_131 rfl (lv_at hl 1 rfl) ?_
                    refine g_imul_n hx hb dX5_renew_132 ?_
                    refine lv_iload_n hx hb dX5_renew_133 rfl (lv_at hl 2 rfl) ?_
                    refine g_iadd_n hx hb dX5_renew_134 ?_
                    refine lv_iconst (v := (nI (0))) hx hb dX5_renew_135 (by decide) ?_
                    refine g_iast hx hb hK hP hD hS 11 0 rfl rfl ((40 * (ix a)) + (ix b)) rfl (by omega) (by decide) dX5_renew_136 (fun H locs hP hD hS => ?_)
                    rw [wMs_15] at hP hD
                    rw [(show F1 15 = F_109 15 by rw [hF1, va_up_ne _ _ (by decide)])] at hP hD
                    obtain ⟨F2, hF2⟩ : ∃ G, G = va_up F1 15 (upd (F_109 15) ((40 * (ix a)) + (ix b)) (nI (0))) := ⟨_, rfl⟩
                    rw [← hF2] at hP hD
                    have eF2_15 : F2 15 = upd (F_109 15) ((40 * (ix a)) + (ix b)) (nI (0)) := by rw [hF2]; exact va_up_self _ _ _
                    have eF2_14 : F2 14 = upd (F_109 14) ((40 * (ix a)) + (ix b)) (nI (q)) := by rw [hF2, va_up_ne _ _ (by decide)]; exact eF1_14
                    refine lv_iload hx hb dX5_renew_137 (lv_at hl 4 rfl) ?_
                    exact W.iret (v := (nI (q))) hx hb hr (fun t ht hW => ⟨⟨_, ((va_up I 0 (nI (0))), F2), rfl, (by rw [sp_renew, if_pos (by omega), hrn, renB_some hqb (by omega) (hft.trans (fitN_hit (by omega) hfit))]; refine ⟨rfl, fun _ => rfl, ?_⟩; show MR _ F2 (boltY (partsY Y q (filP (shortL (yP Y q) i (midN Y (ix a) (ix b) + 2)))) (ix a) (ix b) q); exact ren_end hM hY hic (by omega) hqb (by omega) hF_103 hF_109 hA9 hO9 (eF2_14) (eF2_15) (fun k_ h1_ h2_ h3_ h4_ => by rw [hF2, va_up_ne _ _ (by omega), hF1, va_up_ne _ _ (by omega)])), by rw [ht]; exact hP, va_K.moved hW.alike hK, hD⟩, hS.F ht⟩) hS.2.2 dX5_renew_139
                  · skip
                    refine lv_goto (tgt := 140) hx hb dX5_renew_94 (by decide) ?_
                    refine lv_iinc (v := (nI (i + 1))) (lv' := [(5, .int (nI (i + 1))), (0, .ref h0), (1, .int (nI (ix a))), (2, .int (nI (ix b))), (3, .int (nI (midN Y (ix a) (ix b) + 2))), (4, .int (nI (q)))]) hx hb dX5_renew_140 hl (k := 5) rfl (nI_add _ _) (by decide) rfl (fun ls hl => ?_)
                    refine lv_goto (tgt := 44) hx hb dX5_renew_143 (by decide) ?_
                    exact ih_44 (i + 1)  (by omega) (hft.trans (fitN_step (by omega) (by omega))) (by omega) ls (lv_sub hl [1, 2, 3, 4, 5, 0] rfl)
          exact loop_44 _ (0)  (by omega) rfl (Nat.lt_succ_self _) ls (lv_sub hl [1, 2, 3, 4, 5, 0] rfl)
    exact loop_32 _ (0)  (by omega) rfl (Nat.lt_succ_self _) ls (lv_sub hl [2, 3, 4, 1, 0] rfl)
  · skip
    refine lv_aload_n hx hb dX5_renew_14 rfl (lv_at hl 0 rfl) ?_
    refine lv_iconst (v := (nI (1))) hx hb dX5_renew_15 (by decide) ?_
    have hFc := w_free hD hS hA
    refine va_calli (va_runV (As := [.int (nI (1))]) (rest := []) ⟨hx, hb, hml, hown, hts⟩ (c_X5_fail l D cy H.size h0 ad (va_up I 0 (nI (0))) F (nI (1))) (cwV 1 hts gX5_renew_X5_fail rfl rfl rfl (by decide +kernel) ⟨Nat.le_of_ble_eq_true rfl, Nat.le_of_ble_eq_true rfl⟩) ⟨wB_blind, va_recv hK hP (ci := 5) (q0 := 0) rfl rfl, wB_pre hP hK hD⟩ rfl rfl hl.1 rfl (lv_room (Nat.le_of_ble_eq_true rfl)) dX5_renew_16 ⟨Nat.le_of_ble_eq_true rfl, Nat.le_of_ble_eq_true rfl⟩) hS (fun q _ h => hFc q h) hFc (fun r_16 u_16 t H locs ht hvm hw_16 hB _ _ hS => ?_)
    obtain ⟨I_16, F_16⟩ := u_16
    obtain ⟨hP1, hK1, hD1⟩ := hB
    rw [ht] at hP1
    dsimp only at hP1 hD1 hw_16
    obtain ⟨hw_16, hu_16⟩ := hw_16
    rw [(Prod.mk.inj hu_16).1, (Prod.mk.inj hu_16).2] at hP1 hD1
    have hP := hP1
    have hD := hD1.weaken (fun _ _ _ h => hFc _ h)
    have hP : va_P D vwCl (wM cy h0 ad (va_up I 0 (nI (1))) F) H := hP
    have hD : va_D A (wM cy h0 ad (va_up I 0 (nI (1))) F) := hD
    refine g_top (y := (nI (0))) (hw_16) ?_
    exact W.iret (v := (nI (0))) hx hb hr (fun t ht hW => ⟨⟨_, ((va_up I 0 (nI (1))), F), rfl, by rw [sp_renew, if_neg (by omega)]; exact MP_t rfl hM, by rw [ht]; exact hP, va_K.moved hW.alike hK, hD⟩, hS.F ht⟩) hS.2.2 dX5_renew_19
