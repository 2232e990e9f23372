set_option maxHeartbeats 4000000 in
set_option maxRecDepth 100000 in
theorem c_X5_heldOn (l : Launch) (D : va_G) (cy : Nat → ClassId) (h0 : Nat) (ad : Nat → Nat) (I : Nat → Int32) (F : Nat → Nat → Int32) (x : Nat) (hx30 : x < 30) (L : List (Nat × Nat × Nat)) (d k : Int32) (h16 : F 16 x = nI L.length) (hE : arrE (F 17) (F 19) (F 18) (40 * x) L) (hL : L.length ≤ 40) (hb9 : ∀ q ∈ L, q.1 ≤ 100000 ∧ q.2.1 ≤ 100000 ∧ q.2.2 ≤ 16) : Met l yX5_heldOn wsX5_heldOn ({ frames := 0, cells := 0, slots := 0, locals := 0 } : Room) (va_Pc [.ref h0, .int (nI (x)), .int (d), .int (k)] (rB D cy (wM cy h0 ad I F))) (vp_Si (fun r : Int32 => r = zI (heldS L d.toInt k.toInt).2)) 0 0 (fun _ => False) := by
  refine Met.ofW (cc := cX5_heldOn) (maxL := 7) (ret := (some .int)) (by decide) rfl ?_
  intro p e s m args below meth c s₁ B hml hv
  obtain ⟨rfl, hv⟩ := hv
  have hx := B.exec
  have hb := B.bytes
  have hr := B.returns
  have hts := atoms_spec (ws := wsX5_heldOn) B.pre
  have hown : s.vm.findClass RX5 = some m.cls := findClass_of_methodNamed B.named
  have hlocks := B.notSynchronized
  obtain ⟨hP, hK⟩ := hv
  have hl := lv_entry ([.ref h0, .int (nI (x)), .int (d), .int (k)]) (n := 7) (Nat.le_of_ble_eq_true rfl)
  rw [lg_entry_eq]
  generalize (lg_sl ([.ref h0, .int (nI (x)), .int (d), .int (k)]) ++ List.replicate (7 - (lg_sl ([.ref h0, .int (nI (x)), .int (d), .int (k)])).length) Slot.unset).toArray = ls at hl ⊢
  have hl : lv_has ls 7 [(0, .ref h0), (1, .int (nI (x))), (2, .int (d)), (3, .int (k))] := hl
  refine lv_iconst (v := (zI ((-1)))) hx hb dX5_heldOn_0 (by decide) ?_
  refine lv_istore (lv' := [(4, .int (zI ((-1)))), (0, .ref h0), (1, .int (nI (x))), (2, .int (d)), (3, .int (k))]) hx hb dX5_heldOn_1 hl (by decide) rfl (fun ls hl => ?_)
  refine lv_iconst (v := (nI (0))) hx hb dX5_heldOn_3 (by decide) ?_
  refine lv_istore (lv' := [(5, .int (nI (0))), (4, .int (zI ((-1)))), (0, .ref h0), (1, .int (nI (x))), (2, .int (d)), (3, .int (k))]) hx hb dX5_heldOn_4 hl (by decide) rfl (fun ls hl => ?_)
  have loop_6 : ∀ (n_ : Nat) (i : Nat) (bz : Int), (i ≤ L.length) → (heldI L (40 * x) i d.toInt k.toInt bz) → L.length - i < n_ → ∀ (ls : Array Slot), lv_has ls 7 [(0, .ref h0), (1, .int (nI (x))), (2, .int (d)), (3, .int (k)), (4, .int (zI (bz))), (5, .int (nI (i)))] → W p l e (headSpec wsX5_heldOn ({ frames := 0, cells := 0, slots := 0, locals := 0 } : Room)).room s m ([.ref h0, .int (nI (x)), .int (d), .int (k)] : List Value).toArray below meth c s.heap [] 0 0 (MQ below (vp_Si (fun r : Int32 => r = zI (heldS L d.toInt k.toInt).2)) ([.ref h0, .int (nI (x)), .int (d), .int (k)] : List Value).toArray s 0 0 (fun _ => False)) (F0 m 6 ls []) := by
    intro n_
    induction n_ with
    | zero => intro i bz hi hI hm_; exact absurd hm_ (Nat.not_lt_zero _)
    | succ n_ ih_6 =>
      intro i bz hi hI hm_ ls hl
      refine lv_iload hx hb dX5_heldOn_6 (lv_at hl 5 rfl) ?_
      refine lv_aload_n hx hb dX5_heldOn_8 rfl (lv_at hl 0 rfl) ?_
      refine va_get (D := D) (ci := 5) (v := .ref ((ad 16))) (C := RX5) (T := TX5) (N := 34) hx hb hts (by decide +kernel) hown hK hP 0 rfl rfl 16 (by decide) (hts (.fieldLink RX5 43 "CaskYardModel" "entries" "[I") (by decide +kernel)) (fun _ h9 => h9) rfl dX5_heldOn_9 ?_
      refine lv_iload_n hx hb dX5_heldOn_12 rfl (lv_at hl 1 rfl) ?_
      refine g_iald hx hb hK hP 12 0 rfl rfl (x) rfl (by omega) (by decide) dX5_heldOn_13 ?_
      refine g_top (y := (nI (L.length))) h16 ?_
      refine g_icmp_ge (tgt := 84) hx hb dX5_heldOn_14 (by decide) (n_i (by omega)) (n_i (by omega)) (fun c_14 => ?_) (fun c_14 => ?_)
      · skip
        obtain rfl : i = L.length := by omega
        unfold heldI at hI
        rw [List.take_length] at hI
        have hbz : -1 ≤ bz ∧ bz < 2000 := by rcases hI with h | ⟨e9, h1, h2, h3⟩ <;> omega
        refine lv_iload hx hb dX5_heldOn_84 (lv_at hl 4 rfl) ?_
        refine lv_iconst (v := (zI ((-1)))) hx hb dX5_heldOn_86 (by decide) ?_
        refine g_icmp_ne (tgt := 94) hx hb dX5_heldOn_87 (by decide) (zI_toInt (by omega) (by omega)) (zI_toInt (by omega) (by omega)) (fun c_87 => ?_) (fun c_87 => ?_)
        · skip
          obtain ⟨e9, he9, hbe, hs9⟩ := hI.resolve_left (fun h => by omega)
          refine lv_aload_n hx hb dX5_heldOn_94 rfl (lv_at hl 0 rfl) ?_
          refine va_get (D := D) (ci := 5) (v := .ref ((ad 18))) (C := RX5) (T := TX5) (N := 34) hx hb hts (by decide +kernel) hown hK hP 0 rfl rfl 18 (by decide) (hts (.fieldLink RX5 49 "CaskYardModel" "entryKind" "[I") (by decide +kernel)) (fun _ h9 => h9) rfl dX5_heldOn_95 ?_
          refine lv_iload hx hb dX5_heldOn_98 (lv_at hl 4 rfl) ?_
          refine g_iald hx hb hK hP 14 0 rfl rfl (40 * x + e9) (z_n hbe) (by omega) (by decide) dX5_heldOn_100 ?_
          refine g_top (y := (nI ((enD L e9).2.2))) (arrE_get hE (i := e9) (by omega)).2.2 ?_
          exact W.iret (v := (nI ((enD L e9).2.2))) hx hb hr (fun t ht hW => ⟨_, rfl, by rw [hs9]; rfl, ht⟩) (fun _ h => nomatch h) dX5_heldOn_101
        · skip
          have hs9 : heldS L d.toInt k.toInt = (-1, -1) := Or.elim hI (fun h => h.2) (fun ⟨e9, h1, h2, h3⟩ => absurd h2 (by omega))
          refine lv_iconst (v := (zI ((-1)))) hx hb dX5_heldOn_90 (by decide) ?_
          refine lv_goto (tgt := 101) hx hb dX5_heldOn_91 (by decide) ?_
          exact W.iret (v := (zI ((-1)))) hx hb hr (fun t ht hW => ⟨_, rfl, by rw [hs9], ht⟩) (fun _ h => nomatch h) dX5_heldOn_101
      · skip
        have hq9 := hb9 _ (enD_mem (L := L) (i := i) (by omega))
        refine lv_bipush (v := (nI (40))) hx hb dX5_heldOn_17 (by decide) ?_
        refine lv_iload_n hx hb dX5_heldOn_19 rfl (lv_at hl 1 rfl) ?_
        refine g_imul_n hx hb dX5_heldOn_20 ?_
        refine lv_iload hx hb dX5_heldOn_21 (lv_at hl 5 rfl) ?_
        refine g_iadd_n hx hb dX5_heldOn_23 ?_
        refine lv_istore (lv' := [(6, .int (nI ((40 * x) + i))), (0, .ref h0), (1, .int (nI (x))), (2, .int (d)), (3, .int (k)), (4, .int (zI (bz))), (5, .int (nI (i)))]) hx hb dX5_heldOn_24 hl (by decide) rfl (fun ls hl => ?_)
        refine lv_aload_n hx hb dX5_heldOn_26 rfl (lv_at hl 1 rfl) ?_
        refine va_get (D := D) (ci := 5) (v := .ref ((ad 19))) (C := RX5) (T := TX5) (N := 34) hx hb hts (by decide +kernel) hown hK hP 0 rfl rfl 19 (by decide) (hts (.fieldLink RX5 52 "CaskYardModel" "entryTold" "[I") (by decide +kernel)) (fun _ h9 => h9) rfl dX5_heldOn_27 ?_
        refine lv_iload hx hb dX5_heldOn_30 (lv_at hl 0 rfl) ?_
        refine g_iald hx hb hK hP 15 0 rfl rfl ((40 * x) + i) rfl (by omega) (by decide) dX5_heldOn_32 ?_
        refine g_top (y := (nI ((enD L i).2.1))) (arrE_get hE (i := i) (by omega)).2.1 ?_
        refine lv_iload_n hx hb dX5_heldOn_33 rfl (lv_at hl 4 rfl) ?_
        refine g_icmp_gt (tgt := 78) hx hb dX5_heldOn_34 (by decide) (n_i (by omega)) rfl (fun c_34 => ?_) (fun c_34 => ?_)
        · skip
          refine lv_iinc (v := (nI (i + 1))) (lv' := [(5, .int (nI (i + 1))), (6, .int (nI ((40 * x) + i))), (0, .ref h0), (1, .int (nI (x))), (2, .int (d)), (3, .int (k)), (4, .int (zI (bz)))]) hx hb dX5_heldOn_78 hl (k := 6) rfl (nI_add _ _) (by decide) rfl (fun ls hl => ?_)
          refine lv_goto (tgt := 6) hx hb dX5_heldOn_81 (by decide) ?_
          exact ih_6 (i + 1) (bz)  (by omega) (heldI_keep hI (by omega) (fun q9 => by omega)) (by omega) ls (lv_sub hl [2, 3, 4, 5, 6, 0] rfl)
        · skip
          refine lv_aload_n hx hb dX5_heldOn_37 rfl (lv_at hl 1 rfl) ?_
          refine va_get (D := D) (ci := 5) (v := .ref ((ad 17))) (C := RX5) (T := TX5) (N := 34) hx hb hts (by decide +kernel) hown hK hP 0 rfl rfl 17 (by decide) (hts (.fieldLink RX5 46 "CaskYardModel" "entryDay" "[I") (by decide +kernel)) (fun _ h9 => h9) rfl dX5_heldOn_38 ?_
          refine lv_iload hx hb dX5_heldOn_41 (lv_at hl 0 rfl) ?_
          refine g_iald hx hb hK hP 13 0 rfl rfl ((40 * x) + i) rfl (by omega) (by decide) dX5_heldOn_43 ?_
          refine g_top (y := (nI ((enD L i).1))) (arrE_get hE (i := i) (by omega)).1 ?_
          refine lv_iload_n hx hb dX5_heldOn_44 rfl (lv_at hl 3 rfl) ?_
          refine g_icmp_le (tgt := 51) hx hb dX5_heldOn_45 (by decide) (n_i (by omega)) rfl (fun c_45 => ?_) (fun c_45 => ?_)
          · skip
            have hbz : -1 ≤ bz ∧ bz < 2000 := by rcases hI with h | ⟨e9, h1, h2, h3⟩ <;> omega
            refine lv_iload hx hb dX5_heldOn_51 (lv_at hl 5 rfl) ?_
            refine lv_iconst (v := (zI ((-1)))) hx hb dX5_heldOn_53 (by decide) ?_
            refine g_icmp_eq (tgt := 74) hx hb dX5_heldOn_54 (by decide) (zI_toInt (by omega) (by omega)) (zI_toInt (by omega) (by omega)) (fun c_54 => ?_) (fun c_54 => ?_)
            · skip
              have hst : (heldS (L.take i) d.toInt k.toInt).1 = -1 := Or.elim hI (fun h => by rw [h.2]) (fun ⟨e9, h1, h2, h3⟩ => absurd h2 (by omega))
              refine lv_iload hx hb dX5_heldOn_74 (lv_at hl 0 rfl) ?_
              refine lv_istore (lv' := [(4, .int (nI ((40 * x) + i))), (6, .int (nI ((40 * x) + i))), (0, .ref h0), (1, .int (nI (x))), (2, .int (d)), (3, .int (k)), (5, .int (nI (i)))]) hx hb dX5_heldOn_76 hl (by decide) rfl (fun ls hl => ?_)
              refine lv_iinc (v := (nI (i + 1))) (lv' := [(5, .int (nI (i + 1))), (4, .int (nI ((40 * x) + i))), (6, .int (nI ((40 * x) + i))), (0, .ref h0), (1, .int (nI (x))), (2, .int (d)), (3, .int (k))]) hx hb dX5_heldOn_78 hl (k := 6) rfl (nI_add _ _) (by decide) rfl (fun ls hl => ?_)
              refine lv_goto (tgt := 6) hx hb dX5_heldOn_81 (by decide) ?_
              exact ih_6 (i + 1) ((((40 * x) + i : Nat) : Int))  (by omega) (heldI_take (by omega) (by omega)) (by omega) ls (lv_sub hl [3, 4, 5, 6, 1, 0] rfl)
            · skip
              obtain ⟨e9, he9, hbe, hs9⟩ := hI.resolve_left (fun h => by omega)
              have hst : (heldS (L.take i) d.toInt k.toInt).1 = ((enD L e9).1 : Int) := by rw [hs9]
              have hq8 := hb9 _ (enD_mem (L := L) (i := e9) (by omega))
              have hI : heldI L (40 * x) i d.toInt k.toInt bz := Or.inr ⟨e9, he9, hbe, hs9⟩
              refine lv_aload_n hx hb dX5_heldOn_57 rfl (lv_at hl 1 rfl) ?_
              refine va_get (D := D) (ci := 5) (v := .ref ((ad 17))) (C := RX5) (T := TX5) (N := 34) hx hb hts (by decide +kernel) hown hK hP 0 rfl rfl 17 (by decide) (hts (.fieldLink RX5 46 "CaskYardModel" "entryDay" "[I") (by decide +kernel)) (fun _ h9 => h9) rfl dX5_heldOn_58 ?_
              refine lv_iload hx hb dX5_heldOn_61 (lv_at hl 0 rfl) ?_
              refine g_iald hx hb hK hP 13 0 rfl rfl ((40 * x) + i) rfl (by omega) (by decide) dX5_heldOn_63 ?_
              refine g_top (y := (nI ((enD L i).1))) (arrE_get hE (i := i) (by omega)).1 ?_
              refine lv_aload_n hx hb dX5_heldOn_64 rfl (lv_at hl 1 rfl) ?_
              refine va_get (D := D) (ci := 5) (v := .ref ((ad 17))) (C := RX5) (T := TX5) (N := 34) hx hb hts (by decide +kernel) hown hK hP 0 rfl rfl 17 (by decide) (hts (.fieldLink RX5 46 "CaskYardModel" "entryDay" "[I") (by decide +kernel)) (fun _ h9 => h9) rfl dX5_heldOn_65 ?_
              refine lv_iload hx hb dX5_heldOn_68 (lv_at hl 5 rfl) ?_
              refine g_iald hx hb hK hP 13 0 rfl rfl (40 * x + e9) (z_n hbe) (by omega) (by decide) dX5_heldOn_70 ?_
              refine g_top (y := (nI ((enD L e9).1))) (arrE_get hE (i := e9) (by omega)).1 ?_
              refine g_icmp_lt (tgt := 78) hx hb dX5_heldOn_71 (by decide) (n_i (by omega)) (n_i (by omega)) (fun c_71 => ?_) (fun c_71 => ?_)
              · skip
                refine lv_iinc (v := (nI (i + 1))) (lv' := [(5, .int (nI (i + 1))), (6, .int (nI ((40 * x) + i))), (0, .ref h0), (1, .int (nI (x))), (2, .int (d)), (3, .int (k)), (4, .int (zI (bz)))]) hx hb dX5_heldOn_78 hl (k := 6) rfl (nI_add _ _) (by decide) rfl (fun ls hl => ?_)
                refine lv_goto (tgt := 6) hx hb dX5_heldOn_81 (by decide) ?_
                exact ih_6 (i + 1) (bz)  (by omega) (heldI_keep hI (by omega) (fun q9 => by omega)) (by omega) ls (lv_sub hl [2, 3, 4, 5, 6, 0] rfl)
              · skip
                refine lv_iload hx hb dX5_heldOn_74 (lv_at hl 0 rfl) ?_
                refine lv_istore (lv' := [(4, .int (nI ((40 * x) + i))), (6, .int (nI ((40 * x) + i))), (0, .ref h0), (1, .int (nI (x))), (2, .int (d)), (3, .int (k)), (5, .int (nI (i)))]) hx hb dX5_heldOn_76 hl (by decide) rfl (fun ls hl => ?_)
                refine lv_iinc (v := (nI (i + 1))) (lv' := [(5, .int (nI (i + 1))), (4, .int (nI ((40 * x) + i))), (6, .int (nI ((40 * x) + i))), (0, .ref h0), (1, .int (nI (x))), (2, .int (d)), (3, .int (k))]) hx hb dX5_heldOn_78 hl (k := 6) rfl (nI_add _ _) (by decide) rfl (fun ls hl => ?_)
                refine lv_goto (tgt := 6) hx hb dX5_heldOn_81 (by decide) ?_
                exact ih_6 (i + 1) ((((40 * x) + i : Nat) : Int))  (by omega) (heldI_take (by omega) (by omega)) (by omega) ls (lv_sub hl [3, 4, 5, 6, 1, 0] rfl)
          · skip
            refine lv_goto (tgt := 78) hx hb dX5_heldOn_48 (by decide) ?_
            refine lv_iinc (v := (nI (i + 1))) (lv' := [(5, .int (nI (i + 1))), (6, .int (nI ((40 * x) + i))), (0, .ref h0), (1, .int (nI (x))), (2, .int (d)), (3, .int (k)), (4, .int (zI (bz)))]) hx hb dX5_heldOn_78 hl (k := 6) rfl (nI_add _ _) (by decide) rfl (fun ls hl => ?_)
            refine lv_goto (tgt := 6) hx hb dX5_heldOn_81 (by decide) ?_
            exact ih_6 (i + 1) (bz)  (by omega) (heldI_keep hI (by omega) (fun q9 => by omega)) (by omega) ls (lv_sub hl [2, 3, 4, 5, 6, 0] rfl)
  exact loop_6 _ (0) ((-1))  (by omega) (heldI_0 _ _ _ _) (Nat.lt_succ_self _) ls (lv_sub hl [2, 3, 4, 5, 1, 0] rfl)
set_option maxHeartbeats 4000000 in
set_option maxRecDepth 100000 in
theorem c_X5_held (l : Launch) (D : va_G) (cy : Nat → ClassId) (sz : Nat) (h0 : Nat) (ad : Nat → Nat) (I : Nat → Int32) (F : Nat → Nat → Int32) (Y : YT) (hM : MR I F Y) (hY : WF Y) (a b v : Int32) : Met l yX5_held wsX5_held ({ frames := 1, cells := 0, slots := 0, locals := 26 } : Room) (va_Pc [.ref h0, .int (a), .int (b), .int (v)] (wB D cy sz (wM cy h0 ad I F))) (va_Qi (fun (r : Int32) (u : (Nat → Int32) × (Nat → Nat → Int32)) => MP r u (sp_held Y a b v)) (fun u t => wE D cy (va_A (wM cy h0 ad I F) sz) (wM cy h0 ad u.1 u.2) t) (va_A (wM cy h0 ad I F) sz)) 0 0 (va_A (wM cy h0 ad I F) sz) := by
  refine Met.ofW (cc := cX5_held) (maxL := 4) (ret := (some .int)) (by decide) rfl ?_
  intro p e s m args below meth c s₁ B hml hv
  obtain ⟨rfl, hsz, hP, hK, hD0⟩ := hv
  have hx := B.exec
  have hb := B.bytes
  have hr := B.returns
  have hts := atoms_spec (ws := wsX5_held) B.pre
  have hown : s.vm.findClass RX5 = some m.cls := findClass_of_methodNamed B.named
  have hlocks := B.notSynchronized
  subst hsz
  have hD := hD0.self (sz := s.heap.size)
  generalize hAe : va_A (wM cy h0 ad I F) s.heap.size = A at hD ⊢
  have hA : ∀ q : Nat, s.heap.size ≤ q → A q := w_A hAe
  have hS : va_S A s.heap s.heap [] := va_S.rf
  have hl := lv_entry ([.ref h0, .int (a), .int (b), .int (v)]) (n := 4) (Nat.le_of_ble_eq_true rfl)
  rw [lg_entry_eq]
  generalize (lg_sl ([.ref h0, .int (a), .int (b), .int (v)]) ++ List.replicate (4 - (lg_sl ([.ref h0, .int (a), .int (b), .int (v)])).length) Slot.unset).toArray = ls at hl ⊢
  have hl : lv_has ls 4 [(0, .ref h0), (1, .int (a)), (2, .int (b)), (3, .int (v))] := hl
  obtain ⟨hm1, hm2, hm3, hm4, hmF, hmB, hmC, hmR, hmW⟩ := id hM
  obtain ⟨hy0, hyF, hyB, hyC, hyf, hyb, hyc, hyr, hyw⟩ := id hY
  have hxa := ix_m a
  have hxb := ix_m b
  have hxv := ix_m v
  refine lv_aload_n hx hb dX5_held_0 rfl (lv_at hl 0 rfl) ?_
  refine lv_iconst (v := (nI (0))) hx hb dX5_held_1 (by decide) ?_
  refine va_put (D := D) (ci := 5) (v := .int (nI (0))) (ty := .int) (C := RX5) (T := TX5) (N := 34) hx hb hts (by decide +kernel) tyX5 tyX5_ok nmX5 hown hK hP hD hS 0 rfl rfl 0 (by decide) (hts (.fieldLink RX5 83 "CaskYardModel" "code" "I") (by decide +kernel)) (fun _ h9 => h9) rfl (by decide +kernel) rfl rfl (Nat.le_of_ble_eq_true rfl) dX5_held_2 (fun H locs hP hD hS => ?_)
  have hP : va_P D vwCl (wM cy h0 ad (va_up I 0 (nI (0))) F) H := hP
  have hD : va_D A (wM cy h0 ad (va_up I 0 (nI (0))) F) := hD
  refine lv_aload_n hx hb dX5_held_5 rfl (lv_at hl 0 rfl) ?_
  refine lv_iload_n hx hb dX5_held_6 rfl (lv_at hl 1 rfl) ?_
  refine vp_callSi (va_Run.run (va_runV (As := [.int (a)]) (rest := []) ⟨hx, hb, hml, hown, hts⟩ (c_X5_isCask l D cy h0 ad (va_up I 0 (nI (0))) F (a) (yC Y) (hm3) (by omega)) (cwV 1 hts gX5_held_X5_isCask rfl rfl rfl (by decide +kernel) ⟨Nat.le_of_ble_eq_true rfl, Nat.le_of_ble_eq_true rfl⟩) ⟨rB_blind, va_recv hK hP (ci := 5) (q0 := 0) rfl rfl, (rB_pre hP hK)⟩ rfl rfl hl.1 rfl (lv_room (Nat.le_of_ble_eq_true rfl)) dX5_held_7 ⟨Nat.le_of_ble_eq_true rfl, Nat.le_of_ble_eq_true rfl⟩)) (fun r_7 hr_7 => ?_)
  subst hr_7
  refine g_ifeq_b (tgt := 23) hx hb dX5_held_10 (by decide) (fun c_10 => ?_) (fun c_10 => ?_)
  · skip
    refine lv_aload_n hx hb dX5_held_23 rfl (lv_at hl 0 rfl) ?_
    refine lv_iconst (v := (nI (1))) hx hb dX5_held_24 (by decide) ?_
    have hFc := w_free hD hS hA
    refine va_calli (va_runV (As := [.int (nI (1))]) (rest := []) ⟨hx, hb, hml, hown, hts⟩ (c_X5_fail l D cy H.size h0 ad (va_up I 0 (nI (0))) F (nI (1))) (cwV 1 hts gX5_held_X5_fail rfl rfl rfl (by decide +kernel) ⟨Nat.le_of_ble_eq_true rfl, Nat.le_of_ble_eq_true rfl⟩) ⟨wB_blind, va_recv hK hP (ci := 5) (q0 := 0) rfl rfl, wB_pre hP hK hD⟩ rfl rfl hl.1 rfl (lv_room (Nat.le_of_ble_eq_true rfl)) dX5_held_25 ⟨Nat.le_of_ble_eq_true rfl, Nat.le_of_ble_eq_true rfl⟩) hS (fun q _ h => hFc q h) hFc (fun r_25 u_25 t H locs ht hvm hw_25 hB _ _ hS => ?_)
    obtain ⟨I_25, F_25⟩ := u_25
    obtain ⟨hP1, hK1, hD1⟩ := hB
    rw [ht] at hP1
    dsimp only at hP1 hD1 hw_25
    obtain ⟨hw_25, hu_25⟩ := hw_25
    rw [(Prod.mk.inj hu_25).1, (Prod.mk.inj hu_25).2] at hP1 hD1
    have hP := hP1
    have hD := hD1.weaken (fun _ _ _ h => hFc _ h)
    have hP : va_P D vwCl (wM cy h0 ad (va_up I 0 (nI (1))) F) H := hP
    have hD : va_D A (wM cy h0 ad (va_up I 0 (nI (1))) F) := hD
    refine g_top (y := (nI (0))) (hw_25) ?_
    exact W.iret (v := (nI (0))) hx hb hr (fun t ht hW => ⟨⟨_, ((va_up I 0 (nI (1))), F), rfl, by rw [sp_held, if_neg (by omega)]; exact MP_t rfl hM, by rw [ht]; exact hP, va_K.moved hW.alike hK, hD⟩, hS.F ht⟩) hS.2.2 dX5_held_28
  · skip
    have h_a := ix_n (a := a) (by omega)
    have hic : ix a < yC Y := by omega
    have hl : lv_has ls 4 [(0, .ref h0), (1, .int (nI (ix a))), (2, .int (b)), (3, .int (v))] := by rw [← h_a]; exact hl
    refine lv_aload_n hx hb dX5_held_13 rfl (lv_at hl 0 rfl) ?_
    refine lv_iload_n hx hb dX5_held_14 rfl (lv_at hl 1 rfl) ?_
    refine lv_iload_n hx hb dX5_held_15 rfl (lv_at hl 2 rfl) ?_
    refine lv_iload_n hx hb dX5_held_16 rfl (lv_at hl 3 rfl) ?_
    refine vp_callSi (va_Run.run (va_runV (As := [.int (nI (ix a)), .int (b), .int (v)]) (rest := []) ⟨hx, hb, hml, hown, hts⟩ (c_X5_heldOn l D cy h0 ad (va_up I 0 (nI (0))) F (ix a) (Nat.lt_of_lt_of_le hic hyC) (yE Y (ix a)) (b) (v) ((hmC (ix a) hic).2.1) ((hmC (ix a) hic).2.2.1) ((hyc (ix a) hic).2.1) (fun q h => by have := (hyc (ix a) hic).2.2.1 q h; omega)) (cwV 3 hts gX5_held_X5_heldOn rfl rfl rfl (by decide +kernel) ⟨Nat.le_of_ble_eq_true rfl, Nat.le_of_ble_eq_true rfl⟩) ⟨rB_blind, va_recv hK hP (ci := 5) (q0 := 0) rfl rfl, (rB_pre hP hK)⟩ rfl rfl hl.1 rfl (lv_room (Nat.le_of_ble_eq_true rfl)) dX5_held_17 ⟨Nat.le_of_ble_eq_true rfl, Nat.le_of_ble_eq_true rfl⟩)) (fun r_17 hr_17 => ?_)
    subst hr_17
    refine lv_goto (tgt := 28) hx hb dX5_held_20 (by decide) ?_
    exact W.iret (v := (zI ((heldS (yE Y (ix a)) (b).toInt (v).toInt).2))) hx hb hr (fun t ht hW => ⟨⟨_, ((va_up I 0 (nI (0))), F), rfl, by rw [sp_held, if_pos (by omega)]; exact ⟨rfl, fun _ => rfl, hM⟩, by rw [ht]; exact hP, va_K.moved hW.alike hK, hD⟩, hS.F ht⟩) hS.2.2 dX5_held_28
set_option maxHeartbeats 4000000 in
set_option maxRecDepth 100000 in
theorem c_X5_lacks (l : Launch) (D : va_G) (cy : Nat → ClassId) (sz : Nat) (h0 : Nat) (ad : Nat → Nat) (I : Nat → Int32) (F : Nat → Nat → Int32) (Y : YT) (hM : MR I F Y) (hY : WF Y) (a b v d : Int32) : Met l yX5_lacks wsX5_lacks ({ frames := 1, cells := 0, slots := 0, locals := 26 } : Room) (va_Pc [.ref h0, .int (a), .int (b), .int (v), .int (d)] (wB D cy sz (wM cy h0 ad I F))) (va_Qi (fun (r : Int32) (u : (Nat → Int32) × (Nat → Nat → Int32)) => MP r u (sp_lacks Y a b v d)) (fun u t => wE D cy (va_A (wM cy h0 ad I F) sz) (wM cy h0 ad u.1 u.2) t) (va_A (wM cy h0 ad I F) sz)) 0 0 (va_A (wM cy h0 ad I F) sz) := by
  refine Met.ofW (cc := cX5_lacks) (maxL := 7) (ret := (some .int)) (by decide) rfl ?_
  intro p e s m args below meth c s₁ B hml hv
  obtain ⟨rfl, hsz, hP, hK, hD0⟩ := hv
  have hx := B.exec
  have hb := B.bytes
  have hr := B.returns
  have hts := atoms_spec (ws := wsX5_lacks) B.pre
  have hown : s.vm.findClass RX5 = some m.cls := findClass_of_methodNamed B.named
  have hlocks := B.notSynchronized
  subst hsz
  have hD := hD0.self (sz := s.heap.size)
  generalize hAe : va_A (wM cy h0 ad I F) s.heap.size = A at hD ⊢
  have hA : ∀ q : Nat, s.heap.size ≤ q → A q := w_A hAe
  have hS : va_S A s.heap s.heap [] := va_S.rf
  have hl := lv_entry ([.ref h0, .int (a), .int (b), .int (v), .int (d)]) (n := 7) (Nat.le_of_ble_eq_true rfl)
  rw [lg_entry_eq]
  generalize (lg_sl ([.ref h0, .int (a), .int (b), .int (v), .int (d)]) ++ List.replicate (7 - (lg_sl ([.ref h0, .int (a), .int (b), .int (v), .int (d)])).length) Slot.unset).toArray = ls at hl ⊢
  have hl : lv_has ls 7 [(0, .ref h0), (1, .int (a)), (2, .int (b)), (3, .int (v)), (4, .int (d))] := hl
  obtain ⟨hm1, hm2, hm3, hm4, hmF, hmB, hmC, hmR, hmW⟩ := id hM
  obtain ⟨hy0, hyF, hyB, hyC, hyf, hyb, hyc, hyr, hyw⟩ := id hY
  have hxa := ix_m a
  have hxb := ix_m b
  have hxv := ix_m v
  have hxd := ix_m d
  refine lv_aload_n hx hb dX5_lacks_0 rfl (lv_at hl 0 rfl) ?_
  refine lv_iconst (v := (nI (0))) hx hb dX5_lacks_1 (by decide) ?_
  refine va_put (D := D) (ci := 5) (v := .int (nI (0))) (ty := .int) (C := RX5) (T := TX5) (N := 34) hx hb hts (by decide +kernel) tyX5 tyX5_ok nmX5 hown hK hP hD hS 0 rfl rfl 0 (by decide) (hts (.fieldLink RX5 83 "CaskYardModel" "code" "I") (by decide +kernel)) (fun _ h9 => h9) rfl (by decide +kernel) rfl rfl (Nat.le_of_ble_eq_true rfl) dX5_lacks_2 (fun H locs hP hD hS => ?_)
  have hP : va_P D vwCl (wM cy h0 ad (va_up I 0 (nI (0))) F) H := hP
  have hD : va_D A (wM cy h0 ad (va_up I 0 (nI (0))) F) := hD
  refine lv_aload_n hx hb dX5_lacks_5 rfl (lv_at hl 0 rfl) ?_
  refine lv_iload_n hx hb dX5_lacks_6 rfl (lv_at hl 1 rfl) ?_
  refine vp_callSi (va_Run.run (va_runV (As := [.int (a)]) (rest := []) ⟨hx, hb, hml, hown, hts⟩ (c_X5_isCask l D cy h0 ad (va_up I 0 (nI (0))) F (a) (yC Y) (hm3) (by omega)) (cwV 1 hts gX5_lacks_X5_isCask rfl rfl rfl (by decide +kernel) ⟨Nat.le_of_ble_eq_true rfl, Nat.le_of_ble_eq_true rfl⟩) ⟨rB_blind, va_recv hK hP (ci := 5) (q0 := 0) rfl rfl, (rB_pre hP hK)⟩ rfl rfl hl.1 rfl (lv_room (Nat.le_of_ble_eq_true rfl)) dX5_lacks_7 ⟨Nat.le_of_ble_eq_true rfl, Nat.le_of_ble_eq_true rfl⟩)) (fun r_7 hr_7 => ?_)
  subst hr_7
  refine g_ifne_b (tgt := 19) hx hb dX5_lacks_10 (by decide) (fun c_10 => ?_) (fun c_10 => ?_)
  · skip
    have h_a := ix_n (a := a) (by omega)
    have hic : ix a < yC Y := by omega
    have hl : lv_has ls 7 [(0, .ref h0), (1, .int (nI (ix a))), (2, .int (b)), (3, .int (v)), (4, .int (d))] := by rw [← h_a]; exact hl
    refine lv_iload_n hx hb dX5_lacks_19 rfl (lv_at hl 2 rfl) ?_
    refine g_if_lt (tgt := 45) hx hb dX5_lacks_20 (by decide) rfl (fun c_20 => ?_) (fun c_20 => ?_)
    · skip
      refine lv_aload_n hx hb dX5_lacks_45 rfl (lv_at hl 0 rfl) ?_
      refine lv_iconst (v := (nI (2))) hx hb dX5_lacks_46 (by decide) ?_
      have hFc := w_free hD hS hA
      refine va_calli (va_runV (As := [.int (nI (2))]) (rest := []) ⟨hx, hb, hml, hown, hts⟩ (c_X5_fail l D cy H.size h0 ad (va_up I 0 (nI (0))) F (nI (2))) (cwV 1 hts gX5_lacks_X5_fail rfl rfl rfl (by decide +kernel) ⟨Nat.le_of_ble_eq_true rfl, Nat.le_of_ble_eq_true rfl⟩) ⟨wB_blind, va_recv hK hP (ci := 5) (q0 := 0) rfl rfl, wB_pre hP hK hD⟩ rfl rfl hl.1 rfl (lv_room (Nat.le_of_ble_eq_true rfl)) dX5_lacks_47 ⟨Nat.le_of_ble_eq_true rfl, Nat.le_of_ble_eq_true rfl⟩) hS (fun q _ h => hFc q h) hFc (fun r_47 u_47 t H locs ht hvm hw_47 hB _ _ hS => ?_)
      obtain ⟨I_47, F_47⟩ := u_47
      obtain ⟨hP1, hK1, hD1⟩ := hB
      rw [ht] at hP1
      dsimp only at hP1 hD1 hw_47
      obtain ⟨hw_47, hu_47⟩ := hw_47
      rw [(Prod.mk.inj hu_47).1, (Prod.mk.inj hu_47).2] at hP1 hD1
      have hP := hP1
      have hD := hD1.weaken (fun _ _ _ h => hFc _ h)
      have hP : va_P D vwCl (wM cy h0 ad (va_up I 0 (nI (2))) F) H := hP
      have hD : va_D A (wM cy h0 ad (va_up I 0 (nI (2))) F) := hD
      refine g_top (y := (nI (0))) (hw_47) ?_
      exact W.iret (v := (nI (0))) hx hb hr (fun t ht hW => ⟨⟨_, ((va_up I 0 (nI (2))), F), rfl, by rw [sp_lacks, if_pos (by omega), if_neg (by omega)]; exact MP_t rfl hM, by rw [ht]; exact hP, va_K.moved hW.alike hK, hD⟩, hS.F ht⟩) hS.2.2 dX5_lacks_50
    · skip
      refine lv_iload_n hx hb dX5_lacks_23 rfl (lv_at hl 3 rfl) ?_
      refine lv_iload_n hx hb dX5_lacks_24 rfl (lv_at hl 2 rfl) ?_
      refine g_icmp_lt (tgt := 45) hx hb dX5_lacks_25 (by decide) rfl rfl (fun c_25 => ?_) (fun c_25 => ?_)
      · skip
        refine lv_aload_n hx hb dX5_lacks_45 rfl (lv_at hl 0 rfl) ?_
        refine lv_iconst (v := (nI (2))) hx hb dX5_lacks_46 (by decide) ?_
        have hFc := w_free hD hS hA
        refine va_calli (va_runV (As := [.int (nI (2))]) (rest := []) ⟨hx, hb, hml, hown, hts⟩ (c_X5_fail l D cy H.size h0 ad (va_up I 0 (nI (0))) F (nI (2))) (cwV 1 hts gX5_lacks_X5_fail rfl rfl rfl (by decide +kernel) ⟨Nat.le_of_ble_eq_true rfl, Nat.le_of_ble_eq_true rfl⟩) ⟨wB_blind, va_recv hK hP (ci := 5) (q0 := 0) rfl rfl, wB_pre hP hK hD⟩ rfl rfl hl.1 rfl (lv_room (Nat.le_of_ble_eq_true rfl)) dX5_lacks_47 ⟨Nat.le_of_ble_eq_true rfl, Nat.le_of_ble_eq_true rfl⟩) hS (fun q _ h => hFc q h) hFc (fun r_47 u_47 t H locs ht hvm hw_47 hB _ _ hS => ?_)
        obtain ⟨I_47, F_47⟩ := u_47
        obtain ⟨hP1, hK1, hD1⟩ := hB
        rw [ht] at hP1
        dsimp only at hP1 hD1 hw_47
        obtain ⟨hw_47, hu_47⟩ := hw_47
        rw [(Prod.mk.inj hu_47).1, (Prod.mk.inj hu_47).2] at hP1 hD1
        have hP := hP1
        have hD := hD1.weaken (fun _ _ _ h => hFc _ h)
        have hP : va_P D vwCl (wM cy h0 ad (va_up I 0 (nI (2))) F) H := hP
        have hD : va_D A (wM cy h0 ad (va_up I 0 (nI (2))) F) := hD
        refine g_top (y := (nI (0))) (hw_47) ?_
        exact W.iret (v := (nI (0))) hx hb hr (fun t ht hW => ⟨⟨_, ((va_up I 0 (nI (2))), F), rfl, by rw [sp_lacks, if_pos (by omega), if_neg (by omega)]; exact MP_t rfl hM, by rw [ht]; exact hP, va_K.moved hW.alike hK, hD⟩, hS.F ht⟩) hS.2.2 dX5_lacks_50
      · skip
        have h_b := ix_n (a := b) (by omega)
        have hl : lv_has ls 7 [(0, .ref h0), (1, .int (nI (ix a))), (2, .int (nI (ix b))), (3, .int (v)), (4, .int (d))] := by rw [← h_b]; exact hl
        refine lv_iload_n hx hb dX5_lacks_28 rfl (lv_at hl 3 rfl) ?_
        refine lv_ldc hx hb hown (hts (.constant RX5 212 (100000)) (by decide +kernel)) dX5_lacks_29 ?_
        refine g_top (y := (nI (100000))) (by decide) ?_
        refine g_icmp_gt (tgt := 45) hx hb dX5_lacks_31 (by decide) rfl (n_i (by omega)) (fun c_31 => ?_) (fun c_31 => ?_)
        · skip
          refine lv_aload_n hx hb dX5_lacks_45 rfl (lv_at hl 0 rfl) ?_
          refine lv_iconst (v := (nI (2))) hx hb dX5_lacks_46 (by decide) ?_
          have hFc := w_free hD hS hA
          refine va_calli (va_runV (As := [.int (nI (2))]) (rest := []) ⟨hx, hb, hml, hown, hts⟩ (c_X5_fail l D cy H.size h0 ad (va_up I 0 (nI (0))) F (nI (2))) (cwV 1 hts gX5_lacks_X5_fail rfl rfl rfl (by decide +kernel) ⟨Nat.le_of_ble_eq_true rfl, Nat.le_of_ble_eq_true rfl⟩) ⟨wB_blind, va_recv hK hP (ci := 5) (q0 := 0) rfl rfl, wB_pre hP hK hD⟩ rfl rfl hl.1 rfl (lv_room (Nat.le_of_ble_eq_true rfl)) dX5_lacks_47 ⟨Nat.le_of_ble_eq_true rfl, Nat.le_of_ble_eq_true rfl⟩) hS (fun q _ h => hFc q h) hFc (fun r_47 u_47 t H locs ht hvm hw_47 hB _ _ hS => ?_)
          obtain ⟨I_47, F_47⟩ := u_47
          obtain ⟨hP1, hK1, hD1⟩ := hB
          rw [ht] at hP1
          dsimp only at hP1 hD1 hw_47
          obtain ⟨hw_47, hu_47⟩ := hw_47
          rw [(Prod.mk.inj hu_47).1, (Prod.mk.inj hu_47).2] at hP1 hD1
          have hP := hP1
          have hD := hD1.weaken (fun _ _ _ h => hFc _ h)
          have hP : va_P D vwCl (wM cy h0 ad (va_up I 0 (nI (2))) F) H := hP
          have hD : va_D A (wM cy h0 ad (va_up I 0 (nI (2))) F) := hD
          refine g_top (y := (nI (0))) (hw_47) ?_
          exact W.iret (v := (nI (0))) hx hb hr (fun t ht hW => ⟨⟨_, ((va_up I 0 (nI (2))), F), rfl, by rw [sp_lacks, if_pos (by omega), if_neg (by omega)]; exact MP_t rfl hM, by rw [ht]; exact hP, va_K.moved hW.alike hK, hD⟩, hS.F ht⟩) hS.2.2 dX5_lacks_50
        · skip
          have h_v := ix_n (a := v) (by omega)
          have hl : lv_has ls 7 [(0, .ref h0), (1, .int (nI (ix a))), (2, .int (nI (ix b))), (3, .int (nI (ix v))), (4, .int (d))] := by rw [← h_v]; exact hl
          refine lv_iload hx hb dX5_lacks_34 (lv_at hl 4 rfl) ?_
          refine g_if_lt (tgt := 45) hx hb dX5_lacks_36 (by decide) rfl (fun c_36 => ?_) (fun c_36 => ?_)
          · skip
            refine lv_aload_n hx hb dX5_lacks_45 rfl (lv_at hl 0 rfl) ?_
            refine lv_iconst (v := (nI (2))) hx hb dX5_lacks_46 (by decide) ?_
            have hFc := w_free hD hS hA
            refine va_calli (va_runV (As := [.int (nI (2))]) (rest := []) ⟨hx, hb, hml, hown, hts⟩ (c_X5_fail l D cy H.size h0 ad (va_up I 0 (nI (0))) F (nI (2))) (cwV 1 hts gX5_lacks_X5_fail rfl rfl rfl (by decide +kernel) ⟨Nat.le_of_ble_eq_true rfl, Nat.le_of_ble_eq_true rfl⟩) ⟨wB_blind, va_recv hK hP (ci := 5) (q0 := 0) rfl rfl, wB_pre hP hK hD⟩ rfl rfl hl.1 rfl (lv_room (Nat.le_of_ble_eq_true rfl)) dX5_lacks_47 ⟨Nat.le_of_ble_eq_true rfl, Nat.le_of_ble_eq_true rfl⟩) hS (fun q _ h => hFc q h) hFc (fun r_47 u_47 t H locs ht hvm hw_47 hB _ _ hS => ?_)
            obtain ⟨I_47, F_47⟩ := u_47
            obtain ⟨hP1, hK1, hD1⟩ := hB
            rw [ht] at hP1
            dsimp only at hP1 hD1 hw_47
            obtain ⟨hw_47, hu_47⟩ := hw_47
            rw [(Prod.mk.inj hu_47).1, (Prod.mk.inj hu_47).2] at hP1 hD1
            have hP := hP1
            have hD := hD1.weaken (fun _ _ _ h => hFc _ h)
            have hP : va_P D vwCl (wM cy h0 ad (va_up I 0 (nI (2))) F) H := hP
            have hD : va_D A (wM cy h0 ad (va_up I 0 (nI (2))) F) := hD
            refine g_top (y := (nI (0))) (hw_47) ?_
            exact W.iret (v := (nI (0))) hx hb hr (fun t ht hW => ⟨⟨_, ((va_up I 0 (nI (2))), F), rfl, by rw [sp_lacks, if_pos (by omega), if_neg (by omega)]; exact MP_t rfl hM, by rw [ht]; exact hP, va_K.moved hW.alike hK, hD⟩, hS.F ht⟩) hS.2.2 dX5_lacks_50
          · skip
            refine lv_iload hx hb dX5_lacks_39 (lv_at hl 4 rfl) ?_
            refine lv_iconst (v := (nI (1))) hx hb dX5_lacks_41 (by decide) ?_
            refine g_icmp_le (tgt := 51) hx hb dX5_lacks_42 (by decide) rfl (n_i (by omega)) (fun c_42 => ?_) (fun c_42 => ?_)
            · skip
              have h_d := ix_n (a := d) (by omega)
              obtain ⟨zz, hzz⟩ : ∃ z : Int, z = (if ix d = 0 then -1 else 16) := ⟨_, rfl⟩
              have hbb := ((hyc (ix a) hic).2.2.1)
              have hk16 : ∀ q ∈ yE Y (ix a), q.2.2 ≤ 16 := fun q h => (hbb q h).2.2
              have hl : lv_has ls 7 [(0, .ref h0), (1, .int (nI (ix a))), (2, .int (nI (ix b))), (3, .int (nI (ix v))), (4, .int (nI (ix d)))] := by rw [← h_d]; exact hl
              refine lv_iconst (v := (nI (0))) hx hb dX5_lacks_51 (by decide) ?_
              refine lv_istore (lv' := [(5, .int (nI (0))), (0, .ref h0), (1, .int (nI (ix a))), (2, .int (nI (ix b))), (3, .int (nI (ix v))), (4, .int (nI (ix d)))]) hx hb dX5_lacks_52 hl (by decide) rfl (fun ls hl => ?_)
              refine lv_iload_n hx hb dX5_lacks_54 rfl (lv_at hl 3 rfl) ?_
              refine lv_istore (lv' := [(6, .int (nI (ix b))), (5, .int (nI (0))), (0, .ref h0), (1, .int (nI (ix a))), (2, .int (nI (ix b))), (3, .int (nI (ix v))), (4, .int (nI (ix d)))]) hx hb dX5_lacks_55 hl (by decide) rfl (fun ls hl => ?_)
              have loop_57 : ∀ (n_ : Nat) (n : Nat) (x : Nat), (x ≤ ix v + 1) → (n ≤ 100001 - (ix v + 1 - x)) → (lackN (yE Y (ix a)) (yNow Y : Int) zz (ix b) (ix v + 1 - ix b) = n + lackN (yE Y (ix a)) (yNow Y : Int) zz x (ix v + 1 - x)) → ix v + 1 - x < n_ → ∀ (ls : Array Slot), lv_has ls 7 [(0, .ref h0), (1, .int (nI (ix a))), (2, .int (nI (ix b))), (3, .int (nI (ix v))), (4, .int (nI (ix d))), (5, .int (nI (n))), (6, .int (nI (x)))] → W p l e (headSpec wsX5_lacks ({ frames := 1, cells := 0, slots := 0, locals := 26 } : Room)).room s m ([.ref h0, .int (a), .int (b), .int (v), .int (d)] : List Value).toArray below meth c H locs 0 0 (MQ below (va_Qi (fun (r : Int32) (u : (Nat → Int32) × (Nat → Nat → Int32)) => MP r u (sp_lacks Y a b v d)) (fun u t => wE D cy A (wM cy h0 ad u.1 u.2) t) A) ([.ref h0, .int (a), .int (b), .int (v), .int (d)] : List Value).toArray s 0 0 A) (F0 m 57 ls []) := by
                intro n_
                induction n_ with
                | zero => intro n x hx1 hn hcnt hm_; exact absurd hm_ (Nat.not_lt_zero _)
                | succ n_ ih_57 =>
                  intro n x hx1 hn hcnt hm_ ls hl
                  refine lv_iload hx hb dX5_lacks_57 (lv_at hl 6 rfl) ?_
                  refine lv_iload_n hx hb dX5_lacks_59 rfl (lv_at hl 3 rfl) ?_
                  refine g_icmp_gt (tgt := 104) hx hb dX5_lacks_60 (by decide) (n_i (by omega)) (n_i (by omega)) (fun c_60 => ?_) (fun c_60 => ?_)
                  · skip
                    refine lv_iload hx hb dX5_lacks_104 (lv_at hl 5 rfl) ?_
                    exact W.iret (v := (nI (n))) hx hb hr (fun t ht hW => ⟨⟨_, ((va_up I 0 (nI (0))), F), rfl, by rw [sp_lacks, if_pos (by omega), if_pos (by omega)]; exact ⟨rfl, fun _ => congrArg nI (by rw [← hzz, show ix v - ix b + 1 = ix v + 1 - ix b by omega, hcnt, show ix v + 1 - x = 0 by omega]; rfl), hM⟩, by rw [ht]; exact hP, va_K.moved hW.alike hK, hD⟩, hS.F ht⟩) hS.2.2 dX5_lacks_106
                  · skip
                    refine lv_iload hx hb dX5_lacks_63 (lv_at hl 5 rfl) ?_
                    refine lv_aload_n hx hb dX5_lacks_65 rfl (lv_at hl 0 rfl) ?_
                    refine lv_iload_n hx hb dX5_lacks_66 rfl (lv_at hl 1 rfl) ?_
                    refine lv_iload hx hb dX5_lacks_67 (lv_at hl 6 rfl) ?_
                    refine lv_aload_n hx hb dX5_lacks_69 rfl (lv_at hl 0 rfl) ?_
                    refine va_get (D := D) (ci := 5) (v := .int (I 4)) (C := RX5) (T := TX5) (N := 34) hx hb hts (by decide +kernel) hown hK hP 0 rfl rfl 4 (by decide) (hts (.fieldLink RX5 117 "CaskYardModel" "now" "I") (by decide +kernel)) (fun _ h9 => h9) rfl dX5_lacks_70 ?_
                    refine g_top (y := (nI (yNow Y))) hm4 ?_
                    refine vp_callSi (va_Run.run (va_runV (As := [.int (nI (ix a)), .int (nI (x)), .int (nI (yNow Y))]) (rest := [.int (nI (n))]) ⟨hx, hb, hml, hown, hts⟩ (c_X5_heldOn l D cy h0 ad (va_up I 0 (nI (0))) F (ix a) (Nat.lt_of_lt_of_le hic hyC) (yE Y (ix a)) (nI (x)) (nI (yNow Y)) ((hmC (ix a) hic).2.1) ((hmC (ix a) hic).2.2.1) ((hyc (ix a) hic).2.1) (fun q h => by have := (hyc (ix a) hic).2.2.1 q h; omega)) (cwV 3 hts gX5_lacks_X5_heldOn rfl rfl rfl (by decide +kernel) ⟨Nat.le_of_ble_eq_true rfl, Nat.le_of_ble_eq_true rfl⟩) ⟨rB_blind, va_recv hK hP (ci := 5) (q0 := 0) rfl rfl, (rB_pre hP hK)⟩ rfl rfl hl.1 rfl (lv_room (Nat.le_of_ble_eq_true rfl)) dX5_lacks_73 ⟨Nat.le_of_ble_eq_true rfl, Nat.le_of_ble_eq_true rfl⟩)) (fun r_73 hr_73 => ?_)
                    refine g_top (y := (zI ((heldS (yE Y (ix a)) (x : Int) (yNow Y : Int)).2))) (by rw [hr_73, n_i (by omega), n_i (by omega)]) ?_
                    have hhb := heldS_bd hk16 (x : Int) (yNow Y : Int)
                    refine lv_iload hx hb dX5_lacks_76 (lv_at hl 4 rfl) ?_
                    refine g_if_ne (tgt := 85) hx hb dX5_lacks_78 (by decide) (n_i (by omega)) (fun c_78 => ?_) (fun c_78 => ?_)
                    · skip
                      have hz9 : zz = 16 := by rw [hzz, if_neg (by omega)]
                      refine lv_bipush (v := (nI (16))) hx hb dX5_lacks_85 (by decide) ?_
                      refine g_icmp_ne (tgt := 94) hx hb dX5_lacks_87 (by decide) (zI_toInt (by omega) (by omega)) (n_i (by omega)) (fun c_87 => ?_) (fun c_87 => ?_)
                      · skip
                        refine lv_iconst (v := (nI (0))) hx hb dX5_lacks_94 (by decide) ?_
                        refine g_iadd_n hx hb dX5_lacks_95 ?_
                        refine lv_istore (lv' := [(5, .int (nI (n + 0))), (0, .ref h0), (1, .int (nI (ix a))), (2, .int (nI (ix b))), (3, .int (nI (ix v))), (4, .int (nI (ix d))), (6, .int (nI (x)))]) hx hb dX5_lacks_96 hl (by decide) rfl (fun ls hl => ?_)
                        refine lv_iinc (v := (nI (x + 1))) (lv' := [(6, .int (nI (x + 1))), (5, .int (nI (n + 0))), (0, .ref h0), (1, .int (nI (ix a))), (2, .int (nI (ix b))), (3, .int (nI (ix v))), (4, .int (nI (ix d)))]) hx hb dX5_lacks_98 hl (k := 6) rfl (nI_add _ _) (by decide) rfl (fun ls hl => ?_)
                        refine lv_goto (tgt := 57) hx hb dX5_lacks_101 (by decide) ?_
                        exact ih_57 (n + 0) (x + 1)  (by omega) (by omega) (by have h8 := lackN_s (yE Y (ix a)) (yNow Y : Int) zz (x := x) (y := ix v) (by omega); rw [if_neg (by omega)] at h8; omega) (by omega) ls (lv_sub hl [2, 3, 4, 5, 6, 1, 0] rfl)
                      · skip
                        refine lv_iconst (v := (nI (1))) hx hb dX5_lacks_90 (by decide) ?_
                        refine lv_goto (tgt := 95) hx hb dX5_lacks_91 (by decide) ?_
                        refine g_iadd_n hx hb dX5_lacks_95 ?_
                        refine lv_istore (lv' := [(5, .int (nI (n + 1))), (0, .ref h0), (1, .int (nI (ix a))), (2, .int (nI (ix b))), (3, .int (nI (ix v))), (4, .int (nI (ix d))), (6, .int (nI (x)))]) hx hb dX5_lacks_96 hl (by decide) rfl (fun ls hl => ?_)
                        refine lv_iinc (v := (nI (x + 1))) (lv' := [(6, .int (nI (x + 1))), (5, .int (nI (n + 1))), (0, .ref h0), (1, .int (nI (ix a))), (2, .int (nI (ix b))), (3, .int (nI (ix v))), (4, .int (nI (ix d)))]) hx hb dX5_lacks_98 hl (k := 6) rfl (nI_add _ _) (by decide) rfl (fun ls hl => ?_)
                        refine lv_goto (tgt := 57) hx hb dX5_lacks_101 (by decide) ?_
                        exact ih_57 (n + 1) (x + 1)  (by omega) (by omega) (by have h8 := lackN_s (yE Y (ix a)) (yNow Y : Int) zz (x := x) (y := ix v) (by omega); rw [if_pos (by omega)] at h8; omega) (by omega) ls (lv_sub hl [2, 3, 4, 5, 6, 1, 0] rfl)
                    · skip
                      have hz9 : zz = -1 := by rw [hzz, if_pos (by omega)]
                      refine lv_iconst (v := (zI ((-1)))) hx hb dX5_lacks_81 (by decide) ?_
                      refine lv_goto (tgt := 87) hx hb dX5_lacks_82 (by decide) ?_
                      refine g_icmp_ne (tgt := 94) hx hb dX5_lacks_87 (by decide) (zI_toInt (by omega) (by omega)) (zI_toInt (by omega) (by omega)) (fun c_87 => ?_) (fun c_87 => ?_)
                      · skip
                        refine lv_iconst (v := (nI (0))) hx hb dX5_lacks_94 (by decide) ?_
                        refine g_iadd_n hx hb dX5_lacks_95 ?_
                        refine lv_istore (lv' := [(5, .int (nI (n + 0))), (0, .ref h0), (1, .int (nI (ix a))), (2, .int (nI (ix b))), (3, .int (nI (ix v))), (4, .int (nI (ix d))), (6, .int (nI (x)))]) hx hb dX5_lacks_96 hl (by decide) rfl (fun ls hl => ?_)
                        refine lv_iinc (v := (nI (x + 1))) (lv' := [(6, .int (nI (x + 1))), (5, .int (nI (n + 0))), (0, .ref h0), (1, .int (nI (ix a))), (2, .int (nI (ix b))), (3, .int (nI (ix v))), (4, .int (nI (ix d)))]) hx hb dX5_lacks_98 hl (k := 6) rfl (nI_add _ _) (by decide) rfl (fun ls hl => ?_)
                        refine lv_goto (tgt := 57) hx hb dX5_lacks_101 (by decide) ?_
                        exact ih_57 (n + 0) (x + 1)  (by omega) (by omega) (by have h8 := lackN_s (yE Y (ix a)) (yNow Y : Int) zz (x := x) (y := ix v) (by omega); rw [if_neg (by omega)] at h8; omega) (by omega) ls (lv_sub hl [2, 3, 4, 5, 6, 1, 0] rfl)
                      · skip
                        refine lv_iconst (v := (nI (1))) hx hb dX5_lacks_90 (by decide) ?_
                        refine lv_goto (tgt := 95) hx hb dX5_lacks_91 (by decide) ?_
                        refine g_iadd_n hx hb dX5_lacks_95 ?_
                        refine lv_istore (lv' := [(5, .int (nI (n + 1))), (0, .ref h0), (1, .int (nI (ix a))), (2, .int (nI (ix b))), (3, .int (nI (ix v))), (4, .int (nI (ix d))), (6, .int (nI (x)))]) hx hb dX5_lacks_96 hl (by decide) rfl (fun ls hl => ?_)
                        refine lv_iinc (v := (nI (x + 1))) (lv' := [(6, .int (nI (x + 1))), (5, .int (nI (n + 1))), (0, .ref h0), (1, .int (nI (ix a))), (2, .int (nI (ix b))), (3, .int (nI (ix v))), (4, .int (nI (ix d)))]) hx hb dX5_lacks_98 hl (k := 6) rfl (nI_add _ _) (by decide) rfl (fun ls hl => ?_)
                        refine lv_goto (tgt := 57) hx hb dX5_lacks_101 (by decide) ?_
                        exact ih_57 (n + 1) (x + 1)  (by omega) (by omega) (by have h8 := lackN_s (yE Y (ix a)) (yNow Y : Int) zz (x := x) (y := ix v) (by omega); rw [if_pos (by omega)] at h8; omega) (by omega) ls (lv_sub hl [2, 3, 4, 5, 6, 1, 0] rfl)
              exact loop_57 _ (0) (ix b)  (by omega) (by omega) (by rw [Nat.zero_add]) (Nat.lt_succ_self _) ls (lv_sub hl [2, 3, 4, 5, 6, 1, 0] rfl)
            · skip
              refine lv_aload_n hx hb dX5_lacks_45 rfl (lv_at hl 0 rfl) ?_
              refine lv_iconst (v := (nI (2))) hx hb dX5_lacks_46 (by decide) ?_
              have hFc := w_free hD hS hA
              refine va_calli (va_runV (As := [.int (nI (2))]) (rest := []) ⟨hx, hb, hml, hown, hts⟩ (c_X5_fail l D cy H.size h0 ad (va_up I 0 (nI (0))) F (nI (2))) (cwV 1 hts gX5_lacks_X5_fail rfl rfl rfl (by decide +kernel) ⟨Nat.le_of_ble_eq_true rfl, Nat.le_of_ble_eq_true rfl⟩) ⟨wB_blind, va_recv hK hP (ci := 5) (q0 := 0) rfl rfl, wB_pre hP hK hD⟩ rfl rfl hl.1 rfl (lv_room (Nat.le_of_ble_eq_true rfl)) dX5_lacks_47 ⟨Nat.le_of_ble_eq_true rfl, Nat.le_of_ble_eq_true rfl⟩) hS (fun q _ h => hFc q h) hFc (fun r_47 u_47 t H locs ht hvm hw_47 hB _ _ hS => ?_)
              obtain ⟨I_47, F_47⟩ := u_47
              obtain ⟨hP1, hK1, hD1⟩ := hB
              rw [ht] at hP1
              dsimp only at hP1 hD1 hw_47
              obtain ⟨hw_47, hu_47⟩ := hw_47
              rw [(Prod.mk.inj hu_47).1, (Prod.mk.inj hu_47).2] at hP1 hD1
              have hP := hP1
              have hD := hD1.weaken (fun _ _ _ h => hFc _ h)
              have hP : va_P D vwCl (wM cy h0 ad (va_up I 0 (nI (2))) F) H := hP
              have hD : va_D A (wM cy h0 ad (va_up I 0 (nI (2))) F) := hD
              refine g_top (y := (nI (0))) (hw_47) ?_
              exact W.iret (v := (nI (0))) hx hb hr (fun t ht hW => ⟨⟨_, ((va_up I 0 (nI (2))), F), rfl, by rw [sp_lacks, if_pos (by omega), if_neg (by omega)]; exact MP_t rfl hM, by rw [ht]; exact hP, va_K.moved hW.alike hK, hD⟩, hS.F ht⟩) hS.2.2 dX5_lacks_50
  · skip
    refine lv_aload_n hx hb dX5_lacks_13 rfl (lv_at hl 0 rfl) ?_
    refine lv_iconst (v := (nI (1))) hx hb dX5_lacks_14 (by decide) ?_
    have hFc := w_free hD hS hA
    refine va_calli (va_runV (As := [.int (nI (1))]) (rest := []) ⟨hx, hb, hml, hown, hts⟩ (c_X5_fail l D cy H.size h0 ad (va_up I 0 (nI (0))) F (nI (1))) (cwV 1 hts gX5_lacks_X5_fail rfl rfl rfl (by decide +kernel) ⟨Nat.le_of_ble_eq_true rfl, Nat.le_of_ble_eq_true rfl⟩) ⟨wB_blind, va_recv hK hP (ci := 5) (q0 := 0) rfl rfl, wB_pre hP hK hD⟩ rfl rfl hl.1 rfl (lv_room (Nat.le_of_ble_eq_true rfl)) dX5_lacks_15 ⟨Nat.le_of_ble_eq_true rfl, Nat.le_of_ble_eq_true rfl⟩) hS (fun q _ h => hFc q h) hFc (fun r_15 u_15 t H locs ht hvm hw_15 hB _ _ hS => ?_)
    obtain ⟨I_15, F_15⟩ := u_15
    obtain ⟨hP1, hK1, hD1⟩ := hB
    rw [ht] at hP1
    dsimp only at hP1 hD1 hw_15
    obtain ⟨hw_15, hu_15⟩ := hw_15
    rw [(Prod.mk.inj hu_15).1, (Prod.mk.inj hu_15).2] at hP1 hD1
    have hP := hP1
    have hD := hD1.weaken (fun _ _ _ h => hFc _ h)
    have hP : va_P D vwCl (wM cy h0 ad (va_up I 0 (nI (1))) F) H := hP
    have hD : va_D A (wM cy h0 ad (va_up I 0 (nI (1))) F) := hD
    refine g_top (y := (nI (0))) (hw_15) ?_
    exact W.iret (v := (nI (0))) hx hb hr (fun t ht hW => ⟨⟨_, ((va_up I 0 (nI (1))), F), rfl, by rw [sp_lacks, if_neg (by omega)]; exact MP_t rfl hM, by rw [ht]; exact hP, va_K.moved hW.alike hK, hD⟩, hS.F ht⟩) hS.2.2 dX5_lacks_18
set_option maxHeartbeats 4000000 in
set_option maxRecDepth 100000 in
theorem c_X5_mayIn (l : Launch) (D : va_G) (cy : Nat → ClassId) (h0 : Nat) (ad : Nat → Nat) (I : Nat → Int32) (F : Nat → Nat → Int32) (Y : YT) (hM : MR I F Y) (hY : WF Y) (x kd : Nat) (hic : x < yC Y) (hkd : kd < 16) : Met l yX5_mayIn wsX5_mayIn ({ frames := 0, cells := 0, slots := 0, locals := 0 } : Room) (va_Pc [.ref h0, .int (nI (x)), .int (nI (kd))] (rB D cy (wM cy h0 ad I F))) (vp_Si (fun r : Int32 => r = bI (mayY Y x kd))) 0 0 (fun _ => False) := by
  refine Met.ofW (cc := cX5_mayIn) (maxL := 6) (ret := (some .boolean)) (by decide) rfl ?_
  intro p e s m args below meth c s₁ B hml hv
  obtain ⟨rfl, hv⟩ := hv
  have hx := B.exec
  have hb := B.bytes
  have hr := B.returns
  have hts := atoms_spec (ws := wsX5_mayIn) B.pre
  have hown : s.vm.findClass RX5 = some m.cls := findClass_of_methodNamed B.named
  have hlocks := B.notSynchronized
  obtain ⟨hP, hK⟩ := hv
  have hl := lv_entry ([.ref h0, .int (nI (x)), .int (nI (kd))]) (n := 6) (Nat.le_of_ble_eq_true rfl)
  rw [lg_entry_eq]
  generalize (lg_sl ([.ref h0, .int (nI (x)), .int (nI (kd))]) ++ List.replicate (6 - (lg_sl ([.ref h0, .int (nI (x)), .int (nI (kd))])).length) Slot.unset).toArray = ls at hl ⊢
  have hl : lv_has ls 6 [(0, .ref h0), (1, .int (nI (x))), (2, .int (nI (kd)))] := hl
  obtain ⟨hm1, hm2, hm3, hm4, hmF, hmB, hmC, hmR, hmW⟩ := id hM
  obtain ⟨hy0, hyF, hyB, hyC, hyf, hyb, hyc, hyr, hyw⟩ := id hY
  have hcf := (hyc x hic).1
  have hcs := hyf (ycf Y x) hcf
  have hpl : ∀ k, k < ys Y (ycf Y x) → ypa Y x k < 65536 := fun k hk => ((hyc x hic).2.2.2 k hk).2
  have hAA := orN_lt hpl
  refine lv_iconst (v := (nI (0))) hx hb dX5_mayIn_0 (by decide) ?_
  refine lv_istore_n (lv' := [(3, .int (nI (0))), (0, .ref h0), (1, .int (nI (x))), (2, .int (nI (kd)))]) hx hb dX5_mayIn_1 rfl hl (by decide) rfl (fun ls hl => ?_)
  refine lv_iconst (v := (nI (0))) hx hb dX5_mayIn_2 (by decide) ?_
  refine lv_istore (lv' := [(4, .int (nI (0))), (3, .int (nI (0))), (0, .ref h0), (1, .int (nI (x))), (2, .int (nI (kd)))]) hx hb dX5_mayIn_3 hl (by decide) rfl (fun ls hl => ?_)
  have loop_5 : ∀ (n_ : Nat) (i : Nat), (i ≤ ys Y (ycf Y x)) → ys Y (ycf Y x) - i < n_ → ∀ (ls : Array Slot), lv_has ls 6 [(0, .ref h0), (1, .int (nI (x))), (2, .int (nI (kd))), (3, .int (nI (orN (ypa Y x) i))), (4, .int (nI (i)))] → W p l e (headSpec wsX5_mayIn ({ frames := 0, cells := 0, slots := 0, locals := 0 } : Room)).room s m ([.ref h0, .int (nI (x)), .int (nI (kd))] : List Value).toArray below meth c s.heap [] 0 0 (MQ below (vp_Si (fun r : Int32 => r = bI (mayY Y x kd))) ([.ref h0, .int (nI (x)), .int (nI (kd))] : List Value).toArray s 0 0 (fun _ => False)) (F0 m 5 ls []) := by
    intro n_
    induction n_ with
    | zero => intro i hi hm_; exact absurd hm_ (Nat.not_lt_zero _)
    | succ n_ ih_5 =>
      intro i hi hm_ ls hl
      refine lv_iload hx hb dX5_mayIn_5 (lv_at hl 4 rfl) ?_
      refine lv_aload_n hx hb dX5_mayIn_7 rfl (lv_at hl 0 rfl) ?_
      refine va_get (D := D) (ci := 5) (v := .ref ((ad 8))) (C := RX5) (T := TX5) (N := 34) hx hb hts (by decide +kernel) hown hK hP 0 rfl rfl 8 (by decide) (hts (.fieldLink RX5 19 "CaskYardModel" "staves" "[I") (by decide +kernel)) (fun _ h9 => h9) rfl dX5_mayIn_8 ?_
      refine lv_aload_n hx hb dX5_mayIn_11 rfl (lv_at hl 0 rfl) ?_
      refine va_get (D := D) (ci := 5) (v := .ref ((ad 13))) (C := RX5) (T := TX5) (N := 34) hx hb hts (by decide +kernel) hown hK hP 0 rfl rfl 13 (by decide) (hts (.fieldLink RX5 34 "CaskYardModel" "caskForm" "[I") (by decide +kernel)) (fun _ h9 => h9) rfl dX5_mayIn_12 ?_
      refine lv_iload_n hx hb dX5_mayIn_15 rfl (lv_at hl 1 rfl) ?_
      refine g_iald hx hb hK hP 9 0 rfl rfl (x) rfl (by omega) (by decide) dX5_mayIn_16 ?_
      refine g_top (y := (nI (ycf Y (x)))) (hmC (x) (by omega)).1 ?_
      refine g_iald hx hb hK hP 4 0 rfl rfl (ycf Y (x)) rfl (by omega) (by decide) dX5_mayIn_17 ?_
      refine g_top (y := (nI (ys Y (ycf Y (x))))) (hmF (ycf Y (x)) (by omega)).2.2.2 ?_
      refine g_icmp_ge (tgt := 42) hx hb dX5_mayIn_18 (by decide) (n_i (by omega)) (n_i (by omega)) (fun c_18 => ?_) (fun c_18 => ?_)
      · skip
        obtain rfl : i = ys Y (ycf Y x) := by omega
        refine lv_iconst (v := (nI (1))) hx hb dX5_mayIn_42 (by decide) ?_
        refine lv_istore (lv' := [(4, .int (nI (1))), (0, .ref h0), (1, .int (nI (x))), (2, .int (nI (kd))), (3, .int (nI (orN (ypa Y x) (ys Y (ycf Y x)))))]) hx hb dX5_mayIn_43 hl (by decide) rfl (fun ls hl => ?_)
        have hl : lv_has ls 6 [(4, .int (bI (mayB (orN (ypa Y x) (ys Y (ycf Y x))) (fun p => ybr Y p kd) 0 = true))), (0, .ref h0), (1, .int (nI (x))), (2, .int (nI (kd))), (3, .int (nI (orN (ypa Y x) (ys Y (ycf Y x)))))] := by rw [← (bI_t (P := mayB (orN (ypa Y x) (ys Y (ycf Y x))) (fun p => ybr Y p kd) 0 = true) rfl).symm]; exact hl
        refine lv_iconst (v := (nI (0))) hx hb dX5_mayIn_45 (by decide) ?_
        refine lv_istore (lv' := [(5, .int (nI (0))), (4, .int (bI (mayB (orN (ypa Y x) (ys Y (ycf Y x))) (fun p => ybr Y p kd) 0 = true))), (0, .ref h0), (1, .int (nI (x))), (2, .int (nI (kd))), (3, .int (nI (orN (ypa Y x) (ys Y (ycf Y x)))))]) hx hb dX5_mayIn_46 hl (by decide) rfl (fun ls hl => ?_)
        have loop_48 : ∀ (n_ : Nat) (q : Nat), (q ≤ 16) → 16 - q < n_ → ∀ (ls : Array Slot), lv_has ls 6 [(0, .ref h0), (1, .int (nI (x))), (2, .int (nI (kd))), (3, .int (nI (orN (ypa Y x) (ys Y (ycf Y x))))), (4, .int (bI (mayB (orN (ypa Y x) (ys Y (ycf Y x))) (fun p => ybr Y p kd) q = true))), (5, .int (nI (q)))] → W p l e (headSpec wsX5_mayIn ({ frames := 0, cells := 0, slots := 0, locals := 0 } : Room)).room s m ([.ref h0, .int (nI (x)), .int (nI (kd))] : List Value).toArray below meth c s.heap [] 0 0 (MQ below (vp_Si (fun r : Int32 => r = bI (mayY Y x kd))) ([.ref h0, .int (nI (x)), .int (nI (kd))] : List Value).toArray s 0 0 (fun _ => False)) (F0 m 48 ls []) := by
          intro n_
          induction n_ with
          | zero => intro q hq hm_; exact absurd hm_ (Nat.not_lt_zero _)
          | succ n_ ih_48 =>
            intro q hq hm_ ls hl
            refine lv_iload hx hb dX5_mayIn_48 (lv_at hl 5 rfl) ?_
            refine lv_bipush (v := (nI (16))) hx hb dX5_mayIn_50 (by decide) ?_
            refine g_icmp_ge (tgt := 89) hx hb dX5_mayIn_52 (by decide) (n_i (by omega)) (n_i (by omega)) (fun c_52 => ?_) (fun c_52 => ?_)
            · skip
              obtain rfl : q = 16 := by omega
              refine lv_iload hx hb dX5_mayIn_89 (lv_at hl 4 rfl) ?_
              exact W.zret (v := (bI (mayB (orN (ypa Y x) (ys Y (ycf Y x))) (fun p => ybr Y p kd) 16 = true))) hx hb hr (bI_nar _) (fun t ht hW => ⟨_, rfl, rfl, ht⟩) (fun _ h => nomatch h) dX5_mayIn_91
            · skip
              refine lv_iload_n hx hb dX5_mayIn_55 rfl (lv_at hl 3 rfl) ?_
              refine lv_iload hx hb dX5_mayIn_56 (lv_at hl 5 rfl) ?_
              refine lv_ishr hx hb dX5_mayIn_58 ?_
              refine g_top (y := (nI ((orN (ypa Y x) (ys Y (ycf Y x))) / 2 ^ q))) (n_shr (by omega) (by omega)) ?_
              refine lv_iconst (v := (nI (1))) hx hb dX5_mayIn_59 (by decide) ?_
              have hdl := Nat.div_le_self (orN (ypa Y x) (ys Y (ycf Y x))) (2 ^ q)
              refine lv_iand hx hb dX5_mayIn_60 ?_
              refine g_top (y := (nI ((orN (ypa Y x) (ys Y (ycf Y x))) / 2 ^ q % 2))) (n_and1 (by omega)) ?_
              refine lv_iconst (v := (nI (1))) hx hb dX5_mayIn_61 (by decide) ?_
              refine g_icmp_ne (tgt := 83) hx hb dX5_mayIn_62 (by decide) (n_i (by omega)) (n_i (by omega)) (fun c_62 => ?_) (fun c_62 => ?_)
              · skip
                have hmb : bI (mayB (orN (ypa Y x) (ys Y (ycf Y x))) (fun p => ybr Y p kd) q = true) = bI (mayB (orN (ypa Y x) (ys Y (ycf Y x))) (fun p => ybr Y p kd) (q + 1) = true) := bI_c (by rw [mayB_k (br := fun p => ybr Y p kd) (p := q) (Or.inl (by omega))])
                refine lv_iinc (v := (nI (q + 1))) (lv' := [(5, .int (nI (q + 1))), (0, .ref h0), (1, .int (nI (x))), (2, .int (nI (kd))), (3, .int (nI (orN (ypa Y x) (ys Y (ycf Y x))))), (4, .int (bI (mayB (orN (ypa Y x) (ys Y (ycf Y x))) (fun p => ybr Y p kd) q = true)))]) hx hb dX5_mayIn_83 hl (k := 5) rfl (nI_add _ _) (by decide) rfl (fun ls hl => ?_)
                refine lv_goto (tgt := 48) hx hb dX5_mayIn_86 (by decide) ?_
                have hl : lv_has ls 6 [(5, .int (nI (q + 1))), (0, .ref h0), (1, .int (nI (x))), (2, .int (nI (kd))), (3, .int (nI (orN (ypa Y x) (ys Y (ycf Y x))))), (4, .int (bI (mayB (orN (ypa Y x) (ys Y (ycf Y x))) (fun p => ybr Y p kd) (q + 1) = true)))] := by rw [← hmb]; exact hl
                exact ih_48 (q + 1)  (by omega) (by omega) ls (lv_sub hl [1, 2, 3, 4, 5, 0] rfl)
              · skip
                refine lv_aload_n hx hb dX5_mayIn_65 rfl (lv_at hl 0 rfl) ?_
                refine va_get (D := D) (ci := 5) (v := .ref ((ad 20))) (C := RX5) (T := TX5) (N := 34) hx hb hts (by decide +kernel) hown hK hP 0 rfl rfl 20 (by decide) (hts (.fieldLink RX5 55 "CaskYardModel" "barsIt" "[Z") (by decide +kernel)) (fun _ h9 => h9) rfl dX5_mayIn_66 ?_
                refine lv_bipush (v := (nI (16))) hx hb dX5_mayIn_69 (by decide) ?_
                refine lv_iload hx hb dX5_mayIn_71 (lv_at hl 5 rfl) ?_
                refine g_imul_n hx hb dX5_mayIn_73 ?_
                refine lv_iload_n hx hb dX5_mayIn_74 rfl (lv_at hl 2 rfl) ?_
                refine g_iadd_n hx hb dX5_mayIn_75 ?_
                refine g_zald hx hb hK hP 16 1 rfl rfl ((16 * q) + kd) rfl (by omega) (by decide) dX5_mayIn_76 ?_
                refine g_top (y := (bI (ybr Y q kd = 1))) ((hmR q kd (by omega) (by omega)).trans (bI_of (hyr q kd (by omega) (by omega)))) ?_
                refine g_ifeq_b (tgt := 83) hx hb dX5_mayIn_77 (by decide) (fun c_77 => ?_) (fun c_77 => ?_)
                · skip
                  have hmb : bI (mayB (orN (ypa Y x) (ys Y (ycf Y x))) (fun p => ybr Y p kd) q = true) = bI (mayB (orN (ypa Y x) (ys Y (ycf Y x))) (fun p => ybr Y p kd) (q + 1) = true) := bI_c (by rw [mayB_k (br := fun p => ybr Y p kd) (p := q) (Or.inr c_77)])
                  refine lv_iinc (v := (nI (q + 1))) (lv' := [(5, .int (nI (q + 1))), (0, .ref h0), (1, .int (nI (x))), (2, .int (nI (kd))), (3, .int (nI (orN (ypa Y x) (ys Y (ycf Y x))))), (4, .int (bI (mayB (orN (ypa Y x) (ys Y (ycf Y x))) (fun p => ybr Y p kd) q = true)))]) hx hb dX5_mayIn_83 hl (k := 5) rfl (nI_add _ _) (by decide) rfl (fun ls hl => ?_)
                  refine lv_goto (tgt := 48) hx hb dX5_mayIn_86 (by decide) ?_
                  have hl : lv_has ls 6 [(5, .int (nI (q + 1))), (0, .ref h0), (1, .int (nI (x))), (2, .int (nI (kd))), (3, .int (nI (orN (ypa Y x) (ys Y (ycf Y x))))), (4, .int (bI (mayB (orN (ypa Y x) (ys Y (ycf Y x))) (fun p => ybr Y p kd) (q + 1) = true)))] := by rw [← hmb]; exact hl
                  exact ih_48 (q + 1)  (by omega) (by omega) ls (lv_sub hl [1, 2, 3, 4, 5, 0] rfl)
                · skip
                  have hmb : nI 0 = bI (mayB (orN (ypa Y x) (ys Y (ycf Y x))) (fun p => ybr Y p kd) (q + 1) = true) := (bI_f (by rw [mayB_f (br := fun p => ybr Y p kd) (p := q) (by omega) c_77]; decide)).symm
                  refine lv_iconst (v := (nI (0))) hx hb dX5_mayIn_80 (by decide) ?_
                  refine lv_istore (lv' := [(4, .int (nI (0))), (0, .ref h0), (1, .int (nI (x))), (2, .int (nI (kd))), (3, .int (nI (orN (ypa Y x) (ys Y (ycf Y x))))), (5, .int (nI (q)))]) hx hb dX5_mayIn_81 hl (by decide) rfl (fun ls hl => ?_)
                  refine lv_iinc (v := (nI (q + 1))) (lv' := [(5, .int (nI (q + 1))), (4, .int (nI (0))), (0, .ref h0), (1, .int (nI (x))), (2, .int (nI (kd))), (3, .int (nI (orN (ypa Y x) (ys Y (ycf Y x)))))]) hx hb dX5_mayIn_83 hl (k := 5) rfl (nI_add _ _) (by decide) rfl (fun ls hl => ?_)
                  refine lv_goto (tgt := 48) hx hb dX5_mayIn_86 (by decide) ?_
                  have hl : lv_has ls 6 [(5, .int (nI (q + 1))), (4, .int (bI (mayB (orN (ypa Y x) (ys Y (ycf Y x))) (fun p => ybr Y p kd) (q + 1) = true))), (0, .ref h0), (1, .int (nI (x))), (2, .int (nI (kd))), (3, .int (nI (orN (ypa Y x) (ys Y (ycf Y x)))))] := by rw [← hmb]; exact hl
                  exact ih_48 (q + 1)  (by omega) (by omega) ls (lv_sub hl [2, 3, 4, 5, 1, 0] rfl)
        exact loop_48 _ (0)  (by omega) (Nat.lt_succ_self _) ls (lv_sub hl [2, 3, 4, 5, 1, 0] rfl)
      · skip
        refine lv_iload_n hx hb dX5_mayIn_21 rfl (lv_at hl 3 rfl) ?_
        refine lv_aload_n hx hb dX5_mayIn_22 rfl (lv_at hl 0 rfl) ?_
        refine va_get (D := D) (ci := 5) (v := .ref ((ad 15))) (C := RX5) (T := TX5) (N := 34) hx hb hts (by decide +kernel) hown hK hP 0 rfl rfl 15 (by decide) (hts (.fieldLink RX5 40 "CaskYardModel" "past" "[I") (by decide +kernel)) (fun _ h9 => h9) rfl dX5_mayIn_23 ?_
        refine lv_bipush (v := (nI (40))) hx hb dX5_mayIn_26 (by decide) ?_
        refine lv_iload_n hx hb dX5_mayIn_28 rfl (lv_at hl 1 rfl) ?_
        refine g_imul_n hx hb dX5_mayIn_29 ?_
        refine lv_iload hx hb dX5_mayIn_30 (lv_at hl 4 rfl) ?_
        refine g_iadd_n hx hb dX5_mayIn_32 ?_
        refine g_iald hx hb hK hP 11 0 rfl rfl ((40 * x) + i) rfl (by omega) (by decide) dX5_mayIn_33 ?_
        refine g_top (y := (nI (ypa Y x i))) (((hmC x hic).2.2.2 i (by omega)).2) ?_
        refine lv_ior hx hb dX5_mayIn_34 ?_
        refine g_top (y := (nI (orN (ypa Y x) (i + 1)))) (n_or _ _) ?_
        refine lv_istore_n (lv' := [(3, .int (nI (orN (ypa Y x) (i + 1)))), (0, .ref h0), (1, .int (nI (x))), (2, .int (nI (kd))), (4, .int (nI (i)))]) hx hb dX5_mayIn_35 rfl hl (by decide) rfl (fun ls hl => ?_)
        refine lv_iinc (v := (nI (i + 1))) (lv' := [(4, .int (nI (i + 1))), (3, .int (nI (orN (ypa Y x) (i + 1)))), (0, .ref h0), (1, .int (nI (x))), (2, .int (nI (kd)))]) hx hb dX5_mayIn_36 hl (k := 4) rfl (nI_add _ _) (by decide) rfl (fun ls hl => ?_)
        refine lv_goto (tgt := 5) hx hb dX5_mayIn_39 (by decide) ?_
        exact ih_5 (i + 1)  (by omega) (by omega) ls (lv_sub hl [2, 3, 4, 1, 0] rfl)
  exact loop_5 _ (0)  (by omega) (Nat.lt_succ_self _) ls (lv_sub hl [2, 3, 4, 1, 0] rfl)
set_option maxHeartbeats 4000000 in
set_option maxRecDepth 100000 in
theorem c_X5_may (l : Launch) (D : va_G) (cy : Nat → ClassId) (sz : Nat) (h0 : Nat) (ad : Nat → Nat) (I : Nat → Int32) (F : Nat → Nat → Int32) (Y : YT) (hM : MR I F Y) (hY : WF Y) (a b : Int32) : Met l yX5_may wsX5_may ({ frames := 1, cells := 0, slots := 0, locals := 25 } : Room) (va_Pc [.ref h0, .int (a), .int (b)] (wB D cy sz (wM cy h0 ad I F))) (va_Qi (fun (r : Int32) (u : (Nat → Int32) × (Nat → Nat → Int32)) => MP r u (sp_may Y a b)) (fun u t => wE D cy (va_A (wM cy h0 ad I F) sz) (wM cy h0 ad u.1 u.2) t) (va_A (wM cy h0 ad I F) sz)) 0 0 (va_A (wM cy h0 ad I F) sz) := by
  refine Met.ofW (cc := cX5_may) (maxL := 3) (ret := (some .boolean)) (by decide) rfl ?_
  intro p e s m args below meth c s₁ B hml hv
  obtain ⟨rfl, hsz, hP, hK, hD0⟩ := hv
  have hx := B.exec
  have hb := B.bytes
  have hr := B.returns
  have hts := atoms_spec (ws := wsX5_may) B.pre
  have hown : s.vm.findClass RX5 = some m.cls := findClass_of_methodNamed B.named
  have hlocks := B.notSynchronized
  subst hsz
  have hD := hD0.self (sz := s.heap.size)
  generalize hAe : va_A (wM cy h0 ad I F) s.heap.size = A at hD ⊢
  have hA : ∀ q : Nat, s.heap.size ≤ q → A q := w_A hAe
  have hS : va_S A s.heap s.heap [] := va_S.rf
  have hl := lv_entry ([.ref h0, .int (a), .int (b)]) (n := 3) (Nat.le_of_ble_eq_true rfl)
  rw [lg_entry_eq]
  generalize (lg_sl ([.ref h0, .int (a), .int (b)]) ++ List.replicate (3 - (lg_sl ([.ref h0, .int (a), .int (b)])).length) Slot.unset).toArray = ls at hl ⊢
  have hl : lv_has ls 3 [(0, .ref h0), (1, .int (a)), (2, .int (b))] := hl
  obtain ⟨hm1, hm2, hm3, hm4, hmF, hmB, hmC, hmR, hmW⟩ := id hM
  obtain ⟨hy0, hyF, hyB, hyC, hyf, hyb, hyc, hyr, hyw⟩ := id hY
  have hxa := ix_m a
  have hxb := ix_m b
  refine lv_aload_n hx hb dX5_may_0 rfl (lv_at hl 0 rfl) ?_
  refine lv_iconst (v := (nI (0))) hx hb dX5_may_1 (by decide) ?_
  refine va_put (D := D) (ci := 5) (v := .int (nI (0))) (ty := .int) (C := RX5) (T := TX5) (N := 34) hx hb hts (by decide +kernel) tyX5 tyX5_ok nmX5 hown hK hP hD hS 0 rfl rfl 0 (by decide) (hts (.fieldLink RX5 83 "CaskYardModel" "code" "I") (by decide +kernel)) (fun _ h9 => h9) rfl (by decide +kernel) rfl rfl (Nat.le_of_ble_eq_true rfl) dX5_may_2 (fun H locs hP hD hS => ?_)
  have hP : va_P D vwCl (wM cy h0 ad (va_up I 0 (nI (0))) F) H := hP
  have hD : va_D A (wM cy h0 ad (va_up I 0 (nI (0))) F) := hD
  refine lv_aload_n hx hb dX5_may_5 rfl (lv_at hl 0 rfl) ?_
  refine lv_iload_n hx hb dX5_may_6 rfl (lv_at hl 1 rfl) ?_
  refine vp_callSi (va_Run.run (va_runV (As := [.int (a)]) (rest := []) ⟨hx, hb, hml, hown, hts⟩ (c_X5_isCask l D cy h0 ad (va_up I 0 (nI (0))) F (a) (yC Y) (hm3) (by omega)) (cwV 1 hts gX5_may_X5_isCask rfl rfl rfl (by decide +kernel) ⟨Nat.le_of_ble_eq_true rfl, Nat.le_of_ble_eq_true rfl⟩) ⟨rB_blind, va_recv hK hP (ci := 5) (q0 := 0) rfl rfl, (rB_pre hP hK)⟩ rfl rfl hl.1 rfl (lv_room (Nat.le_of_ble_eq_true rfl)) dX5_may_7 ⟨Nat.le_of_ble_eq_true rfl, Nat.le_of_ble_eq_true rfl⟩)) (fun r_7 hr_7 => ?_)
  subst hr_7
  refine g_ifne_b (tgt := 21) hx hb dX5_may_10 (by decide) (fun c_10 => ?_) (fun c_10 => ?_)
  · skip
    have h_a := ix_n (a := a) (by omega)
    have hic : ix a < yC Y := by omega
    have hl : lv_has ls 3 [(0, .ref h0), (1, .int (nI (ix a))), (2, .int (b))] := by rw [← h_a]; exact hl
    refine lv_iload_n hx hb dX5_may_21 rfl (lv_at hl 2 rfl) ?_
    refine vp_callSi (va_Run.run (va_runS (As := [.int (b)]) (rest := []) ⟨hx, hb, hml, hown, hts⟩ (c_X5_isKind l  (b)) (va_cwS 1 hts gX5_may_X5_isKind rfl rfl rfl (by decide +kernel) ⟨Nat.le_of_ble_eq_true rfl, Nat.le_of_ble_eq_true rfl⟩) ⟨nB_blind, nB_pre⟩ rfl rfl hl.1 rfl (lv_room (Nat.le_of_ble_eq_true rfl)) dX5_may_22 ⟨Nat.le_of_ble_eq_true rfl, Nat.le_of_ble_eq_true rfl⟩)) (fun r_22 hr_22 => ?_)
    subst hr_22
    refine g_ifne_b (tgt := 36) hx hb dX5_may_25 (by decide) (fun c_25 => ?_) (fun c_25 => ?_)
    · skip
      have h_b := ix_n (a := b) (by omega)
      have hl : lv_has ls 3 [(0, .ref h0), (1, .int (nI (ix a))), (2, .int (nI (ix b)))] := by rw [← h_b]; exact hl
      refine lv_aload_n hx hb dX5_may_36 rfl (lv_at hl 0 rfl) ?_
      refine lv_iload_n hx hb dX5_may_37 rfl (lv_at hl 1 rfl) ?_
      refine lv_iload_n hx hb dX5_may_38 rfl (lv_at hl 2 rfl) ?_
      refine vp_callSi (va_Run.run (va_runV (As := [.int (nI (ix a)), .int (nI (ix b))]) (rest := []) ⟨hx, hb, hml, hown, hts⟩ (c_X5_mayIn l D cy h0 ad (va_up I 0 (nI (0))) F (Y) (hM) (hY) (ix a) (ix b) (hic) (by omega)) (cwV 2 hts gX5_may_X5_mayIn rfl rfl rfl (by decide +kernel) ⟨Nat.le_of_ble_eq_true rfl, Nat.le_of_ble_eq_true rfl⟩) ⟨rB_blind, va_recv hK hP (ci := 5) (q0 := 0) rfl rfl, (rB_pre hP hK)⟩ rfl rfl hl.1 rfl (lv_room (Nat.le_of_ble_eq_true rfl)) dX5_may_39 ⟨Nat.le_of_ble_eq_true rfl, Nat.le_of_ble_eq_true rfl⟩)) (fun r_39 hr_39 => ?_)
      subst hr_39
      exact W.zret (v := (bI (mayY Y (ix a) (ix b)))) hx hb hr (bI_nar _) (fun t ht hW => ⟨⟨_, ((va_up I 0 (nI (0))), F), rfl, by rw [sp_may, if_pos (by omega), if_pos (by omega)]; exact ⟨rfl, fun _ => rfl, hM⟩, by rw [ht]; exact hP, va_K.moved hW.alike hK, hD⟩, hS.F ht⟩) hS.2.2 dX5_may_42
    · skip
      refine lv_aload_n hx hb dX5_may_28 rfl (lv_at hl 0 rfl) ?_
      refine lv_iconst (v := (nI (2))) hx hb dX5_may_29 (by decide) ?_
      have hFc := w_free hD hS hA
      refine va_calli (va_runV (As := [.int (nI (2))]) (rest := []) ⟨hx, hb, hml, hown, hts⟩ (c_X5_fail l D cy H.size h0 ad (va_up I 0 (nI (0))) F (nI (2))) (cwV 1 hts gX5_may_X5_fail rfl rfl rfl (by decide +kernel) ⟨Nat.le_of_ble_eq_true rfl, Nat.le_of_ble_eq_true rfl⟩) ⟨wB_blind, va_recv hK hP (ci := 5) (q0 := 0) rfl rfl, wB_pre hP hK hD⟩ rfl rfl hl.1 rfl (lv_room (Nat.le_of_ble_eq_true rfl)) dX5_may_30 ⟨Nat.le_of_ble_eq_true rfl, Nat.le_of_ble_eq_true rfl⟩) hS (fun q _ h => hFc q h) hFc (fun r_30 u_30 t H locs ht hvm hw_30 hB _ _ hS => ?_)
      obtain ⟨I_30, F_30⟩ := u_30
      obtain ⟨hP1, hK1, hD1⟩ := hB
      rw [ht] at hP1
      dsimp only at hP1 hD1 hw_30
      obtain ⟨hw_30, hu_30⟩ := hw_30
      rw [(Prod.mk.inj hu_30).1, (Prod.mk.inj hu_30).2] at hP1 hD1
      have hP := hP1
      have hD := hD1.weaken (fun _ _ _ h => hFc _ h)
      have hP : va_P D vwCl (wM cy h0 ad (va_up I 0 (nI (2))) F) H := hP
      have hD : va_D A (wM cy h0 ad (va_up I 0 (nI (2))) F) := hD
      refine g_top (y := (nI (0))) (hw_30) ?_
      refine lv_pop hx hb dX5_may_33 rfl ?_
      refine lv_iconst (v := (nI (0))) hx hb dX5_may_34 (by decide) ?_
      exact W.zret (v := (nI (0))) hx hb hr (by decide) (fun t ht hW => ⟨⟨_, ((va_up I 0 (nI (2))), F), rfl, by rw [sp_may, if_pos (by omega), if_neg (by omega)]; exact MP_t rfl hM, by rw [ht]; exact hP, va_K.moved hW.alike hK, hD⟩, hS.F ht⟩) hS.2.2 dX5_may_35
  · skip
    refine lv_aload_n hx hb dX5_may_13 rfl (lv_at hl 0 rfl) ?_
    refine lv_iconst (v := (nI (1))) hx hb dX5_may_14 (by decide) ?_
    have hFc := w_free hD hS hA
    refine va_calli (va_runV (As := [.int (nI (1))]) (rest := []) ⟨hx, hb, hml, hown, hts⟩ (c_X5_fail l D cy H.size h0 ad (va_up I 0 (nI (0))) F (nI (1))) (cwV 1 hts gX5_may_X5_fail rfl rfl rfl (by decide +kernel) ⟨Nat.le_of_ble_eq_true rfl, Nat.le_of_ble_eq_true rfl⟩) ⟨wB_blind, va_recv hK hP (ci := 5) (q0 := 0) rfl rfl, wB_pre hP hK hD⟩ rfl rfl hl.1 rfl (lv_room (Nat.le_of_ble_eq_true rfl)) dX5_may_15 ⟨Nat.le_of_ble_eq_true rfl, Nat.le_of_ble_eq_true rfl⟩) hS (fun q _ h => hFc q h) hFc (fun r_15 u_15 t H locs ht hvm hw_15 hB _ _ hS => ?_)
    obtain ⟨I_15, F_15⟩ := u_15
    obtain ⟨hP1, hK1, hD1⟩ := hB
    rw [ht] at hP1
    dsimp only at hP1 hD1 hw_15
    obtain ⟨hw_15, hu_15⟩ := hw_15
    rw [(Prod.mk.inj hu_15).1, (Prod.mk.inj hu_15).2] at hP1 hD1
    have hP := hP1
    have hD := hD1.weaken (fun _ _ _ h => hFc _ h)
    have hP : va_P D vwCl (wM cy h0 ad (va_up I 0 (nI (1))) F) H := hP
    have hD : va_D A (wM cy h0 ad (va_up I 0 (nI (1))) F) := hD
    refine g_top (y := (nI (0))) (hw_15) ?_
    refine lv_pop hx hb dX5_may_18 rfl ?_
    refine lv_iconst (v := (nI (0))) hx hb dX5_may_19 (by decide) ?_
    exact W.zret (v := (nI (0))) hx hb hr (by decide) (fun t ht hW => ⟨⟨_, ((va_up I 0 (nI (1))), F), rfl, by rw [sp_may, if_neg (by omega)]; exact MP_t rfl hM, by rw [ht]; exact hP, va_K.moved hW.alike hK, hD⟩, hS.F ht⟩) hS.2.2 dX5_may_20
