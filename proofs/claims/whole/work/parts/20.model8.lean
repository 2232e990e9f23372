set_option maxHeartbeats 4000000 in
set_option maxRecDepth 100000 in
theorem c_X5_take (l : Launch) (D : va_G) (cy : Nat → ClassId) (sz : Nat) (h0 : Nat) (ad : Nat → Nat) (I : Nat → Int32) (F : Nat → Nat → Int32) (Y : YT) (hM : MR I F Y) (hY : WF Y) (x : Nat) (hx8 : x < 256) (K : Nat → Nat) (hlk : ∀ k, k < 8 → x / 2 ^ k % 2 = 1 → F 32 k = nI (K k) ∧ K k < yB Y) : Met l yX5_take wsX5_take ({ frames := 0, cells := 0, slots := 0, locals := 0 } : Room) (va_Pc [.ref h0, .int (nI (x))] (wB D cy sz (wM cy h0 ad I F))) (va_Qv (fun (u : (Nat → Int32) × (Nat → Nat → Int32)) => ∃ g22 g23, u = (va_up I 25 (nI (takeS Y K x 8).length), va_up (va_up F 22 g22) 23 g23) ∧ arrP g22 g23 0 (takeS Y K x 8)) (fun u t => wE D cy (va_A (wM cy h0 ad I F) sz) (wM cy h0 ad u.1 u.2) t) (va_A (wM cy h0 ad I F) sz)) 0 0 (va_A (wM cy h0 ad I F) sz) := by
  refine Met.ofW (cc := cX5_take) (maxL := 4) (ret := none) (by decide) rfl ?_
  intro p e s m args below meth c s₁ B hml hv
  obtain ⟨rfl, hsz, hP, hK, hD0⟩ := hv
  have hx := B.exec
  have hb := B.bytes
  have hr := B.returns
  have hts := atoms_spec (ws := wsX5_take) B.pre
  have hown : s.vm.findClass RX5 = some m.cls := findClass_of_methodNamed B.named
  have hlocks := B.notSynchronized
  subst hsz
  have hD := hD0.self (sz := s.heap.size)
  generalize hAe : va_A (wM cy h0 ad I F) s.heap.size = A at hD ⊢
  have hA : ∀ q : Nat, s.heap.size ≤ q → A q := w_A hAe
  have hS : va_S A s.heap s.heap [] := va_S.rf
  have hl := lv_entry ([.ref h0, .int (nI (x))]) (n := 4) (Nat.le_of_ble_eq_true rfl)
  rw [lg_entry_eq]
  generalize (lg_sl ([.ref h0, .int (nI (x))]) ++ List.replicate (4 - (lg_sl ([.ref h0, .int (nI (x))])).length) Slot.unset).toArray = ls at hl ⊢
  have hl : lv_has ls 4 [(0, .ref h0), (1, .int (nI (x)))] := hl
  obtain ⟨hm1, hm2, hm3, hm4, hmF, hmB, hmC, hmR, hmW⟩ := id hM
  obtain ⟨hy0, hyF, hyB, hyC, hyf, hyb, hyc, hyr, hyw⟩ := id hY
  have hpl : ∀ k, k < 8 → x / 2 ^ k % 2 = 1 → (yP Y (K k)).length ≤ 4 := fun k h1 h2 => (hyb _ (hlk k h1 h2).2).2.1
  refine lv_aload_n hx hb dX5_take_0 rfl (lv_at hl 0 rfl) ?_
  refine lv_iconst (v := (nI (0))) hx hb dX5_take_1 (by decide) ?_
  refine va_put (D := D) (ci := 5) (v := .int (nI (0))) (ty := .int) (C := RX5) (T := TX5) (N := 34) hx hb hts (by decide +kernel) tyX5 tyX5_ok nmX5 hown hK hP hD hS 0 rfl rfl 25 (by decide) (hts (.fieldLink RX5 155 "CaskYardModel" "setMany" "I") (by decide +kernel)) (fun _ h9 => h9) rfl (by decide +kernel) rfl rfl (Nat.le_of_ble_eq_true rfl) dX5_take_2 (fun H locs hP hD hS => ?_)
  have hP : va_P D vwCl (wM cy h0 ad (va_up I 25 (nI (0))) F) H := hP
  have hD : va_D A (wM cy h0 ad (va_up I 25 (nI (0))) F) := hD
  refine lv_iconst (v := (nI (0))) hx hb dX5_take_5 (by decide) ?_
  refine lv_istore_n (lv' := [(2, .int (nI (0))), (0, .ref h0), (1, .int (nI (x)))]) hx hb dX5_take_6 rfl hl (by decide) rfl (fun ls hl => ?_)
  have loop_7 : ∀ (n_ : Nat) (n : Nat) (k : Nat) (g22 : Nat → Int32) (g23 : Nat → Int32) (H : Heap) (locs : List Loc), va_P D vwCl (wM cy h0 ad (va_up I 25 (nI (n))) (va_up (va_up F 22 g22) 23 g23)) H → va_D A (wM cy h0 ad (va_up I 25 (nI (n))) (va_up (va_up F 22 g22) 23 g23)) → va_S A s.heap H locs → (k ≤ 8) → (n = (takeS Y K x k).length) → (arrP g22 g23 0 (takeS Y K x k)) → 8 - k < n_ → ∀ (ls : Array Slot), lv_has ls 4 [(0, .ref h0), (1, .int (nI (x))), (2, .int (nI (k)))] → W p l e (headSpec wsX5_take ({ frames := 0, cells := 0, slots := 0, locals := 0 } : Room)).room s m ([.ref h0, .int (nI (x))] : List Value).toArray below meth c H locs 0 0 (MQ below (va_Qv (fun (u : (Nat → Int32) × (Nat → Nat → Int32)) => ∃ g22 g23, u = (va_up I 25 (nI (takeS Y K x 8).length), va_up (va_up F 22 g22) 23 g23) ∧ arrP g22 g23 0 (takeS Y K x 8)) (fun u t => wE D cy A (wM cy h0 ad u.1 u.2) t) A) ([.ref h0, .int (nI (x))] : List Value).toArray s 0 0 A) (F0 m 7 ls []) := by
    intro n_
    induction n_ with
    | zero => intro n k g22 g23 H locs hP hD hS hk hn hA2 hm_; exact absurd hm_ (Nat.not_lt_zero _)
    | succ n_ ih_7 =>
      intro n k g22 g23 H locs hP hD hS hk hn hA2 hm_ ls hl
      obtain ⟨F1, hF1⟩ : ∃ G, G = va_up F 22 g22 := ⟨_, rfl⟩
      rw [← hF1] at hP hD
      have eF1_22 : F1 22 = g22 := by rw [hF1]; exact va_up_self _ _ _
      obtain ⟨F2, hF2⟩ : ∃ G, G = va_up F1 23 g23 := ⟨_, rfl⟩
      rw [← hF2] at hP hD
      have eF2_23 : F2 23 = g23 := by rw [hF2]; exact va_up_self _ _ _
      have eF2_22 : F2 22 = g22 := by rw [hF2, va_up_ne _ _ (by decide)]; exact eF1_22
      refine lv_iload_n hx hb dX5_take_7 rfl (lv_at hl 2 rfl) ?_
      refine lv_bipush (v := (nI (8))) hx hb dX5_take_8 (by decide) ?_
      refine g_icmp_ge (tgt := 88) hx hb dX5_take_10 (by decide) (n_i (by omega)) (n_i (by omega)) (fun c_10 => ?_) (fun c_10 => ?_)
      · skip
        obtain rfl : k = 8 := by omega
        exact W.vret hx hb hr (fun t ht hW => ⟨⟨((va_up I 25 (nI (n))), F2), rfl, ⟨g22, g23, by rw [hF2, hF1, hn], hA2⟩, by rw [ht]; exact hP, va_K.moved hW.alike hK, hD⟩, hS.F ht⟩) hS.2.2 dX5_take_88
      · skip
        have htl := takeS_len hpl k hk
        refine lv_iload_n hx hb dX5_take_13 rfl (lv_at hl 1 rfl) ?_
        refine lv_iload_n hx hb dX5_take_14 rfl (lv_at hl 2 rfl) ?_
        refine lv_ishr hx hb dX5_take_15 ?_
        refine g_top (y := (nI (x / 2 ^ k))) (n_shr (by omega) (by omega)) ?_
        refine lv_iconst (v := (nI (1))) hx hb dX5_take_16 (by decide) ?_
        have hdl := Nat.div_le_self x (2 ^ k)
        refine lv_iand hx hb dX5_take_17 ?_
        refine g_top (y := (nI (x / 2 ^ k % 2))) (n_and1 (by omega)) ?_
        refine g_if_ne (tgt := 24) hx hb dX5_take_18 (by decide) (n_i (by omega)) (fun c_18 => ?_) (fun c_18 => ?_)
        · skip
          have hb1 : x / 2 ^ k % 2 = 1 := by omega
          have hlb := (hlk k (by omega) hb1).2
          have hp4 := hpl k (by omega) hb1
          refine lv_iconst (v := (nI (0))) hx hb dX5_take_24 (by decide) ?_
          refine lv_istore_n (lv' := [(3, .int (nI (0))), (0, .ref h0), (1, .int (nI (x))), (2, .int (nI (k)))]) hx hb dX5_take_25 rfl hl (by decide) rfl (fun ls hl => ?_)
          have loop_26 : ∀ (n_ : Nat) (n2 : Nat) (i : Nat) (h22 : Nat → Int32) (h23 : Nat → Int32) (H : Heap) (locs : List Loc), va_P D vwCl (wM cy h0 ad (va_up I 25 (nI (n2))) (va_up (va_up F2 22 h22) 23 h23)) H → va_D A (wM cy h0 ad (va_up I 25 (nI (n2))) (va_up (va_up F2 22 h22) 23 h23)) → va_S A s.heap H locs → (i ≤ (yP Y (K k)).length) → (n2 = n + i) → (arrP h22 h23 0 (takeS Y K x k ++ rowS i (K k))) → (yP Y (K k)).length - i < n_ → ∀ (ls : Array Slot), lv_has ls 4 [(0, .ref h0), (1, .int (nI (x))), (2, .int (nI (k))), (3, .int (nI (i)))] → W p l e (headSpec wsX5_take ({ frames := 0, cells := 0, slots := 0, locals := 0 } : Room)).room s m ([.ref h0, .int (nI (x))] : List Value).toArray below meth c H locs 0 0 (MQ below (va_Qv (fun (u : (Nat → Int32) × (Nat → Nat → Int32)) => ∃ g22 g23, u = (va_up I 25 (nI (takeS Y K x 8).length), va_up (va_up F 22 g22) 23 g23) ∧ arrP g22 g23 0 (takeS Y K x 8)) (fun u t => wE D cy A (wM cy h0 ad u.1 u.2) t) A) ([.ref h0, .int (nI (x))] : List Value).toArray s 0 0 A) (F0 m 26 ls []) := by
            intro n_
            induction n_ with
            | zero => intro n2 i h22 h23 H locs hP hD hS hi hn2 hA3 hm_; exact absurd hm_ (Nat.not_lt_zero _)
            | succ n_ ih_26 =>
              intro n2 i h22 h23 H locs hP hD hS hi hn2 hA3 hm_ ls hl
              obtain ⟨F3, hF3⟩ : ∃ G, G = va_up F2 22 h22 := ⟨_, rfl⟩
              rw [← hF3] at hP hD
              have eF3_22 : F3 22 = h22 := by rw [hF3]; exact va_up_self _ _ _
              have eF3_23 : F3 23 = g23 := by rw [hF3, va_up_ne _ _ (by decide)]; exact eF2_23
              obtain ⟨F4, hF4⟩ : ∃ G, G = va_up F3 23 h23 := ⟨_, rfl⟩
              rw [← hF4] at hP hD
              have eF4_23 : F4 23 = h23 := by rw [hF4]; exact va_up_self _ _ _
              have eF4_22 : F4 22 = h22 := by rw [hF4, va_up_ne _ _ (by decide)]; exact eF3_22
              refine lv_iload_n hx hb dX5_take_26 rfl (lv_at hl 3 rfl) ?_
              refine lv_aload_n hx hb dX5_take_27 rfl (lv_at hl 0 rfl) ?_
              refine va_get (D := D) (ci := 5) (v := .ref ((ad 10))) (C := RX5) (T := TX5) (N := 34) hx hb hts (by decide +kernel) hown hK hP 0 rfl rfl 10 (by decide) (hts (.fieldLink RX5 25 "CaskYardModel" "partMany" "[I") (by decide +kernel)) (fun _ h9 => h9) rfl dX5_take_28 ?_
              refine lv_aload_n hx hb dX5_take_31 rfl (lv_at hl 0 rfl) ?_
              refine va_get (D := D) (ci := 5) (v := .ref ((ad 32))) (C := RX5) (T := TX5) (N := 34) hx hb hts (by decide +kernel) hown hK hP 0 rfl rfl 32 (by decide) (hts (.fieldLink RX5 77 "CaskYardModel" "looked" "[I") (by decide +kernel)) (fun _ h9 => h9) rfl dX5_take_32 ?_
              refine lv_iload_n hx hb dX5_take_35 rfl (lv_at hl 2 rfl) ?_
              refine g_iald hx hb hK hP 23 0 rfl rfl (k) rfl (by omega) (by decide) dX5_take_36 ?_
              refine g_top (y := ((F 32) (k))) (congrFun (show F4 32 = F 32 by rw [hF4, va_up_ne _ _ (by decide), hF3, va_up_ne _ _ (by decide), hF2, va_up_ne _ _ (by decide), hF1, va_up_ne _ _ (by decide)]) (k)) ?_
              refine g_top (y := (nI (K k))) ((hlk k (by omega) hb1).1) ?_
              refine g_iald hx hb hK hP 6 0 rfl rfl (K k) rfl (by omega) (by decide) dX5_take_37 ?_
              refine g_top (y := ((F 10) (K k))) (congrFun (show F4 10 = F 10 by rw [hF4, va_up_ne _ _ (by decide), hF3, va_up_ne _ _ (by decide), hF2, va_up_ne _ _ (by decide), hF1, va_up_ne _ _ (by decide)]) (K k)) ?_
              refine g_top (y := (nI ((yP Y (K k)).length))) (hmB (K k) (by omega)).2.1 ?_
              refine g_icmp_ge (tgt := 82) hx hb dX5_take_38 (by decide) (n_i (by omega)) (n_i (by omega)) (fun c_38 => ?_) (fun c_38 => ?_)
              · skip
                have hie : i = (yP Y (K k)).length := by omega
                refine lv_iinc (v := (nI (k + 1))) (lv' := [(2, .int (nI (k + 1))), (0, .ref h0), (1, .int (nI (x))), (3, .int (nI (i)))]) hx hb dX5_take_82 hl (k := 2) rfl (nI_add _ _) (by decide) rfl (fun ls hl => ?_)
                refine lv_goto (tgt := 7) hx hb dX5_take_85 (by decide) ?_
                have hFe : F4 = (va_up (va_up F 22 (h22)) 23 (h23)) := fe2 eF4_22 eF4_23 (fun j_ a0_ a1_ => by rw [hF4, va_up_ne _ _ (by assumption), hF3, va_up_ne _ _ (by assumption), hF2, va_up_ne _ _ (by assumption), hF1, va_up_ne _ _ (by assumption)]) (by decide)
                rw [hFe] at hP hD
                exact ih_7 (n2) (k + 1) (h22) (h23) H locs hP hD hS (by omega) (by rw [takeS_t hb1, List.length_append, rowS_len, hn2]; omega) (by rw [takeS_t hb1, ← hie]; exact hA3) (by omega) ls (lv_sub hl [1, 2, 0] rfl)
              · skip
                refine lv_aload_n hx hb dX5_take_41 rfl (lv_at hl 0 rfl) ?_
                refine va_get (D := D) (ci := 5) (v := .ref ((ad 22))) (C := RX5) (T := TX5) (N := 34) hx hb hts (by decide +kernel) hown hK hP 0 rfl rfl 22 (by decide) (hts (.fieldLink RX5 62 "CaskYardModel" "setBolt" "[I") (by decide +kernel)) (fun _ h9 => h9) rfl dX5_take_42 ?_
                refine lv_aload_n hx hb dX5_take_45 rfl (lv_at hl 0 rfl) ?_
                refine va_get (D := D) (ci := 5) (v := .int (nI (n2))) (C := RX5) (T := TX5) (N := 34) hx hb hts (by decide +kernel) hown hK hP 0 rfl rfl 25 (by decide) (hts (.fieldLink RX5 155 "CaskYardModel" "setMany" "I") (by decide +kernel)) (fun _ h9 => h9) rfl dX5_take_46 ?_
                refine lv_aload_n hx hb dX5_take_49 rfl (lv_at hl 0 rfl) ?_
                refine va_get (D := D) (ci := 5) (v := .ref ((ad 32))) (C := RX5) (T := TX5) (N := 34) hx hb hts (by decide +kernel) hown hK hP 0 rfl rfl 32 (by decide) (hts (.fieldLink RX5 77 "CaskYardModel" "looked" "[I") (by decide +kernel)) (fun _ h9 => h9) rfl dX5_take_50 ?_
                refine lv_iload_n hx hb dX5_take_53 rfl (lv_at hl 2 rfl) ?_
                refine g_iald hx hb hK hP 23 0 rfl rfl (k) rfl (by omega) (by decide) dX5_take_54 ?_
                refine g_top (y := ((F 32) (k))) (congrFun (show F4 32 = F 32 by rw [hF4, va_up_ne _ _ (by decide), hF3, va_up_ne _ _ (by decide), hF2, va_up_ne _ _ (by decide), hF1, va_up_ne _ _ (by decide)]) (k)) ?_
                refine g_top (y := (nI (K k))) ((hlk k (by omega) hb1).1) ?_
                refine g_iast hx hb hK hP hD hS 18 0 rfl rfl (n2) rfl (by omega) (by decide) dX5_take_55 (fun H locs hP hD hS => ?_)
                rw [wMs_22] at hP hD
                rw [eF4_22] at hP hD
                obtain ⟨F5, hF5⟩ : ∃ G, G = va_up F4 22 (upd (h22) (n2) (nI (K k))) := ⟨_, rfl⟩
                rw [← hF5] at hP hD
                have eF5_22 : F5 22 = upd (h22) (n2) (nI (K k)) := by rw [hF5]; exact va_up_self _ _ _
                have eF5_23 : F5 23 = h23 := by rw [hF5, va_up_ne _ _ (by decide)]; exact eF4_23
                refine lv_aload_n hx hb dX5_take_56 rfl (lv_at hl 0 rfl) ?_
                refine va_get (D := D) (ci := 5) (v := .ref ((ad 23))) (C := RX5) (T := TX5) (N := 34) hx hb hts (by decide +kernel) hown hK hP 0 rfl rfl 23 (by decide) (hts (.fieldLink RX5 65 "CaskYardModel" "setPart" "[I") (by decide +kernel)) (fun _ h9 => h9) rfl dX5_take_57 ?_
                refine lv_aload_n hx hb dX5_take_60 rfl (lv_at hl 0 rfl) ?_
                refine va_get (D := D) (ci := 5) (v := .int (nI (n2))) (C := RX5) (T := TX5) (N := 34) hx hb hts (by decide +kernel) hown hK hP 0 rfl rfl 25 (by decide) (hts (.fieldLink RX5 155 "CaskYardModel" "setMany" "I") (by decide +kernel)) (fun _ h9 => h9) rfl dX5_take_61 ?_
                refine lv_iload_n hx hb dX5_take_64 rfl (lv_at hl 3 rfl) ?_
                refine g_iast hx hb hK hP hD hS 19 0 rfl rfl (n2) rfl (by omega) (by decide) dX5_take_65 (fun H locs hP hD hS => ?_)
                rw [wMs_23] at hP hD
                rw [eF5_23] at hP hD
                obtain ⟨F6, hF6⟩ : ∃ G, G = va_up F5 23 (upd (h23) (n2) (nI (i))) := ⟨_, rfl⟩
                rw [← hF6] at hP hD
                have eF6_23 : F6 23 = upd (h23) (n2) (nI (i)) := by rw [hF6]; exact va_up_self _ _ _
                have eF6_22 : F6 22 = upd (h22) (n2) (nI (K k)) := by rw [hF6, va_up_ne _ _ (by decide)]; exact eF5_22
                refine lv_aload_n hx hb dX5_take_66 rfl (lv_at hl 0 rfl) ?_
                refine lv_dup hx hb dX5_take_67 rfl ?_
                refine va_get (D := D) (ci := 5) (v := .int (nI (n2))) (C := RX5) (T := TX5) (N := 34) hx hb hts (by decide +kernel) hown hK hP 0 rfl rfl 25 (by decide) (hts (.fieldLink RX5 155 "CaskYardModel" "setMany" "I") (by decide +kernel)) (fun _ h9 => h9) rfl dX5_take_68 ?_
                refine lv_iconst (v := (nI (1))) hx hb dX5_take_71 (by decide) ?_
                refine g_iadd_n hx hb dX5_take_72 ?_
                refine va_put (D := D) (ci := 5) (v := .int (nI (n2 + 1))) (ty := .int) (C := RX5) (T := TX5) (N := 34) hx hb hts (by decide +kernel) tyX5 tyX5_ok nmX5 hown hK hP hD hS 0 rfl rfl 25 (by decide) (hts (.fieldLink RX5 155 "CaskYardModel" "setMany" "I") (by decide +kernel)) (fun _ h9 => h9) rfl (by decide +kernel) rfl rfl (Nat.le_of_ble_eq_true rfl) dX5_take_73 (fun H locs hP hD hS => ?_)
                have hP : va_P D vwCl (wM cy h0 ad (va_up I 25 (nI (n2 + 1))) F6) H := hP
                have hD : va_D A (wM cy h0 ad (va_up I 25 (nI (n2 + 1))) F6) := hD
                refine lv_iinc (v := (nI (i + 1))) (lv' := [(3, .int (nI (i + 1))), (0, .ref h0), (1, .int (nI (x))), (2, .int (nI (k)))]) hx hb dX5_take_76 hl (k := 3) rfl (nI_add _ _) (by decide) rfl (fun ls hl => ?_)
                refine lv_goto (tgt := 26) hx hb dX5_take_79 (by decide) ?_
                have hFe : F6 = (va_up (va_up F2 22 (upd (h22) (n2) (nI (K k)))) 23 (upd (h23) (n2) (nI (i)))) := fe2 eF6_22 eF6_23 (fun j_ a0_ a1_ => by rw [hF6, va_up_ne _ _ (by assumption), hF5, va_up_ne _ _ (by assumption), hF4, va_up_ne _ _ (by assumption), hF3, va_up_ne _ _ (by assumption)]) (by decide)
                rw [hFe] at hP hD
                exact ih_26 (n2 + 1) (i + 1) (upd (h22) (n2) (nI (K k))) (upd (h23) (n2) (nI (i))) H locs hP hD hS (by omega) (by omega) (by rw [rowS_s, ← List.append_assoc]; exact arrP_push hA3 (by rw [List.length_append, rowS_len]; omega)) (by omega) ls (lv_sub hl [1, 2, 3, 0] rfl)
          have hFe : F2 = (va_up (va_up F2 22 (g22)) 23 (g23)) := fe2 eF2_22 eF2_23 (fun j_ a0_ a1_ => rfl) (by decide)
          rw [hFe] at hP hD
          exact loop_26 _ (n) (0) (g22) (g23) H locs hP hD hS (by omega) (by omega) (by rw [show rowS 0 (K k) = [] from rfl, List.append_nil]; exact hA2) (Nat.lt_succ_self _) ls (lv_sub hl [1, 2, 3, 0] rfl)
        · skip
          have hb0 : x / 2 ^ k % 2 ≠ 1 := by omega
          refine lv_goto (tgt := 82) hx hb dX5_take_21 (by decide) ?_
          refine lv_iinc (v := (nI (k + 1))) (lv' := [(2, .int (nI (k + 1))), (0, .ref h0), (1, .int (nI (x)))]) hx hb dX5_take_82 hl (k := 2) rfl (nI_add _ _) (by decide) rfl (fun ls hl => ?_)
          refine lv_goto (tgt := 7) hx hb dX5_take_85 (by decide) ?_
          have hFe : F2 = (va_up (va_up F 22 (g22)) 23 (g23)) := fe2 eF2_22 eF2_23 (fun j_ a0_ a1_ => by rw [hF2, va_up_ne _ _ (by assumption), hF1, va_up_ne _ _ (by assumption)]) (by decide)
          rw [hFe] at hP hD
          exact ih_7 (n) (k + 1) (g22) (g23) H locs hP hD hS (by omega) (by rw [takeS_f hb0]; exact hn) (by rw [takeS_f hb0]; exact hA2) (by omega) ls (lv_sub hl [1, 2, 0] rfl)
  have hFe : F = (va_up (va_up F 22 (F 22)) 23 (F 23)) := fe2 rfl rfl (fun j_ a0_ a1_ => rfl) (by decide)
  rw [hFe] at hP hD
  exact loop_7 _ (0) (0) (F 22) (F 23) H locs hP hD hS (by omega) rfl (arrP_nil _ _ _) (Nat.lt_succ_self _) ls (lv_sub hl [1, 2, 0] rfl)
