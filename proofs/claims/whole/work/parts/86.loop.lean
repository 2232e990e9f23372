set_option maxHeartbeats 4000000 in
set_option maxRecDepth 100000 in
/-- the law's loop: k rounds are done -/
theorem law_loop {p : Program} {l : Launch} {e : Env} {s : State} {m : MethodId} {below : List Frame} {meth : Method} {c : Code} {b L : Nat} {xs : Nat → Int32} {D : va_G} {cy : Nat → ClassId} {sa : Nat → Nat} (hlt : l.stackTraces = false) (C : LX p s m meth c b L xs D cy sa) (hLb : L ≤ 2560) {q h o : Nat} {adM : Nat → Nat} : ∀ (n k : Nat), L + 1 ≤ 5 * k + n → 5 * k ≤ L → ∀ (H : Heap) (locs : List Loc) (ls : Array Slot), LI D cy s q h o adM H locs → lv_has ls 8 [(0, .ref b), (1, .ref q), (2, .ref h), (3, .ref o), (4, .int (nI (5 * k)))] → W p l e room_1 s m #[Value.ref b] below meth c H locs (60 + 10 * k) (9000 + 300 * k) (lw_Z below #[Value.ref b] s) (F0 m 23 ls []) := by
  intro n
  induction n with
  | zero =>
    intro k h1 h2
    exact absurd h1 (by omega)
  | succ n ih =>
    intro k h1 h2 H locs ls hI hl
    obtain ⟨⟨hx, hb, hr, hml, hown, hts0, hX, hbl, hlocks, hgv⟩, hK, hN, hXE, hZ, hC⟩ := id C
    have hbA : ¬ (fun z : Nat => s.heap.size ≤ z) b := Nat.not_le.mpr hbl
    have hS : va_S (fun z : Nat => s.heap.size ≤ z) s.heap H locs := by
      obtain ⟨_, _, _, _, _, _, _, _, _, _, hS⟩ := id hI
      exact hS
    refine lv_iload hx hb dL_law_23 (lv_at hl 4 rfl) ?_
    refine lv_aload_n hx hb dL_law_25 rfl (lv_at hl 0 rfl) ?_
    refine va_slen hx hb hX hbl hbA hS dL_law_26 ?_
    refine lv_iconst (v := zI 5) hx hb dL_law_27 (by decide) ?_
    refine g_isub_z (i := (L : Int)) (j := 5) hx hb dL_law_28 rfl rfl ?_
    refine g_icmp_gt (tgt := 1899) (i := ((5 * k : Nat) : Int)) (j := (L : Int) - 5) hx hb dL_law_29 (by decide) (n_i (by omega)) (zI_toInt (by omega) (by omega)) (fun _ => ?_) (fun c1 => ?_)
    · refine lv_iconst (v := 1) hx hb dL_law_1899 (by decide) ?_
      refine va_forget (fun q hq => hS.2.2 q hq) ?_
      refine W.widen (k := 601024) (n := 7293034) (by omega) (by omega) ?_
      exact lw_ret hx hb hr hlocks dL_law_1900
    · have hi : 5 * k + 5 ≤ L := by omega
      have hc : (60 + 10 * k) + 10 ≤ 601024 := by omega
      have hs : (9000 + 300 * k) + 300 ≤ 7293034 := by omega
      have kk : ∀ (H : Heap) (locs : List Loc) (ls : Array Slot), LI D cy s q h o adM H locs → lv_has ls 8 [(0, .ref b), (1, .ref q), (2, .ref h), (3, .ref o), (4, .int (nI (5 * k)))] → W p l e room_1 s m #[Value.ref b] below meth c H locs (60 + 10 * k + 10) (9000 + 300 * k + 300) (lw_Z below #[Value.ref b] s) (F0 m 1893 ls []) := by
        intro H locs ls hI hl
        refine lv_iinc (v := nI (5 * k + 5)) (lv' := [(4, .int (nI (5 * k + 5))), (0, .ref b), (1, .ref q), (2, .ref h), (3, .ref o)]) hx hb dL_law_1893 hl (k := 4) rfl (nI_add _ _) (by decide) rfl (fun ls hl => ?_)
        refine lv_goto (tgt := 23) hx hb dL_law_1896 (by decide) ?_
        have hl : lv_has ls 8 [(0, .ref b), (1, .ref q), (2, .ref h), (3, .ref o), (4, .int (nI (5 * k + 5)))] := lv_sub hl [1, 2, 3, 4, 0] rfl
        rw [show 5 * k + 5 = 5 * (k + 1) by omega] at hl
        rw [show 60 + 10 * k + 10 = 60 + 10 * (k + 1) by omega, show 9000 + 300 * k + 300 = 9000 + 300 * (k + 1) by omega]
        exact ih (k + 1) (by omega) (by omega) H locs ls hI hl
      refine lv_aload_n hx hb dL_law_32 rfl (lv_at hl 0 rfl) ?_
      refine lv_iload hx hb dL_law_33 (lv_at hl 4 rfl) ?_
      refine g_sc hx hb hX hbl hbA hS (by omega) hLb dL_law_35 ?_
      refine lv_bipush (v := 31) hx hb dL_law_36 (by decide) ?_
      refine lv_iand hx hb dL_law_38 ?_
      generalize xs (5 * k) &&& 31 = x
      rcases (show x.toInt = 0 ∨ x.toInt = 1 ∨ x.toInt = 2 ∨ x.toInt = 3 ∨ x.toInt = 4 ∨ x.toInt = 5 ∨ x.toInt = 6 ∨ x.toInt = 7 ∨ x.toInt = 8 ∨ x.toInt = 9 ∨ x.toInt = 10 ∨ x.toInt = 11 ∨ x.toInt = 12 ∨ x.toInt = 13 ∨ x.toInt = 14 ∨ x.toInt = 15 ∨ x.toInt = 16 ∨ x.toInt = 17 ∨ x.toInt = 18 ∨ x.toInt = 19 ∨ x.toInt = 20 ∨ x.toInt = 21 ∨ x.toInt = 22 ∨ x.toInt = 23 ∨ x.toInt = 24 ∨ (x.toInt < 0 ∨ 24 < x.toInt) by omega) with hq | hq | hq | hq | hq | hq | hq | hq | hq | hq | hq | hq | hq | hq | hq | hq | hq | hq | hq | hq | hq | hq | hq | hq | hq | hq
      · refine lv_tableIn (tgt := 152) hx hb dL_law_39 (by omega) (by omega) (by rw [hq]; rfl) (by decide) ?_
        exact law_form hlt C hLb hc hs hi hI hl kk
      · refine lv_tableIn (tgt := 213) hx hb dL_law_39 (by omega) (by omega) (by rw [hq]; rfl) (by decide) ?_
        exact law_girth hlt C hLb hc hs hi hI hl kk
      · refine lv_tableIn (tgt := 281) hx hb dL_law_39 (by omega) (by omega) (by rw [hq]; rfl) (by decide) ?_
        exact law_width hlt C hLb hc hs hi hI hl kk
      · refine lv_tableIn (tgt := 361) hx hb dL_law_39 (by omega) (by omega) (by rw [hq]; rfl) (by decide) ?_
        exact law_holds hlt C hLb hc hs hi hI hl kk
      · refine lv_tableIn (tgt := 429) hx hb dL_law_39 (by omega) (by omega) (by rw [hq]; rfl) (by decide) ?_
        exact law_level hlt C hLb hc hs hi hI hl kk
      · refine lv_tableIn (tgt := 497) hx hb dL_law_39 (by omega) (by omega) (by rw [hq]; rfl) (by decide) ?_
        exact law_head hlt C hLb hc hs hi hI hl kk
      · refine lv_tableIn (tgt := 553) hx hb dL_law_39 (by omega) (by omega) (by rw [hq]; rfl) (by decide) ?_
        exact law_days hlt C hLb hc hs hi hI hl kk
      · refine lv_tableIn (tgt := 609) hx hb dL_law_39 (by omega) (by omega) (by rw [hq]; rfl) (by decide) ?_
        exact law_bolt hlt C hLb hc hs hi hI hl kk
      · refine lv_tableIn (tgt := 634) hx hb dL_law_39 (by omega) (by omega) (by rw [hq]; rfl) (by decide) ?_
        exact law_flaw hlt C hLb hc hs hi hI hl kk
      · refine lv_tableIn (tgt := 714) hx hb dL_law_39 (by omega) (by omega) (by rw [hq]; rfl) (by decide) ?_
        exact law_clear hlt C hLb hc hs hi hI hl kk
      · refine lv_tableIn (tgt := 794) hx hb dL_law_39 (by omega) (by omega) (by rw [hq]; rfl) (by decide) ?_
        exact law_ripe hlt C hLb hc hs hi hI hl kk
      · refine lv_tableIn (tgt := 857) hx hb dL_law_39 (by omega) (by omega) (by rw [hq]; rfl) (by decide) ?_
        exact law_fewest hlt C hLb hc hs hi hI hl kk
      · refine lv_tableIn (tgt := 913) hx hb dL_law_39 (by omega) (by omega) (by rw [hq]; rfl) (by decide) ?_
        exact law_make hlt C hLb hc hs hi hI hl kk
      · refine lv_tableIn (tgt := 969) hx hb dL_law_39 (by omega) (by omega) (by rw [hq]; rfl) (by decide) ?_
        exact law_stave hlt C hLb hc hs hi hI hl kk
      · refine lv_tableIn (tgt := 1049) hx hb dL_law_39 (by omega) (by omega) (by rw [hq]; rfl) (by decide) ?_
        exact law_formOf hlt C hLb hc hs hi hI hl kk
      · refine lv_tableIn (tgt := 1105) hx hb dL_law_39 (by omega) (by omega) (by rw [hq]; rfl) (by decide) ?_
        exact law_bars hlt C hLb hc hs hi hI hl kk
      · refine lv_tableIn (tgt := 1208) hx hb dL_law_39 (by omega) (by omega) (by rw [hq]; rfl) (by decide) ?_
        exact law_may hlt C hLb hc hs hi hI hl kk
      · refine lv_tableIn (tgt := 1283) hx hb dL_law_39 (by omega) (by omega) (by rw [hq]; rfl) (by decide) ?_
        exact law_tell hlt C hLb hc hs hi hI hl kk
      · refine lv_tableIn (tgt := 1363) hx hb dL_law_39 (by omega) (by omega) (by rw [hq]; rfl) (by decide) ?_
        exact law_held hlt C hLb hc hs hi hI hl kk
      · refine lv_tableIn (tgt := 1443) hx hb dL_law_39 (by omega) (by omega) (by rw [hq]; rfl) (by decide) ?_
        exact law_lacks hlt C hLb hc hs hi hI hl kk
      · refine lv_tableIn (tgt := 1535) hx hb dL_law_39 (by omega) (by omega) (by rw [hq]; rfl) (by decide) ?_
        exact law_swap hlt C hLb hc hs hi hI hl kk
      · refine lv_tableIn (tgt := 1634) hx hb dL_law_39 (by omega) (by omega) (by rw [hq]; rfl) (by decide) ?_
        exact law_renew hlt C hLb hc hs hi hI hl kk
      · refine lv_tableIn (tgt := 1702) hx hb dL_law_39 (by omega) (by omega) (by rw [hq]; rfl) (by decide) ?_
        exact law_weight hlt C hLb hc hs hi hI hl kk
      · refine lv_tableIn (tgt := 1770) hx hb dL_law_39 (by omega) (by omega) (by rw [hq]; rfl) (by decide) ?_
        exact law_weighs hlt C hLb hc hs hi hI hl kk
      · refine lv_tableIn (tgt := 1837) hx hb dL_law_39 (by omega) (by omega) (by rw [hq]; rfl) (by decide) ?_
        exact law_count hlt C hLb hc hs hi hI hl kk
      · refine lv_tableOut (tgt := 1893) hx hb dL_law_39 hq (by decide) ?_
        refine W.widen (k := 60 + 10 * k + 10) (n := 9000 + 300 * k + 300) (by omega) (by omega) ?_
        exact kk _ _ _ hI hl
