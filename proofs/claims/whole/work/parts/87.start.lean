theorem g_newL {p : Program} {l : Launch} {e : Env} {R : Room} {s : State} {m : MethodId} {args : Array Value} {below : List Frame} {meth : Method} {c : Code} {H H0 : Heap} {locs : List Loc} {cells slots : Nat} {Q : State → Prop} {cc : ByteArray} {pc : Nat} {ls : Array Slot} {rest : List Value} {D : va_G} {ws : va_W} {A : Nat → Prop} {cy : Nat → ClassId} (hx : p.tables.exec = Jvm.exec) (hb : c.code = cc) (harr : (Cond.arrayClass .long).before args s = true) (hK : va_K D vwCl (tyL cy) s) (hP : va_P D vwCl ws H) (hD : va_D A ws) (hS : va_S A H0 H locs) (hA : ∀ q, H0.size ≤ q → A q) {n : Nat} (hn : n < 100000) (hcells : cells + 1 ≤ R.cells) (hslots : slots + n ≤ R.slots) (hd : decode cc pc = .ok (.newarray .long, 2))
    (k : ∀ (q : Nat) (H1 : Heap), va_P D vwCl (ws ++ [(q, .inl (cy 2, n, .inr (.inl (fun _ => 0))))]) H1 → va_D A (ws ++ [(q, .inl (cy 2, n, .inr (.inl (fun _ => 0))))]) → va_S A H0 H1 locs → W p l e R s m args below meth c H1 locs (cells + 1) (slots + n) Q (F0 m (pc + 2) ls (.ref q :: rest))) : W p l e R s m args below meth c H locs cells slots Q (F0 m pc ls (.int (nI n) :: rest)) := by
  refine va_newa (atype := .long) (a0 := (n, .inr (.inl (fun _ => 0)))) hx hb (ty := .long) harr rfl hK hP hD hS hA (fun _ => rfl) (n_not0 (by omega)) (nI_clamp (by omega)) (by show n * 8 ≤ _; omega) hcells hslots hd (fun q cA H1 hK1 hP1 hD1 hS1 => ?_)
  have e1 : cA = cy 2 := by
    have h1 := (hK1.2 6 (cA, .long) rfl).2
    have h2 := (hK1.2 2 (cy 2, .long) rfl).2
    exact Option.some.inj (h1.symm.trans h2)
  subst e1
  exact k q H1 hP1 hD1 hS1
theorem ar_prim {args : Array Value} {s : State} {ty : FieldType} (hp : ∀ n, ty ≠ .object n) (h : (Cond.arrayClass ty).before args s = true) : ∃ cA : ClassId, ArrOfT s cA ty ∧ s.vm.findClass ("[" ++ ty.toString) = some cA := by
  obtain ⟨cA, kA, comp, f1, f2, f3⟩ := Cond.arrayClass_spec h
  exact ⟨cA, fun N z => ⟨(fun k h => by cases h), kA, f2, comp, f3⟩, f1⟩
theorem ar_obj {args : Array Value} {s : State} {C : String} (h : (Cond.arrayOver (.object C)).before args s = true) : ∃ cA : ClassId, ArrOfT s cA (.object C) ∧ va_RA s cA (.object C) := by
  obtain ⟨comp, cA, kA, f1, -, f2, f3, f4⟩ := Cond.arrayOver_spec h
  exact ⟨cA, fun N z => ⟨(fun k h => by cases h), kA, f2, comp, f3⟩, kA, comp, f2, f3, f1, f4⟩
set_option maxHeartbeats 4000000 in
set_option maxRecDepth 100000 in
/-- what the walk knows, out of the tables -/
theorem law_know {p : Program} {s : State} {m : MethodId} {meth : Method} {c : Code} {b L : Nat} {xs : Nat → Int32} (C0 : lw_At p s m meth c b L xs) : ∃ (D : va_G) (cy : Nat → ClassId) (sa : Nat → Nat), LX p s m meth c b L xs D cy sa ∧ aoW s := by
  obtain ⟨hx, hb, hr, hml, hown, hts0, hX, hbl, hlocks, hgv⟩ := id C0
  have hts : ∀ w ∈ wsL_law, w.before #[Value.ref b] s = true := fun w hw => hts0 w (wsL_law_in w hw)
  have hs := flat_of_before _ hgv
  obtain ⟨c0, i0, k0⟩ := u_known (C := RX0) (T := TX0) (N := 4) (n := 4) hts inlX0 (hts0 (.instantiable RX0 4) (by decide +kernel))
  obtain ⟨c1, i1, k1⟩ := u_known (C := RX1) (T := TX1) (N := 8) (n := 8) hts inlX1 (hts0 (.instantiable RX1 8) (by decide +kernel))
  obtain ⟨c2, i2, k2⟩ := u_known (C := RX2) (T := TX2) (N := 4) (n := 4) hts inlX2 (hts0 (.instantiable RX2 4) (by decide +kernel))
  obtain ⟨c3, i3, k3⟩ := u_known (C := RX3) (T := TX3) (N := 14) (n := 14) hts inlX3 (hts0 (.instantiable RX3 14) (by decide +kernel))
  obtain ⟨c4, i4, k4⟩ := u_known (C := RX4) (T := TX4) (N := 11) (n := 11) hts inlX4 (hts0 (.instantiable RX4 11) (by decide +kernel))
  obtain ⟨c5, i5, k5⟩ := u_known (C := RX5) (T := TX5) (N := 34) (n := 34) hts inlX5 (hts0 (.instantiable RX5 34) (by decide +kernel))
  obtain ⟨y0, a0, r0⟩ := ar_prim (ty := .int) (fun _ h => by cases h) (hts0 (.arrayClass .int) (by decide +kernel))
  obtain ⟨y1, a1, r1⟩ := ar_prim (ty := .boolean) (fun _ h => by cases h) (hts0 (.arrayClass .boolean) (by decide +kernel))
  obtain ⟨y2, a2, r2⟩ := ar_prim (ty := .long) (fun _ h => by cases h) (hts0 (.arrayClass .long) (by decide +kernel))
  have o3 := hts0 (.arrayOver (.object "CaskYard$Form")) (by decide +kernel)
  have o4 := hts0 (.arrayOver (.object "CaskYard$Bolt")) (by decide +kernel)
  have o5 := hts0 (.arrayOver (.object "CaskYard$Cask")) (by decide +kernel)
  obtain ⟨y3, a3, r3⟩ := ar_obj o3
  obtain ⟨y4, a4, r4⟩ := ar_obj o4
  obtain ⟨y5, a5, r5⟩ := ar_obj o5
  have hE : ∀ q ∈ xT, (Cond.exactly (.string RX4 q.1) "java/lang/String").before #[Value.ref b] s = true ∧ (Cond.stringRef RX4 q.1 q.2).before #[Value.ref b] s = true := by
    intro q hq
    simp only [xT, List.mem_cons, List.not_mem_nil, or_false] at hq
    rcases hq with rfl | rfl | rfl | rfl | rfl | rfl | rfl | rfl | rfl | rfl | rfl | rfl <;> exact ⟨hs _ (by decide +kernel), hts0 _ (by decide +kernel)⟩
  refine ⟨(fun k => if k = 0 then c0 else if k = 1 then c1 else if k = 2 then c2 else if k = 3 then c3 else if k = 4 then c4 else c5, fun k => if k = 0 then i0 else if k = 1 then i1 else if k = 2 then i2 else if k = 3 then i3 else if k = 4 then i4 else i5), (fun k => if k = 0 then y0 else if k = 1 then y1 else if k = 2 then y2 else if k = 3 then y3 else if k = 4 then y4 else y5), (fun k => match (Term.string RX4 k).eval #[Value.ref b] s none [] s with | some (.ref a) => a | _ => 0), ⟨C0, ⟨?_, ?_⟩, ⟨va_Nw.of rfl (hts0 _ (by decide +kernel)), va_Nw.of rfl (hts0 _ (by decide +kernel)), va_Nw.of rfl (hts0 _ (by decide +kernel))⟩, ⟨fun q hq => ?_, ⟨va_Nw.of rfl (hts0 _ (by decide +kernel)), va_Nw.of rfl (hts0 _ (by decide +kernel)), va_Nw.of rfl (hts0 _ (by decide +kernel))⟩, va_Nw.of rfl (hts0 _ (by decide +kernel)), va_Nw.of rfl (hts0 _ (by decide +kernel))⟩, ⟨?_, ?_⟩, va_Nc.of (hs _ (by decide +kernel))⟩, va_AO.of o3, va_AO.of o4, va_AO.of o5⟩
  · intro k q hq
    match k, hq with
    | 0, hq => cases hq; exact k0
    | 1, hq => cases hq; exact k1
    | 2, hq => cases hq; exact k2
    | 3, hq => cases hq; exact k3
    | 4, hq => cases hq; exact k4
    | 5, hq => cases hq; exact k5
    | k + 6, hq => simp [vwCl] at hq
  · intro k q hq
    match k, hq with
    | 0, hq => cases hq; exact ⟨a0, r0⟩
    | 1, hq => cases hq; exact ⟨a1, r1⟩
    | 2, hq => cases hq; exact ⟨a2, r2⟩
    | 3, hq => cases hq; exact ⟨a3, r3⟩
    | 4, hq => cases hq; exact ⟨a4, r4⟩
    | 5, hq => cases hq; exact ⟨a5, r5⟩
    | k + 6, hq => simp [tyL] at hq
  · obtain ⟨a, c9, cell, k9, q1, -⟩ := Cond.exactly_spec (hE q hq).1
    show vk_R RX4 q.1 q.2 (match (Term.string RX4 q.1).eval #[Value.ref b] s none [] s with | some (.ref a) => a | _ => 0) s
    rw [q1]
    exact vk_R.of (hE q hq).2 q1
  · exact vx_Zqof (hts0 _ (by decide +kernel)) (hts0 _ (by decide +kernel)) (hs _ (by decide +kernel)) (fun a ha => Nat.not_le.mpr ha)
  · exact vx_Zqof (hts0 _ (by decide +kernel)) (hts0 _ (by decide +kernel)) (hs _ (by decide +kernel)) (fun a ha => Nat.not_le.mpr ha)
set_option maxHeartbeats 4000000 in
set_option maxRecDepth 100000 in
/-- from the entry, for every script of at most 2560 ints, the law comes to its end with true -/
theorem whole_start {p : Program} {e : Env} {s : State} {m : MethodId} {below : List Frame} {meth : Method} {c : Code} (l : Launch) (hlt : l.stackTraces = false) {b L : Nat} {xs : Nat → Int32} (hL : L ≤ 2560) (C0 : lw_At p s m meth c b L xs) : W p l e room_1 s m #[Value.ref b] below meth c s.heap [] 0 0 (lw_Z below #[Value.ref b] s) (entryFrame m ([Value.ref b] : List Value).toArray 8) := by
  obtain ⟨D, cy, sa, C, hAO⟩ := law_know C0
  obtain ⟨⟨hx, hb, hr, hml, hown, hts0, hX, hbl, hlocks, hgv⟩, hK, hN, hXE, hZ, hC⟩ := id C
  have hown : s.vm.findClass RL = some m.cls := hown
  have hts : ∀ w ∈ wsL_law, w.before #[Value.ref b] s = true := fun w hw => hts0 w (wsL_law_in w hw)
  have hA : ∀ z : Nat, s.heap.size ≤ z → (fun z : Nat => s.heap.size ≤ z) z := fun _ h => h
  have hS : va_S (fun z : Nat => s.heap.size ≤ z) s.heap s.heap [] := va_S.rf
  have hP : va_P D vwCl [] s.heap := fun k q h => by simp at h
  have hD : va_D (fun z : Nat => s.heap.size ≤ z) [] := ⟨fun i j p q h => by simp at h, fun k q h => by simp at h⟩
  have hl := lv_entry ([.ref b]) (n := 8) (Nat.le_of_ble_eq_true rfl)
  rw [lg_entry_eq]
  generalize (lg_sl ([.ref b]) ++ List.replicate (8 - (lg_sl ([.ref b])).length) Slot.unset).toArray = ls at hl ⊢
  have hl : lv_has ls 8 [(0, .ref b)] := hl
  refine va_new (ci := 4) (fs := [.null, .null, .null, .null, .null, .null, .null, .int (nI (0)), .int (nI (0)), .int (nI (0)), .int (nI (0))]) (C := RX4) (T := TX4) (N := 11) hx hb hts inlX4 tyX4 tyX4_ok hown (hts0 (.classLink RL 8 RX4) (by decide +kernel)) (hts0 (.instantiable RX4 11) (by decide +kernel)) (hts0 (.initialized RX4) (by decide +kernel)) hK hP hD hS hA rfl (fun j hj => by rcases (show j = 0 ∨ j = 1 ∨ j = 2 ∨ j = 3 ∨ j = 4 ∨ j = 5 ∨ j = 6 ∨ j = 7 ∨ j = 8 ∨ j = 9 ∨ j = 10 by omega) with rfl | rfl | rfl | rfl | rfl | rfl | rfl | rfl | rfl | rfl | rfl <;> rfl) (Nat.le_of_ble_eq_true rfl) (Nat.le_of_ble_eq_true rfl) dL_law_0 (fun q H hP hD hS => ?_)
  have hP : va_P D vwCl (kW [0] (fun _ => q) (fun _ => .inr (4, [.null, .null, .null, .null, .null, .null, .null, .int (nI (0)), .int (nI (0)), .int (nI (0)), .int (nI (0))]))) H := hP
  have hD : va_D (fun z : Nat => s.heap.size ≤ z) (kW [0] (fun _ => q) (fun _ => .inr (4, [.null, .null, .null, .null, .null, .null, .null, .int (nI (0)), .int (nI (0)), .int (nI (0)), .int (nI (0))]))) := hD
  refine lv_dup hx hb dL_law_3 rfl ?_
  have hFc := w_free hD hS hA
  refine va_callv (va_runI (As := []) (rest := [.ref q]) ⟨hx, hb, hml, hown, hts⟩ (c_X4_init l D cy H.size (fun _ => q) (fun _ => .inr (4, [.null, .null, .null, .null, .null, .null, .null, .int (nI (0)), .int (nI (0)), .int (nI (0)), .int (nI (0))])) rfl) (cwI 0 hts gL_law_X4_init rfl rfl rfl (hts0 (.initialized RX4) (by decide +kernel)) (hts0 (.methodLink RL 91 yX4_init) (by decide +kernel)) (hts0 (.instanceMethod yX4_init) (by decide +kernel)) rfl (by decide +kernel) ⟨Nat.le_of_ble_eq_true rfl, Nat.le_of_ble_eq_true rfl⟩) ⟨wB3_blind, wB3_pre hP hK hD hN hAO⟩ rfl rfl hl.1 rfl (lv_room (Nat.le_of_ble_eq_true rfl)) dL_law_4 ⟨Nat.le_of_ble_eq_true rfl, Nat.le_of_ble_eq_true rfl⟩) hS (fun q _ h => hFc q h) hFc (fun u t9 H locs ht hvm hw hB hz1 hk1 hS => ?_)
  obtain ⟨hP1, hK1, hD1⟩ := hB
  rw [ht] at hP1
  obtain ⟨w, hYW, hP, hD⟩ : ∃ w : va_W, YW cy q y0 w ∧ va_P D vwCl w H ∧ va_D (fun z : Nat => s.heap.size ≤ z) w := ⟨_, ⟨_, u.1, u.2, rfl, hw.1, hw.2.1, hw.2.2⟩, hP1, hD1.weaken (fun _ _ _ h => hFc _ h)⟩
  refine W.widen (k := 21) (n := 475) (by omega) (by omega) ?_
  refine lv_astore_n (lv' := [(1, .ref q), (0, .ref b)]) hx hb dL_law_7 rfl hl (by decide) rfl (fun ls hl => ?_)
  refine va_new (ci := 5) (fs := [.int (nI (0)), .int (nI (0)), .int (nI (0)), .int (nI (0)), .int (nI (0)), .null, .null, .null, .null, .null, .null, .null, .null, .null, .null, .null, .null, .null, .null, .null, .null, .null, .null, .null, .null, .int (nI (0)), .int (nI (0)), .int (nI (0)), .int (nI (0)), .int (nI (0)), .null, .null, .null, .null]) (C := RX5) (T := TX5) (N := 34) hx hb hts inlX5 tyX5 tyX5_ok hown (hts0 (.classLink RL 92 RX5) (by decide +kernel)) (hts0 (.instantiable RX5 34) (by decide +kernel)) (hts0 (.initialized RX5) (by decide +kernel)) hK hP hD hS hA rfl (fun j hj => by rcases (show j = 0 ∨ j = 1 ∨ j = 2 ∨ j = 3 ∨ j = 4 ∨ j = 5 ∨ j = 6 ∨ j = 7 ∨ j = 8 ∨ j = 9 ∨ j = 10 ∨ j = 11 ∨ j = 12 ∨ j = 13 ∨ j = 14 ∨ j = 15 ∨ j = 16 ∨ j = 17 ∨ j = 18 ∨ j = 19 ∨ j = 20 ∨ j = 21 ∨ j = 22 ∨ j = 23 ∨ j = 24 ∨ j = 25 ∨ j = 26 ∨ j = 27 ∨ j = 28 ∨ j = 29 ∨ j = 30 ∨ j = 31 ∨ j = 32 ∨ j = 33 by omega) with rfl | rfl | rfl | rfl | rfl | rfl | rfl | rfl | rfl | rfl | rfl | rfl | rfl | rfl | rfl | rfl | rfl | rfl | rfl | rfl | rfl | rfl | rfl | rfl | rfl | rfl | rfl | rfl | rfl | rfl | rfl | rfl | rfl | rfl <;> rfl) (Nat.le_of_ble_eq_true rfl) (Nat.le_of_ble_eq_true rfl) dL_law_8 (fun h H hP hD hS => ?_)
  have hP : va_P D vwCl (kW [0] (fun _ => h) (fun _ => .inr (5, [.int (nI (0)), .int (nI (0)), .int (nI (0)), .int (nI (0)), .int (nI (0)), .null, .null, .null, .null, .null, .null, .null, .null, .null, .null, .null, .null, .null, .null, .null, .null, .null, .null, .null, .null, .int (nI (0)), .int (nI (0)), .int (nI (0)), .int (nI (0)), .int (nI (0)), .null, .null, .null, .null])) ++ w) H := fr_sP hP
  have hD : va_D (fun z : Nat => s.heap.size ≤ z) (kW [0] (fun _ => h) (fun _ => .inr (5, [.int (nI (0)), .int (nI (0)), .int (nI (0)), .int (nI (0)), .int (nI (0)), .null, .null, .null, .null, .null, .null, .null, .null, .null, .null, .null, .null, .null, .null, .null, .null, .null, .null, .null, .null, .int (nI (0)), .int (nI (0)), .int (nI (0)), .int (nI (0)), .int (nI (0)), .null, .null, .null, .null])) ++ w) := fr_sD hD
  refine lv_dup hx hb dL_law_11 rfl ?_
  have hPm := fr_P1 hP
  have hDm := fr_D1 hD
  have hFc := w_free hDm hS hA
  refine va_callv (va_runI (As := []) (rest := [.ref h]) ⟨hx, hb, hml, hown, hts⟩ (c_X5_init l D cy H.size (fun _ => h) (fun _ => .inr (5, [.int (nI (0)), .int (nI (0)), .int (nI (0)), .int (nI (0)), .int (nI (0)), .null, .null, .null, .null, .null, .null, .null, .null, .null, .null, .null, .null, .null, .null, .null, .null, .null, .null, .null, .null, .int (nI (0)), .int (nI (0)), .int (nI (0)), .int (nI (0)), .int (nI (0)), .null, .null, .null, .null])) rfl) (cwI 0 hts gL_law_X5_init rfl rfl rfl (hts0 (.initialized RX5) (by decide +kernel)) (hts0 (.methodLink RL 94 yX5_init) (by decide +kernel)) (hts0 (.instanceMethod yX5_init) (by decide +kernel)) rfl (by decide +kernel) ⟨Nat.le_of_ble_eq_true rfl, Nat.le_of_ble_eq_true rfl⟩) ⟨wB2_blind, wB2_pre hPm hK hDm hN⟩ rfl rfl hl.1 rfl (lv_room (Nat.le_of_ble_eq_true rfl)) dL_law_12 ⟨Nat.le_of_ble_eq_true rfl, Nat.le_of_ble_eq_true rfl⟩) hS (fun q _ h => hFc q h) hFc (fun u2 t9 H locs ht hvm hw2 hB hz1 hk1 hS => ?_)
  obtain ⟨hP2, hK2, hD2⟩ := hB
  rw [ht] at hP2
  obtain ⟨hP, hD⟩ := fr_J hP hD hk1 hFc hP2 hD2
  obtain ⟨e0, g21, hg21, ew⟩ := hw2
  rw [ew] at hP hD
  have hh : u2.1 0 = h := e0
  rw [hh] at hP hD
  refine W.widen (k := 46) (n := 8878) (by omega) (by omega) ?_
  refine lv_astore_n (lv' := [(2, .ref h), (1, .ref q), (0, .ref b)]) hx hb dL_law_15 rfl hl (by decide) rfl (fun ls hl => ?_)
  refine lv_iconst (v := nI 1) hx hb dL_law_16 (by decide) ?_
  refine g_newL hx hb (hts0 (.arrayClass .long) (by decide +kernel)) hK hP hD hS hA (by decide) (Nat.le_of_ble_eq_true rfl) (Nat.le_of_ble_eq_true rfl) dL_law_17 (fun o H hP hD hS => ?_)
  rw [List.append_assoc] at hP hD
  have hP := fr_sP hP
  have hD := fr_sD hD
  refine W.widen (k := 60 + 10 * 0) (n := 9000 + 300 * 0) (by omega) (by omega) ?_
  refine lv_astore_n (lv' := [(3, .ref o), (2, .ref h), (1, .ref q), (0, .ref b)]) hx hb dL_law_19 rfl hl (by decide) rfl (fun ls hl => ?_)
  refine lv_iconst (v := nI (5 * 0)) hx hb dL_law_20 (by decide) ?_
  refine lv_istore (lv' := [(4, .int (nI (5 * 0))), (3, .ref o), (2, .ref h), (1, .ref q), (0, .ref b)]) hx hb dL_law_21 hl (by decide) rfl (fun ls hl => ?_)
  exact law_loop hlt C hL (L + 1) 0 (by omega) (by omega) H locs ls ⟨y0, w, _, _, _, hYW, WF_0, MR_0 hg21, hP, hD, hS⟩ (lv_sub hl [4, 3, 2, 1, 0] rfl)
