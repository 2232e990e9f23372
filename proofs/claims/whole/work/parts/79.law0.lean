/-! the law: two worlds side by side -/
theorem fr_L {w1 w2 : va_W} {k : Nat} {q : Nat × va_E} (h : w1[k]? = some q) : (w1 ++ w2)[k]? = some q := by
  rw [List.getElem?_append_left (List.getElem?_eq_some_iff.mp h).1]; exact h
theorem fr_R {w1 w2 : va_W} {k : Nat} {q : Nat × va_E} (h : w2[k]? = some q) : (w1 ++ w2)[w1.length + k]? = some q := by
  rw [List.getElem?_append_right (Nat.le_add_right _ _), Nat.add_sub_cancel_left]; exact h
theorem fr_or {w1 w2 : va_W} {k : Nat} {q : Nat × va_E} (h : (w1 ++ w2)[k]? = some q) : (k < w1.length ∧ w1[k]? = some q) ∨ (w1.length ≤ k ∧ w2[k - w1.length]? = some q) := by
  by_cases hk : k < w1.length
  · left; rw [List.getElem?_append_left hk] at h; exact ⟨hk, h⟩
  · right; rw [List.getElem?_append_right (by omega)] at h; exact ⟨by omega, h⟩
theorem fr_P1 {D : va_G} {cl : List vw_C} {w1 w2 : va_W} {H : Heap} (h : va_P D cl (w1 ++ w2) H) : va_P D cl w1 H := fun k q hk => h k q (fr_L hk)
theorem fr_P2 {D : va_G} {cl : List vw_C} {w1 w2 : va_W} {H : Heap} (h : va_P D cl (w1 ++ w2) H) : va_P D cl w2 H := fun k q hk => h (w1.length + k) q (fr_R hk)
theorem fr_D1 {A : Nat → Prop} {w1 w2 : va_W} (h : va_D A (w1 ++ w2)) : va_D A w1 := ⟨fun i j p q hi hj e => h.1 i j p q (fr_L hi) (fr_L hj) e, fun k q hk => h.2 k q (fr_L hk)⟩
theorem fr_D2 {A : Nat → Prop} {w1 w2 : va_W} (h : va_D A (w1 ++ w2)) : va_D A w2 := ⟨fun i j p q hi hj e => Nat.add_left_cancel (h.1 _ _ p q (fr_R hi) (fr_R hj) e), fun k q hk => h.2 _ q (fr_R hk)⟩
theorem fr_sP {D : va_G} {cl : List vw_C} {w1 w2 : va_W} {H : Heap} (h : va_P D cl (w1 ++ w2) H) : va_P D cl (w2 ++ w1) H := fun k q hk => by
  rcases fr_or hk with ⟨-, h1⟩ | ⟨-, h1⟩
  · exact h _ q (fr_R h1)
  · exact h _ q (fr_L h1)
theorem fr_sD {A : Nat → Prop} {w1 w2 : va_W} (h : va_D A (w1 ++ w2)) : va_D A (w2 ++ w1) := by
  refine ⟨fun i j p q hi hj e => ?_, fun k q hk => ?_⟩
  · rcases fr_or hi with ⟨a1, h1⟩ | ⟨a1, h1⟩ <;> rcases fr_or hj with ⟨a2, h2⟩ | ⟨a2, h2⟩
    · have := h.1 _ _ p q (fr_R h1) (fr_R h2) e; omega
    · have := h.1 _ _ p q (fr_R h1) (fr_L h2) e
      have := (List.getElem?_eq_some_iff.mp h2).1; omega
    · have := h.1 _ _ p q (fr_L h1) (fr_R h2) e
      have := (List.getElem?_eq_some_iff.mp h1).1; omega
    · have := h.1 _ _ p q (fr_L h1) (fr_L h2) e; omega
  · rcases fr_or hk with ⟨-, h1⟩ | ⟨-, h1⟩
    · exact h.2 _ q (fr_R h1)
    · exact h.2 _ q (fr_L h1)
/-- behind a call that had the first of two worlds -/
theorem fr_J {A : Nat → Prop} {D : va_G} {cl : List vw_C} {w1 w2 w3 : va_W} {H H1 : Heap} (hP : va_P D cl (w1 ++ w2) H) (hD : va_D A (w1 ++ w2)) (hk : ∀ q : Nat, q < H.size → ¬ va_A w1 H.size q → H1[q]? = H[q]?) (hF : ∀ q, va_A w1 H.size q → A q) (hP1 : va_P D cl w3 H1) (hD1 : va_D (va_A w1 H.size) w3) : va_P D cl (w3 ++ w2) H1 ∧ va_D A (w3 ++ w2) := by
  have apart : ∀ (k : Nat) (q : Nat × va_E), w2[k]? = some q → q.1 < H.size ∧ ¬ va_A w1 H.size q.1 := by
    intro k q hq
    have hl := (hP _ q (fr_R hq)).lt
    refine ⟨hl, fun h => ?_⟩
    rcases h with ⟨k2, e, h⟩ | h
    · have h5 := hD.1 _ _ q (q.1, e) (fr_R hq) (fr_L h) rfl
      have := (List.getElem?_eq_some_iff.mp h).1; omega
    · omega
  refine ⟨fun k q hq => ?_, fun i j x y hi hj e => ?_, fun k q hq => ?_⟩
  · rcases fr_or hq with ⟨-, h1⟩ | ⟨-, h1⟩
    · exact hP1 _ q h1
    · obtain ⟨g1, g2⟩ := apart _ q h1
      exact (hP _ q (fr_R h1)).kept (hk q.1 g1 g2)
  · rcases fr_or hi with ⟨a1, h1⟩ | ⟨a1, h1⟩ <;> rcases fr_or hj with ⟨a2, h2⟩ | ⟨a2, h2⟩
    · exact hD1.1 _ _ x y h1 h2 e
    · exact absurd (hD1.2 _ x h1) (by rw [e]; exact (apart _ y h2).2)
    · exact absurd (hD1.2 _ y h2) (by rw [← e]; exact (apart _ x h1).2)
    · have := hD.1 _ _ x y (fr_R h1) (fr_R h2) e; omega
  · rcases fr_or hq with ⟨-, h1⟩ | ⟨-, h1⟩
    · exact hF _ (hD1.2 _ q h1)
    · exact hD.2 _ q (fr_R h1)
/-- the law's row of one long -/
abbrev oC (cy : Nat → ClassId) (f : Nat → Int64) : va_E := .inl (cy 2, 1, .inr (.inl f))
/-- these cells are a yard at q that holds Y -/
def YW (cy : Nat → ClassId) (q : Nat) (Y : YT) (w : va_W) : Prop := ∃ (K : List Nat) (ad : Nat → Nat) (E : Nat → va_E), w = kW K ad E ∧ ad 0 = q ∧ KR K Y ∧ YR cy ad E Y
theorem YW_eq {cy : Nat → ClassId} {q : Nat} {Y Y' : YT} {w : va_W} (h : YW cy q Y w) (e : Y' = Y) : YW cy q Y' w := by rw [e]; exact h
/-- a helper's end: the code, the answer in the law's row, the yard behind it -/
def HP (cy : Nat → ClassId) (q : Nat) (c : Nat) (v : Int64) (Y : YT) (r : Int32) (u : va_W × (Nat → Int64)) : Prop := r = nI c ∧ (c = 0 → u.2 0 = v) ∧ YW cy q Y u.1
def wL (D : va_G) (cy : Nat → ClassId) (sz : Nat) (sa : Nat → Nat) (ws : va_W) (U : State) : Prop := wX D cy sz sa ws U ∧ va_Nc "java/lang/IllegalArgumentException" "java/util/NoSuchElementException" U
theorem wL_blind {D : va_G} {cy : Nat → ClassId} {sz : Nat} {sa : Nat → Nat} {ws : va_W} {av : List Value} : FrameBlind (va_Pc av (wL D cy sz sa ws)) := fun a U g mk q => ⟨q.1, (wX_blind (av := av) a U g mk ⟨q.1, q.2.1⟩).2, va_Nc.moved (u := U) (U := U.calling g mk a) (Vm.Alike.refl U.vm) q.2.2⟩
theorem wL_pre {D : va_G} {cy : Nat → ClassId} {sa : Nat → Nat} {ws : va_W} {s : State} {H : Heap} {A : Nat → Prop} {locs : List Loc} {av : List Value} (hP : va_P D vwCl ws H) (hK : va_K D vwCl (tyL cy) s) (hD : va_D A ws) (hN : nW s) (hX : xE sa s) (hZ : zW A s s.heap) (hS : va_S A s.heap H locs) (hA : ∀ q, s.heap.size ≤ q → A q) (hC : va_Nc "java/lang/IllegalArgumentException" "java/util/NoSuchElementException" s) : ∀ U : State, U.heap = H → s.WarmedH U.vm → va_Pc av (wL D cy H.size sa ws) av.toArray U := fun U hU hW => ⟨rfl, (wX_pre (av := av) hP hK hD hN hX hZ hS hA U hU hW).2, va_Nc.moved hW.alike hC⟩
theorem KR_eq {K : List Nat} {Y Y' : YT} (h : KR K Y) (e : Y'.1 1 = Y.1 1 ∧ Y'.1 2 = Y.1 2 ∧ Y'.1 3 = Y.1 3) : KR K Y' := fun k => by
  have h1 := h k
  simp only [keyOk, yF, yB, yC] at h1
  simp only [keyOk, yF, yB, yC, e.1, e.2.1, e.2.2]
  exact h1
theorem fr_set (w : va_W) (x y : Nat × va_E) : (w ++ [x]).set w.length y = w ++ [y] := by simp
theorem fr_get (w : va_W) (x : Nat × va_E) : (w ++ [x])[w.length]? = some x := by simp
theorem updL_0 (f : Nat → Int64) (v : Int64) : vp_updL f (0 : Int32).toNatClampNeg v 0 = v := rfl
theorem lc_self (x : Int64) : lg_cmp x x = 0 := by unfold lg_cmp; simp
theorem bN (P : Prop) [Decidable P] : bI P = nI (if P then 1 else 0) := by
  by_cases h : P
  · rw [bI_t h, if_pos h]
  · rw [bI_f h, if_neg h]
section LR
variable {p : Program} {l : Launch} {e : Env} {R : Room} {s : State} {m : MethodId} {args : Array Value} {below : List Frame} {meth : Method} {c : Code} {H : Heap} {locs : List Loc} {cells slots : Nat} {Q : State → Prop} {cc : ByteArray} {pc : Nat} {ls : Array Slot} {rest : List Value}
/-- x != 0 as an int -/
theorem g_nz (hx : p.tables.exec = Jvm.exec) (hb : c.code = cc) {x v : Int32} (d0 : decode cc pc = .ok (.ifCond .eq 7, 3)) (d1 : decode cc (pc + 3) = .ok (.iconst 1, 1)) (d2 : decode cc (pc + 4) = .ok (.goto 4, 3)) (d3 : decode cc (pc + 7) = .ok (.iconst 0, 1)) (hv : v = if x = 0 then 0 else 1)
    (k : W p l e R s m args below meth c H locs cells slots Q (F0 m (pc + 8) ls (.int v :: rest))) : W p l e R s m args below meth c H locs cells slots Q (F0 m pc ls (.int x :: rest)) := by
  refine lv_if_eq (tgt := pc + 7) hx hb d0 (by omega) (fun h => ?_) (fun h => ?_)
  · refine lv_iconst (v := 0) hx hb d3 (by decide) ?_
    rw [hv, if_pos h] at k; exact k
  · refine lv_iconst (v := 1) hx hb d1 (by decide) ?_
    refine lv_goto (tgt := pc + 8) hx hb d2 (by omega) ?_
    rw [hv, if_neg h] at k; exact k
/-- x != 0 as a long -/
theorem g_nzl (hx : p.tables.exec = Jvm.exec) (hb : c.code = cc) {x : Int32} (d0 : decode cc pc = .ok (.ifCond .eq 7, 3)) (d1 : decode cc (pc + 3) = .ok (.lconst 1, 1)) (d2 : decode cc (pc + 4) = .ok (.goto 4, 3)) (d3 : decode cc (pc + 7) = .ok (.lconst 0, 1))
    (k : W p l e R s m args below meth c H locs cells slots Q (F0 m (pc + 8) ls (.long (if x = 0 then 0 else 1) :: rest))) : W p l e R s m args below meth c H locs cells slots Q (F0 m pc ls (.int x :: rest)) := by
  refine lv_if_eq (tgt := pc + 7) hx hb d0 (by omega) (fun h => ?_) (fun h => ?_)
  · refine lv_lconst (v := 0) hx hb d3 (by decide) ?_
    rw [if_pos h] at k; exact k
  · refine lv_lconst (v := 1) hx hb d1 (by decide) ?_
    refine lv_goto (tgt := pc + 8) hx hb d2 (by omega) ?_
    rw [if_neg h] at k; exact k
end LR
theorem sx_girth {Y : YT} {a b : Int32} (h : (sp_girth Y a b).1 ≠ 0) : (sp_girth Y a b).2.2 = Y := by
  revert h; unfold sp_girth; (repeat' split) <;> intro h <;> first | rfl | exact absurd rfl h
theorem sb_girth {Y : YT} {a b : Int32} : (sp_girth Y a b).1 ≤ 2 := by
  unfold sp_girth; (repeat' split) <;> first | exact Nat.zero_le _ | exact Nat.le_refl _ | exact Nat.le_succ 1
theorem WF_girth {Y : YT} (hY : WF Y) (a b : Int32) : WF (sp_girth Y a b).2.2 := by
  have h : (sp_girth Y a b).2.2 = Y := by unfold sp_girth; (repeat' split) <;> rfl
  rw [h]; exact hY
theorem sx_width {Y : YT} {a b v : Int32} (h : (sp_width Y a b v).1 ≠ 0) : (sp_width Y a b v).2.2 = Y := by
  revert h; unfold sp_width; (repeat' split) <;> intro h <;> first | rfl | exact absurd rfl h
theorem sb_width {Y : YT} {a b v : Int32} : (sp_width Y a b v).1 ≤ 2 := by
  unfold sp_width; (repeat' split) <;> first | exact Nat.zero_le _ | exact Nat.le_refl _ | exact Nat.le_succ 1
theorem WF_width {Y : YT} (hY : WF Y) (a b v : Int32) : WF (sp_width Y a b v).2.2 := by
  have h : (sp_width Y a b v).2.2 = Y := by unfold sp_width; (repeat' split) <;> rfl
  rw [h]; exact hY
theorem sx_holds {Y : YT} {a b : Int32} (h : (sp_holds Y a b).1 ≠ 0) : (sp_holds Y a b).2.2 = Y := by
  revert h; unfold sp_holds; (repeat' split) <;> intro h <;> first | rfl | exact absurd rfl h
theorem sb_holds {Y : YT} {a b : Int32} : (sp_holds Y a b).1 ≤ 2 := by
  unfold sp_holds; (repeat' split) <;> first | exact Nat.zero_le _ | exact Nat.le_refl _ | exact Nat.le_succ 1
theorem WF_holds {Y : YT} (hY : WF Y) (a b : Int32) : WF (sp_holds Y a b).2.2 := by
  have h : (sp_holds Y a b).2.2 = Y := by unfold sp_holds; (repeat' split) <;> rfl
  rw [h]; exact hY
theorem sx_level {Y : YT} {a b : Int32} (h : (sp_level Y a b).1 ≠ 0) : (sp_level Y a b).2.2 = Y := by
  revert h; unfold sp_level; (repeat' split) <;> intro h <;> first | rfl | exact absurd rfl h
theorem sb_level {Y : YT} {a b : Int32} : (sp_level Y a b).1 ≤ 2 := by
  unfold sp_level; (repeat' split) <;> first | exact Nat.zero_le _ | exact Nat.le_refl _ | exact Nat.le_succ 1
theorem WF_level {Y : YT} (hY : WF Y) (a b : Int32) : WF (sp_level Y a b).2.2 := by
  have h : (sp_level Y a b).2.2 = Y := by unfold sp_level; (repeat' split) <;> rfl
  rw [h]; exact hY
theorem sx_head {Y : YT} {a : Int32} (h : (sp_head Y a).1 ≠ 0) : (sp_head Y a).2.2 = Y := by
  revert h; unfold sp_head; (repeat' split) <;> intro h <;> first | rfl | exact absurd rfl h
theorem sb_head {Y : YT} {a : Int32} : (sp_head Y a).1 ≤ 1 := by
  unfold sp_head; (repeat' split) <;> first | exact Nat.zero_le _ | exact Nat.le_refl _ | exact Nat.le_succ 1
theorem WF_head {Y : YT} (hY : WF Y) (a : Int32) : WF (sp_head Y a).2.2 := by
  have h : (sp_head Y a).2.2 = Y := by unfold sp_head; (repeat' split) <;> rfl
  rw [h]; exact hY
theorem sx_days {Y : YT} {a : Int32} (h : (sp_days Y a).1 ≠ 0) : (sp_days Y a).2.2 = Y := by
  revert h; unfold sp_days; (repeat' split) <;> intro h <;> first | rfl | exact absurd rfl h
theorem sb_days {Y : YT} {a : Int32} : (sp_days Y a).1 ≤ 1 := by
  unfold sp_days; (repeat' split) <;> first | exact Nat.zero_le _ | exact Nat.le_refl _ | exact Nat.le_succ 1
theorem sx_flaw {Y : YT} {a b v : Int32} (h : (sp_flaw Y a b v).1 ≠ 0) : (sp_flaw Y a b v).2.2 = Y := by
  revert h; unfold sp_flaw; (repeat' split) <;> intro h <;> first | rfl | exact absurd rfl h
theorem sb_flaw {Y : YT} {a b v : Int32} : (sp_flaw Y a b v).1 ≤ 1 := by
  unfold sp_flaw; (repeat' split) <;> first | exact Nat.zero_le _ | exact Nat.le_refl _ | exact Nat.le_succ 1
theorem sx_clear {Y : YT} {a b v : Int32} (h : (sp_clear Y a b v).1 ≠ 0) : (sp_clear Y a b v).2.2 = Y := by
  revert h; unfold sp_clear; (repeat' split) <;> intro h <;> first | rfl | exact absurd rfl h
theorem sb_clear {Y : YT} {a b v : Int32} : (sp_clear Y a b v).1 ≤ 1 := by
  unfold sp_clear; (repeat' split) <;> first | exact Nat.zero_le _ | exact Nat.le_refl _ | exact Nat.le_succ 1
theorem WF_clear {Y : YT} (hY : WF Y) (a b v : Int32) : WF (sp_clear Y a b v).2.2 := by
  have h : (sp_clear Y a b v).2.2 = Y := by unfold sp_clear; (repeat' split) <;> rfl
  rw [h]; exact hY
theorem sx_ripe {Y : YT} {a : Int32} (h : (sp_ripe Y a).1 ≠ 0) : (sp_ripe Y a).2.2 = Y := by
  revert h; unfold sp_ripe; (repeat' split) <;> intro h <;> first | rfl | exact absurd rfl h
theorem sb_ripe {Y : YT} {a : Int32} : (sp_ripe Y a).1 ≤ 1 := by
  unfold sp_ripe; (repeat' split) <;> first | exact Nat.zero_le _ | exact Nat.le_refl _ | exact Nat.le_succ 1
theorem WF_ripe {Y : YT} (hY : WF Y) (a : Int32) : WF (sp_ripe Y a).2.2 := by
  have h : (sp_ripe Y a).2.2 = Y := by unfold sp_ripe; (repeat' split) <;> rfl
  rw [h]; exact hY
theorem sx_fewest {Y : YT} {a : Int32} (h : (sp_fewest Y a).1 ≠ 0) : (sp_fewest Y a).2.2 = Y := by
  revert h; unfold sp_fewest; (repeat' split) <;> intro h <;> first | rfl | exact absurd rfl h
theorem sb_fewest {Y : YT} {a : Int32} : (sp_fewest Y a).1 ≤ 1 := by
  unfold sp_fewest; (repeat' split) <;> first | exact Nat.zero_le _ | exact Nat.le_refl _ | exact Nat.le_succ 1
theorem WF_fewest {Y : YT} (hY : WF Y) (a : Int32) : WF (sp_fewest Y a).2.2 := by
  have h : (sp_fewest Y a).2.2 = Y := by unfold sp_fewest; (repeat' split) <;> rfl
  rw [h]; exact hY
theorem sx_make {Y : YT} {a : Int32} (h : (sp_make Y a).1 ≠ 0) : (sp_make Y a).2.2 = Y := by
  revert h; unfold sp_make; (repeat' split) <;> intro h <;> first | rfl | exact absurd rfl h
theorem sb_make {Y : YT} {a : Int32} : (sp_make Y a).1 ≤ 1 := by
  unfold sp_make; (repeat' split) <;> first | exact Nat.zero_le _ | exact Nat.le_refl _ | exact Nat.le_succ 1
theorem sx_stave {Y : YT} {a b v : Int32} (h : (sp_stave Y a b v).1 ≠ 0) : (sp_stave Y a b v).2.2 = Y := by
  revert h; unfold sp_stave; (repeat' split) <;> intro h <;> first | rfl | exact absurd rfl h
theorem sb_stave {Y : YT} {a b v : Int32} : (sp_stave Y a b v).1 ≤ 1 := by
  unfold sp_stave; (repeat' split) <;> first | exact Nat.zero_le _ | exact Nat.le_refl _ | exact Nat.le_succ 1
theorem WF_stave {Y : YT} (hY : WF Y) (a b v : Int32) : WF (sp_stave Y a b v).2.2 := by
  have h : (sp_stave Y a b v).2.2 = Y := by unfold sp_stave; (repeat' split) <;> rfl
  rw [h]; exact hY
theorem sx_formOf {Y : YT} {a : Int32} (h : (sp_formOf Y a).1 ≠ 0) : (sp_formOf Y a).2.2 = Y := by
  revert h; unfold sp_formOf; (repeat' split) <;> intro h <;> first | rfl | exact absurd rfl h
theorem sb_formOf {Y : YT} {a : Int32} : (sp_formOf Y a).1 ≤ 1 := by
  unfold sp_formOf; (repeat' split) <;> first | exact Nat.zero_le _ | exact Nat.le_refl _ | exact Nat.le_succ 1
theorem WF_formOf {Y : YT} (hY : WF Y) (a : Int32) : WF (sp_formOf Y a).2.2 := by
  have h : (sp_formOf Y a).2.2 = Y := by unfold sp_formOf; (repeat' split) <;> rfl
  rw [h]; exact hY
theorem sx_may {Y : YT} {a b : Int32} (h : (sp_may Y a b).1 ≠ 0) : (sp_may Y a b).2.2 = Y := by
  revert h; unfold sp_may; (repeat' split) <;> intro h <;> first | rfl | exact absurd rfl h
theorem sb_may {Y : YT} {a b : Int32} : (sp_may Y a b).1 ≤ 2 := by
  unfold sp_may; (repeat' split) <;> first | exact Nat.zero_le _ | exact Nat.le_refl _ | exact Nat.le_succ 1
theorem WF_may {Y : YT} (hY : WF Y) (a b : Int32) : WF (sp_may Y a b).2.2 := by
  have h : (sp_may Y a b).2.2 = Y := by unfold sp_may; (repeat' split) <;> rfl
  rw [h]; exact hY
theorem sx_tell {Y : YT} {a b v : Int32} (h : (sp_tell Y a b v).1 ≠ 0) : (sp_tell Y a b v).2.2 = Y := by
  revert h; unfold sp_tell; (repeat' split) <;> intro h <;> first | rfl | exact absurd rfl h
theorem sb_tell {Y : YT} {a b v : Int32} : (sp_tell Y a b v).1 ≤ 2 := by
  unfold sp_tell; (repeat' split) <;> first | exact Nat.zero_le _ | exact Nat.le_refl _ | exact Nat.le_succ 1
theorem sx_held {Y : YT} {a b v : Int32} (h : (sp_held Y a b v).1 ≠ 0) : (sp_held Y a b v).2.2 = Y := by
  revert h; unfold sp_held; (repeat' split) <;> intro h <;> first | rfl | exact absurd rfl h
theorem sb_held {Y : YT} {a b v : Int32} : (sp_held Y a b v).1 ≤ 1 := by
  unfold sp_held; (repeat' split) <;> first | exact Nat.zero_le _ | exact Nat.le_refl _ | exact Nat.le_succ 1
theorem WF_held {Y : YT} (hY : WF Y) (a b v : Int32) : WF (sp_held Y a b v).2.2 := by
  have h : (sp_held Y a b v).2.2 = Y := by unfold sp_held; (repeat' split) <;> rfl
  rw [h]; exact hY
theorem sx_lacks {Y : YT} {a b v w : Int32} (h : (sp_lacks Y a b v w).1 ≠ 0) : (sp_lacks Y a b v w).2.2 = Y := by
  revert h; unfold sp_lacks; (repeat' split) <;> intro h <;> first | rfl | exact absurd rfl h
theorem sb_lacks {Y : YT} {a b v w : Int32} : (sp_lacks Y a b v w).1 ≤ 2 := by
  unfold sp_lacks; (repeat' split) <;> first | exact Nat.zero_le _ | exact Nat.le_refl _ | exact Nat.le_succ 1
theorem WF_lacks {Y : YT} (hY : WF Y) (a b v w : Int32) : WF (sp_lacks Y a b v w).2.2 := by
  have h : (sp_lacks Y a b v w).2.2 = Y := by unfold sp_lacks; (repeat' split) <;> rfl
  rw [h]; exact hY
theorem sx_swap {Y : YT} {a b v w : Int32} (h : (sp_swap Y a b v w).1 ≠ 0) : (sp_swap Y a b v w).2.2 = Y := by
  revert h; unfold sp_swap; (repeat' split) <;> intro h <;> first | rfl | exact absurd rfl h
theorem sb_swap {Y : YT} {a b v w : Int32} : (sp_swap Y a b v w).1 ≤ 1 := by
  unfold sp_swap; (repeat' split) <;> first | exact Nat.zero_le _ | exact Nat.le_refl _ | exact Nat.le_succ 1
theorem sx_renew {Y : YT} {a b : Int32} (h : (sp_renew Y a b).1 ≠ 0) : (sp_renew Y a b).2.2 = Y := by
  revert h; unfold sp_renew; (repeat' split) <;> intro h <;> first | rfl | exact absurd rfl h
theorem sb_renew {Y : YT} {a b : Int32} : (sp_renew Y a b).1 ≤ 1 := by
  unfold sp_renew; (repeat' split) <;> first | exact Nat.zero_le _ | exact Nat.le_refl _ | exact Nat.le_succ 1
theorem sx_weight {Y : YT} {a b : Int32} (h : (sp_weight Y a b).1 ≠ 0) : (sp_weight Y a b).2.2 = Y := by
  revert h; unfold sp_weight; (repeat' split) <;> intro h <;> first | rfl | exact absurd rfl h
theorem sb_weight {Y : YT} {a b : Int32} : (sp_weight Y a b).1 ≤ 1 := by
  unfold sp_weight; (repeat' split) <;> first | exact Nat.zero_le _ | exact Nat.le_refl _ | exact Nat.le_succ 1
theorem sx_weighs {Y : YT} {a b : Int32} (h : (sp_weighs Y a b).1 ≠ 0) : (sp_weighs Y a b).2.2 = Y := by
  revert h; unfold sp_weighs; (repeat' split) <;> intro h <;> first | rfl | exact absurd rfl h
theorem sb_weighs {Y : YT} {a b : Int32} : (sp_weighs Y a b).1 ≤ 2 := by
  unfold sp_weighs; (repeat' split) <;> first | exact Nat.zero_le _ | exact Nat.le_refl _ | exact Nat.le_succ 1
theorem WF_weighs {Y : YT} (hY : WF Y) (a b : Int32) : WF (sp_weighs Y a b).2.2 := by
  have h : (sp_weighs Y a b).2.2 = Y := by unfold sp_weighs; (repeat' split) <;> rfl
  rw [h]; exact hY
theorem sx_count {Y : YT} {a : Int32} (h : (sp_count Y a).1 ≠ 0) : (sp_count Y a).2.2 = Y := by
  revert h; unfold sp_count; (repeat' split) <;> intro h <;> first | rfl | exact absurd rfl h
theorem sb_count {Y : YT} {a : Int32} : (sp_count Y a).1 ≤ 1 := by
  unfold sp_count; (repeat' split) <;> first | exact Nat.zero_le _ | exact Nat.le_refl _ | exact Nat.le_succ 1
theorem WF_count {Y : YT} (hY : WF Y) (a : Int32) : WF (sp_count Y a).2.2 := by
  have h : (sp_count Y a).2.2 = Y := by unfold sp_count; (repeat' split) <;> rfl
  rw [h]; exact hY
theorem kr_girth {Y : YT} {a b : Int32} : (sp_girth Y a b).2.2.1 1 = Y.1 1 ∧ (sp_girth Y a b).2.2.1 2 = Y.1 2 ∧ (sp_girth Y a b).2.2.1 3 = Y.1 3 := by
  unfold sp_girth; (repeat' split) <;> exact ⟨rfl, rfl, rfl⟩
theorem kr_width {Y : YT} {a b v : Int32} : (sp_width Y a b v).2.2.1 1 = Y.1 1 ∧ (sp_width Y a b v).2.2.1 2 = Y.1 2 ∧ (sp_width Y a b v).2.2.1 3 = Y.1 3 := by
  unfold sp_width; (repeat' split) <;> exact ⟨rfl, rfl, rfl⟩
theorem kr_holds {Y : YT} {a b : Int32} : (sp_holds Y a b).2.2.1 1 = Y.1 1 ∧ (sp_holds Y a b).2.2.1 2 = Y.1 2 ∧ (sp_holds Y a b).2.2.1 3 = Y.1 3 := by
  unfold sp_holds; (repeat' split) <;> exact ⟨rfl, rfl, rfl⟩
theorem kr_level {Y : YT} {a b : Int32} : (sp_level Y a b).2.2.1 1 = Y.1 1 ∧ (sp_level Y a b).2.2.1 2 = Y.1 2 ∧ (sp_level Y a b).2.2.1 3 = Y.1 3 := by
  unfold sp_level; (repeat' split) <;> exact ⟨rfl, rfl, rfl⟩
theorem kr_head {Y : YT} {a : Int32} : (sp_head Y a).2.2.1 1 = Y.1 1 ∧ (sp_head Y a).2.2.1 2 = Y.1 2 ∧ (sp_head Y a).2.2.1 3 = Y.1 3 := by
  unfold sp_head; (repeat' split) <;> exact ⟨rfl, rfl, rfl⟩
theorem kr_days {Y : YT} {a : Int32} : (sp_days Y a).2.2.1 1 = Y.1 1 ∧ (sp_days Y a).2.2.1 2 = Y.1 2 ∧ (sp_days Y a).2.2.1 3 = Y.1 3 := by
  unfold sp_days; (repeat' split) <;> exact ⟨rfl, rfl, rfl⟩
theorem kr_flaw {Y : YT} {a b v : Int32} : (sp_flaw Y a b v).2.2.1 1 = Y.1 1 ∧ (sp_flaw Y a b v).2.2.1 2 = Y.1 2 ∧ (sp_flaw Y a b v).2.2.1 3 = Y.1 3 := by
  unfold sp_flaw; (repeat' split) <;> exact ⟨rfl, rfl, rfl⟩
theorem kr_clear {Y : YT} {a b v : Int32} : (sp_clear Y a b v).2.2.1 1 = Y.1 1 ∧ (sp_clear Y a b v).2.2.1 2 = Y.1 2 ∧ (sp_clear Y a b v).2.2.1 3 = Y.1 3 := by
  unfold sp_clear; (repeat' split) <;> exact ⟨rfl, rfl, rfl⟩
theorem kr_ripe {Y : YT} {a : Int32} : (sp_ripe Y a).2.2.1 1 = Y.1 1 ∧ (sp_ripe Y a).2.2.1 2 = Y.1 2 ∧ (sp_ripe Y a).2.2.1 3 = Y.1 3 := by
  unfold sp_ripe; (repeat' split) <;> exact ⟨rfl, rfl, rfl⟩
theorem kr_fewest {Y : YT} {a : Int32} : (sp_fewest Y a).2.2.1 1 = Y.1 1 ∧ (sp_fewest Y a).2.2.1 2 = Y.1 2 ∧ (sp_fewest Y a).2.2.1 3 = Y.1 3 := by
  unfold sp_fewest; (repeat' split) <;> exact ⟨rfl, rfl, rfl⟩
theorem kr_stave {Y : YT} {a b v : Int32} : (sp_stave Y a b v).2.2.1 1 = Y.1 1 ∧ (sp_stave Y a b v).2.2.1 2 = Y.1 2 ∧ (sp_stave Y a b v).2.2.1 3 = Y.1 3 := by
  unfold sp_stave; (repeat' split) <;> exact ⟨rfl, rfl, rfl⟩
theorem kr_formOf {Y : YT} {a : Int32} : (sp_formOf Y a).2.2.1 1 = Y.1 1 ∧ (sp_formOf Y a).2.2.1 2 = Y.1 2 ∧ (sp_formOf Y a).2.2.1 3 = Y.1 3 := by
  unfold sp_formOf; (repeat' split) <;> exact ⟨rfl, rfl, rfl⟩
theorem kr_may {Y : YT} {a b : Int32} : (sp_may Y a b).2.2.1 1 = Y.1 1 ∧ (sp_may Y a b).2.2.1 2 = Y.1 2 ∧ (sp_may Y a b).2.2.1 3 = Y.1 3 := by
  unfold sp_may; (repeat' split) <;> exact ⟨rfl, rfl, rfl⟩
theorem kr_tell {Y : YT} {a b v : Int32} : (sp_tell Y a b v).2.2.1 1 = Y.1 1 ∧ (sp_tell Y a b v).2.2.1 2 = Y.1 2 ∧ (sp_tell Y a b v).2.2.1 3 = Y.1 3 := by
  unfold sp_tell; (repeat' split) <;> exact ⟨rfl, rfl, rfl⟩
theorem kr_held {Y : YT} {a b v : Int32} : (sp_held Y a b v).2.2.1 1 = Y.1 1 ∧ (sp_held Y a b v).2.2.1 2 = Y.1 2 ∧ (sp_held Y a b v).2.2.1 3 = Y.1 3 := by
  unfold sp_held; (repeat' split) <;> exact ⟨rfl, rfl, rfl⟩
theorem kr_lacks {Y : YT} {a b v w : Int32} : (sp_lacks Y a b v w).2.2.1 1 = Y.1 1 ∧ (sp_lacks Y a b v w).2.2.1 2 = Y.1 2 ∧ (sp_lacks Y a b v w).2.2.1 3 = Y.1 3 := by
  unfold sp_lacks; (repeat' split) <;> exact ⟨rfl, rfl, rfl⟩
theorem kr_swap {Y : YT} {a b v w : Int32} : (sp_swap Y a b v w).2.2.1 1 = Y.1 1 ∧ (sp_swap Y a b v w).2.2.1 2 = Y.1 2 ∧ (sp_swap Y a b v w).2.2.1 3 = Y.1 3 := by
  unfold sp_swap; (repeat' split) <;> exact ⟨rfl, rfl, rfl⟩
theorem kr_renew {Y : YT} {a b : Int32} : (sp_renew Y a b).2.2.1 1 = Y.1 1 ∧ (sp_renew Y a b).2.2.1 2 = Y.1 2 ∧ (sp_renew Y a b).2.2.1 3 = Y.1 3 := by
  unfold sp_renew; (repeat' split) <;> exact ⟨rfl, rfl, rfl⟩
theorem kr_weight {Y : YT} {a b : Int32} : (sp_weight Y a b).2.2.1 1 = Y.1 1 ∧ (sp_weight Y a b).2.2.1 2 = Y.1 2 ∧ (sp_weight Y a b).2.2.1 3 = Y.1 3 := by
  unfold sp_weight; (repeat' split) <;> exact ⟨rfl, rfl, rfl⟩
theorem kr_weighs {Y : YT} {a b : Int32} : (sp_weighs Y a b).2.2.1 1 = Y.1 1 ∧ (sp_weighs Y a b).2.2.1 2 = Y.1 2 ∧ (sp_weighs Y a b).2.2.1 3 = Y.1 3 := by
  unfold sp_weighs; (repeat' split) <;> exact ⟨rfl, rfl, rfl⟩
theorem kr_count {Y : YT} {a : Int32} : (sp_count Y a).2.2.1 1 = Y.1 1 ∧ (sp_count Y a).2.2.1 2 = Y.1 2 ∧ (sp_count Y a).2.2.1 3 = Y.1 3 := by
  unfold sp_count; (repeat' split) <;> exact ⟨rfl, rfl, rfl⟩
theorem kr_bars {Y : YT} {a b : Int32} {x : Nat} : (sp_bars Y a b x).2.2.1 1 = Y.1 1 ∧ (sp_bars Y a b x).2.2.1 2 = Y.1 2 ∧ (sp_bars Y a b x).2.2.1 3 = Y.1 3 := by
  unfold sp_bars; (repeat' split) <;> exact ⟨rfl, rfl, rfl⟩
theorem sx_bars {Y : YT} {a b : Int32} {x : Nat} (h : (sp_bars Y a b x).1 ≠ 0) : (sp_bars Y a b x).2.2 = Y := by
  revert h; unfold sp_bars; (repeat' split) <;> intro h <;> first | rfl | exact absurd rfl h
theorem sb_bars {Y : YT} {a b : Int32} {x : Nat} : (sp_bars Y a b x).1 ≤ 1 := by
  unfold sp_bars; (repeat' split) <;> first | exact Nat.zero_le _ | exact Nat.le_refl _
