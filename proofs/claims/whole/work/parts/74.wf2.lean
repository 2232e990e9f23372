theorem cut1_ok {x y : Nat} {q : Nat × Nat} (h : q.2 ≤ 600) : ∀ z ∈ cut1 x y q, z.1 < z.2 ∧ z.2 ≤ 600 := by
  intro z hz
  unfold cut1 at hz
  rw [List.mem_append] at hz
  rcases hz with hz | hz
  · split at hz
    · rw [List.mem_singleton] at hz; subst hz; dsimp only; omega
    · cases hz
  · split at hz
    · rw [List.mem_singleton] at hz; subst hz; dsimp only; omega
    · cases hz
theorem WF_flaw {Y : YT} (hY : WF Y) (a b v : Int32) : WF (sp_flaw Y a b v).2.2 := by
  unfold sp_flaw
  split
  next q =>
    split
    · split
      next q3 =>
        refine WF_parts hY ⟨q3, fun z hz => ?_⟩
        rw [cutL, List.mem_flatMap] at hz
        obtain ⟨p, hp, hz⟩ := hz
        exact cut1_ok ((hY.2.2.2.2.2.1 _ (ix_lt q)).2.2 p hp).2 z hz
      · exact hY
    · exact hY
  · exact hY
theorem plan_mem {Y : YT} {wd nr : Nat} : ∀ (T : List (Nat × Nat)) (a n : Nat), ∀ z ∈ planT Y wd nr T a n, (z.1, z.2.1) ∈ T
  | [], _, _, z, h => by simp [planT] at h
  | t :: T, a, n, z, h => by
    rw [planT, List.mem_cons] at h
    rcases h with rfl | h
    · exact List.mem_cons_self
    · exact List.mem_cons_of_mem _ (plan_mem T _ _ z h)
theorem am_no {wd nr b p : Nat} : ∀ (Z : List (Nat × Nat × Nat × Nat)), (∀ z ∈ Z, (z.1, z.2.1) ≠ (b, p)) → amN wd nr Z b p = 0
  | [], _ => rfl
  | z :: Z, h => by
    rw [amN, am_no Z (fun z' h' => h z' (List.mem_cons_of_mem _ h')), if_neg (fun q => h z List.mem_cons_self (by rw [q.1, q.2]))]
theorem am_pl {Y : YT} {wd nr b p : Nat} : ∀ (T : List (Nat × Nat)) (a n : Nat), T.Pairwise (· ≠ ·) → amN wd nr (planT Y wd nr T a n) b p ≤ plen Y (b, p)
  | [], _, _, _ => Nat.zero_le _
  | t :: T, a, n, h => by
    rw [List.pairwise_cons] at h
    rw [planT, amN]
    dsimp only
    have h1 := chN_le (wd := wd) (nr := nr) (L := plen Y t) (a := a) (n := n) (Ls := lenL Y T) (min a (plen Y t / wd))
    revert h1
    generalize chN wd nr (lenL Y T) (plen Y t) a n (min a (plen Y t / wd)) = k
    intro h1
    have ih := am_pl (Y := Y) (wd := wd) (nr := nr) (b := b) (p := p) T (a - k) (n - min n ((plen Y t - k * wd) / nr)) h.2
    by_cases e : b = t.1 ∧ p = t.2
    · have e2 : t = (b, p) := by rw [e.1, e.2]
      rw [if_pos e, am_no _ (fun z hz q => h.1 _ (plan_mem T _ _ z hz) (by rw [q, e2])), ← e2]
      have h2 : k * wd ≤ plen Y t := Nat.le_trans (Nat.mul_le_mul_right _ (Nat.le_trans h1 (Nat.min_le_right _ _))) (Nat.div_mul_le_self _ _)
      have h3 : min n ((plen Y t - k * wd) / nr) * nr ≤ plen Y t - k * wd := Nat.le_trans (Nat.mul_le_mul_right _ (Nat.min_le_right _ _)) (Nat.div_mul_le_self _ _)
      omega
    · rw [if_neg e]; omega
theorem wdL_mem {Z : List (Nat × Nat × Nat × Nat)} {b : Nat} (h : b ∈ wdL Z) : ∃ z ∈ Z, z.1 = b := by
  rw [wdL, List.mem_flatMap] at h
  obtain ⟨z, hz, h⟩ := h
  exact ⟨z, hz, ((List.mem_replicate.mp h).2).symm⟩
theorem nrL_mem {Z : List (Nat × Nat × Nat × Nat)} {b : Nat} (h : b ∈ nrL Z) : ∃ z ∈ Z, z.1 = b := by
  rw [nrL, List.mem_flatMap] at h
  obtain ⟨z, hz, h⟩ := h
  exact ⟨z, hz, ((List.mem_replicate.mp h).2).symm⟩
theorem getD_lt {L : List Nat} {n k : Nat} (h0 : 0 < n) (h : ∀ b ∈ L, b < n) : L.getD k 0 < n := by
  rw [List.getD_eq_getElem?_getD]
  cases e : L[k]? with
  | none => exact h0
  | some b => exact h b (List.mem_of_getElem? e)
theorem best_lt (Y : YT) (i : Nat) : bestY Y i < 2 ^ (lookL Y).length := by
  have := bestF_le Y (yg Y i / ys Y i + 3) (yg Y i / ys Y i + 2) (yg Y i % ys Y i) (ys Y i - yg Y i % ys Y i) (2 ^ (lookL Y).length - 1)
  have h2 : 0 < 2 ^ (lookL Y).length := Nat.pow_pos (by decide)
  unfold bestY
  omega
theorem plan_B {Y : YT} {i : Nat} : ∀ z ∈ planY Y i, z.1 < yB Y := by
  intro z hz
  obtain ⟨j, _, h2, h3⟩ := (takeS_pw (best_lt Y i) 8).2 _ (plan_mem _ _ _ z hz)
  have h4 := look_lt h2
  dsimp only at h3
  omega
theorem B_pos {Y : YT} {i : Nat} (h : bestY Y i ≠ 0) : 0 < yB Y := by
  have h1 := best_lt Y i
  have h2 : (lookL Y).length ≠ 0 := fun q => by rw [q] at h1; omega
  have := look_lt (Y := Y) (k := 0) (by omega)
  omega
theorem WF_makeY {Y : YT} (hY : WF Y) {i : Nat} (hi : i < yF Y) (hc : yC Y ≠ 30) (hb : bestY Y i ≠ 0) : WF (makeY Y i) := by
  obtain ⟨h1, h2, h3, h4, h5, h6, h7, h8, h9⟩ := hY
  have e1 : yB (makeY Y i) = yB Y := rfl
  have e2 : yF (makeY Y i) = yF Y := rfl
  have e3 : yC (makeY Y i) = yC Y + 1 := rfl
  have e4 : yNow (makeY Y i) = yNow Y := rfl
  have e5 : ∀ j, ys (makeY Y i) j = ys Y j := fun _ => rfl
  refine ⟨h1, h2, h3, by rw [e3]; omega, h5, fun b hb' => ⟨(h6 b hb').1, ?_⟩, fun c hc' => ?_, h8, h9⟩
  · have hb2 : b < yB Y := hb'
    have hP := (h6 b hb2).2
    have eP : yP (makeY Y i) b = filP (cutPL (yP Y b) (amN (yg Y i / ys Y i + 3) (yg Y i / ys Y i + 2) (planY Y i) b)) := if_pos hb2
    rw [eP]
    refine filP_ok (by rw [cutPL_len]; exact hP.1) (fun q hq => ?_)
    rw [cutPL, List.mem_map] at hq
    obtain ⟨p, hp, rfl⟩ := hq
    rw [List.mem_range] at hp
    have a1 := am_pl (Y := Y) (wd := yg Y i / ys Y i + 3) (nr := yg Y i / ys Y i + 2) (b := b) (p := p) (takeS Y (lookK Y) (bestY Y i) 8) (yg Y i % ys Y i) (ys Y i - yg Y i % ys Y i) (takeS_pw (best_lt Y i) 8).1
    have a2 := hP.2 _ (paD_mem hp)
    have a3 : plen Y (b, p) = (paD (yP Y b) p).2 - (paD (yP Y b) p).1 := rfl
    have a4 : amN (yg Y i / ys Y i + 3) (yg Y i / ys Y i + 2) (planY Y i) b p ≤ plen Y (b, p) := a1
    dsimp only
    omega
  · have hc2 : c < yC Y + 1 := hc'
    by_cases e : c = yC Y
    · subst e
      have ec : ycf (makeY Y i) (yC Y) = i := va_up_self _ _ _
      have eE : yE (makeY Y i) (yC Y) = [] := va_up_self _ _ _
      have eb : ∀ k, ybo (makeY Y i) (yC Y) k = newB (planY Y i) (ys Y i) (yg Y i) k := fun k => by
        show va_up (Y.2.2.2.1 0) (yC Y) _ (yC Y) k = _
        rw [va_up_self]
      have ep : ∀ k, ypa (makeY Y i) (yC Y) k = 0 := fun k => by
        show va_up (Y.2.2.2.1 1) (yC Y) _ (yC Y) k = _
        rw [va_up_self]
      rw [ec, eE]
      refine ⟨hi, by show 0 ≤ 40; decide, fun q hq => (by cases hq), fun k hk => ?_⟩
      rw [eb, ep]
      refine ⟨?_, by decide⟩
      show newB (planY Y i) (ys Y i) (yg Y i) k < yB Y
      unfold newB
      split
      · exact getD_lt (B_pos hb) (fun b hb9 => by obtain ⟨z, hz, rfl⟩ := wdL_mem hb9; exact plan_B z hz)
      · exact getD_lt (B_pos hb) (fun b hb9 => by obtain ⟨z, hz, rfl⟩ := nrL_mem hb9; exact plan_B z hz)
    · have hc3 : c < yC Y := by omega
      have ec : ycf (makeY Y i) c = ycf Y c := va_up_ne _ _ e
      have eE : yE (makeY Y i) c = yE Y c := va_up_ne _ _ e
      have eb : ∀ k, ybo (makeY Y i) c k = ybo Y c k := fun k => by
        show va_up (Y.2.2.2.1 0) (yC Y) _ c k = _
        rw [va_up_ne _ _ e]; rfl
      have ep : ∀ k, ypa (makeY Y i) c k = ypa Y c k := fun k => by
        show va_up (Y.2.2.2.1 1) (yC Y) _ c k = _
        rw [va_up_ne _ _ e]; rfl
      have h := h7 c hc3
      rw [ec, eE]
      exact ⟨h.1, h.2.1, h.2.2.1, fun k hk => by rw [eb, ep]; exact h.2.2.2 k hk⟩
theorem WF_make {Y : YT} (hY : WF Y) (a : Int32) : WF (sp_make Y a).2.2 := by
  unfold sp_make
  split
  next q =>
    split
    · exact hY
    next q2 => exact WF_makeY hY (ix_lt q) (fun h => q2 (.inl h)) (fun h => q2 (.inr h))
  · exact hY
