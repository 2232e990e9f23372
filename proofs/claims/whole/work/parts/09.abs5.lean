/-! parts of a bolt: flaws, what has no width -/
def paD (L : List (Nat × Nat)) (i : Nat) : Nat × Nat := L.getD i (0, 0)
theorem paD_get {L : List (Nat × Nat)} {i : Nat} (hi : i < L.length) : L[i]? = some (paD L i) := by simp [paD, List.getD, List.getElem?_eq_getElem hi]
theorem paD_mem {L : List (Nat × Nat)} {i : Nat} (hi : i < L.length) : paD L i ∈ L := List.mem_of_getElem? (paD_get hi)
theorem arrP_at {f g : Nat → Int32} {o : Nat} {L : List (Nat × Nat)} (h : arrP f g o L) {i : Nat} (hi : i < L.length) : f (o + i) = nI (paD L i).1 ∧ g (o + i) = nI (paD L i).2 := h i _ (paD_get hi)
theorem take_s {L : List (Nat × Nat)} {i : Nat} (hi : i < L.length) : L.take (i + 1) = L.take i ++ [paD L i] := by rw [List.take_add_one, paD_get hi]; rfl
theorem arrP_nil (f g : Nat → Int32) (o : Nat) : arrP f g o [] := fun i q h => by simp at h
theorem arrP_push {f g : Nat → Int32} {o j : Nat} {M : List (Nat × Nat)} {a b : Nat} (h : arrP f g o M) (hj : j = o + M.length) : arrP (upd f j (nI a)) (upd g j (nI b)) o (M ++ [(a, b)]) := by
  subst hj
  intro i q hq
  by_cases q2 : i < M.length
  · rw [List.getElem?_append_left q2] at hq
    rw [upd_n (by omega), upd_n (by omega)]
    exact h i q hq
  · have hl := (List.getElem?_eq_some_iff.mp hq).1
    simp at hl
    obtain rfl : i = M.length := by omega
    simp at hq
    subst hq
    exact ⟨upd_s _ _ _, upd_s _ _ _⟩
def filP (L : List (Nat × Nat)) : List (Nat × Nat) := L.filter (fun q => decide (q.1 ≠ q.2))
theorem filP_skip {L : List (Nat × Nat)} {i : Nat} (hi : i < L.length) (h : (paD L i).1 = (paD L i).2) : filP (L.take (i + 1)) = filP (L.take i) := by
  rw [take_s hi]; simp [filP, List.filter_append, h]
theorem filP_keep {L : List (Nat × Nat)} {i : Nat} (hi : i < L.length) (h : (paD L i).1 ≠ (paD L i).2) : filP (L.take (i + 1)) = filP (L.take i) ++ [((paD L i).1, (paD L i).2)] := by
  rw [take_s hi]; simp [filP, List.filter_append, h]
theorem filP_len (L : List (Nat × Nat)) : (filP L).length ≤ L.length := List.length_filter_le _ _
/-- what a flaw from x to y leaves -/
def cut1 (x y : Nat) (q : Nat × Nat) : List (Nat × Nat) := (if q.1 < min q.2 x then [(q.1, min q.2 x)] else []) ++ (if max q.1 y < q.2 then [(max q.1 y, q.2)] else [])
def cutL (x y : Nat) (L : List (Nat × Nat)) : List (Nat × Nat) := L.flatMap (cut1 x y)
theorem cutL_s {L : List (Nat × Nat)} {i x y : Nat} (hi : i < L.length) : cutL x y (L.take (i + 1)) = cutL x y (L.take i) ++ cut1 x y (paD L i) := by
  rw [take_s hi]; simp [cutL]
theorem cut1_len (x y : Nat) (q : Nat × Nat) : (cut1 x y q).length ≤ 2 := by unfold cut1; split <;> split <;> simp
theorem cutL_len (x y : Nat) (L : List (Nat × Nat)) : ∀ i, i ≤ L.length → (cutL x y (L.take i)).length ≤ 2 * i
  | 0, _ => by simp [cutL]
  | i + 1, hi => by
    have h1 := cutL_len x y L i (by omega)
    have h2 := cut1_len x y (paD L i)
    rw [cutL_s (by omega), List.length_append]; omega
def partsY (Y : YT) (b : Nat) (L : List (Nat × Nat)) : YT := (Y.1, Y.2.1, va_up Y.2.2.1 b L, Y.2.2.2)
theorem MR_congr {I I' : Nat → Int32} {F F' : Nat → Nat → Int32} {Y : YT} (h : MR I F Y) (hi : ∀ k, 1 ≤ k → k ≤ 4 → I' k = I k) (hf : ∀ k, 5 ≤ k → k ≤ 21 → F' k = F k) : MR I' F' Y := by
  unfold MR
  rw [hi 1 (by omega) (by omega), hi 2 (by omega) (by omega), hi 3 (by omega) (by omega), hi 4 (by omega) (by omega), hf 5 (by omega) (by omega), hf 6 (by omega) (by omega), hf 7 (by omega) (by omega), hf 8 (by omega) (by omega), hf 9 (by omega) (by omega), hf 10 (by omega) (by omega), hf 11 (by omega) (by omega), hf 12 (by omega) (by omega), hf 13 (by omega) (by omega), hf 14 (by omega) (by omega), hf 15 (by omega) (by omega), hf 16 (by omega) (by omega), hf 17 (by omega) (by omega), hf 18 (by omega) (by omega), hf 19 (by omega) (by omega), hf 20 (by omega) (by omega), hf 21 (by omega) (by omega)]
  exact h
theorem MR_parts {I I' : Nat → Int32} {F F' : Nat → Nat → Int32} {Y : YT} {b : Nat} {L : List (Nat × Nat)} {g11 g12 : Nat → Int32} (h : MR I F Y) (hY : WF Y) (hi : ∀ k, 1 ≤ k → k ≤ 4 → I' k = I k) (e10 : F' 10 = upd (F 10) b (nI L.length)) (e11 : F' 11 = g11) (e12 : F' 12 = g12) (hL : L.length ≤ 5) (hA : arrP g11 g12 (5 * b) L) (ho : ∀ j, j < 5 * b ∨ 5 * b + 5 ≤ j → g11 j = F 11 j ∧ g12 j = F 12 j)
    (hf : ∀ k, 5 ≤ k → k ≤ 21 → k ≠ 10 → k ≠ 11 → k ≠ 12 → F' k = F k) : MR I' F' (partsY Y b L) := by
  obtain ⟨h1, h2, h3, h4, hF, hB, hC, hR, hW⟩ := h
  obtain ⟨hw0, hwF, hwB, hwC, hwf, hwb, hwc, hwr, hww⟩ := hY
  unfold MR
  rw [hi 1 (by omega) (by omega), hi 2 (by omega) (by omega), hi 3 (by omega) (by omega), hi 4 (by omega) (by omega), hf 5 (by omega) (by omega) (by omega) (by omega) (by omega), hf 6 (by omega) (by omega) (by omega) (by omega) (by omega), hf 7 (by omega) (by omega) (by omega) (by omega) (by omega), hf 8 (by omega) (by omega) (by omega) (by omega) (by omega), hf 9 (by omega) (by omega) (by omega) (by omega) (by omega), hf 13 (by omega) (by omega) (by omega) (by omega) (by omega), hf 14 (by omega) (by omega) (by omega) (by omega) (by omega), hf 15 (by omega) (by omega) (by omega) (by omega) (by omega), hf 16 (by omega) (by omega) (by omega) (by omega) (by omega), hf 17 (by omega) (by omega) (by omega) (by omega) (by omega), hf 18 (by omega) (by omega) (by omega) (by omega) (by omega), hf 19 (by omega) (by omega) (by omega) (by omega) (by omega), hf 20 (by omega) (by omega) (by omega) (by omega) (by omega), hf 21 (by omega) (by omega) (by omega) (by omega) (by omega), e10, e11, e12]
  refine ⟨h1, h2, h3, h4, hF, ?_, hC, hR, hW⟩
  intro c hc
  have hc : c < yB Y := hc
  obtain ⟨a1, a2, a3⟩ := hB c hc
  by_cases q : c = b
  · subst q
    have e : yP (partsY Y c L) c = L := by simp [yP, partsY, va_up]
    rw [e, upd_s]; exact ⟨a1, rfl, hA⟩
  · have e : yP (partsY Y b L) c = yP Y c := by simp [yP, partsY, va_up, q]
    rw [e, upd_n q]
    refine ⟨a1, a2, fun i x hx => ?_⟩
    have hi9 := (List.getElem?_eq_some_iff.mp hx).1
    have hl9 := (hwb c hc).2.1
    have := ho (5 * c + i) (by omega)
    rw [this.1, this.2]; exact a3 i x hx
def sp_flaw (Y : YT) (a b v : Int32) : Nat × Int32 × YT :=
  if isIx a (yB Y) then if 0 ≤ b.toInt ∧ b.toInt < v.toInt ∧ v.toInt ≤ 600 then if (cutL (ix b) (ix v) (yP Y (ix a))).length ≤ 4 then (0, nI (cutL (ix b) (ix v) (yP Y (ix a))).length, partsY Y (ix a) (cutL (ix b) (ix v) (yP Y (ix a)))) else (0, zI (-1), Y) else (0, zI (-1), Y) else (1, nI 0, Y)
theorem cp_step {f g q : Nat → Int32} {b i : Nat} (hg : ∀ j, g j = if 5 * b ≤ j ∧ j < 5 * b + i then q (j - 5 * b) else f j) : ∀ j, upd g (5 * b + i) (q i) j = if 5 * b ≤ j ∧ j < 5 * b + (i + 1) then q (j - 5 * b) else f j := by
  intro j
  by_cases e : j = 5 * b + i
  · subst e; rw [upd_s, if_pos ⟨by omega, by omega⟩, show 5 * b + i - 5 * b = i by omega]
  · rw [upd_n e, hg j]
    by_cases e2 : 5 * b ≤ j ∧ j < 5 * b + i
    · rw [if_pos e2, if_pos ⟨e2.1, by omega⟩]
    · rw [if_neg e2, if_neg (fun h => e2 ⟨h.1, by omega⟩)]
theorem fl_end {I : Nat → Int32} {F F' : Nat → Nat → Int32} {Y : YT} {a b v : Int32} {n : Nat} {g30 g31 g11 g12 : Nat → Int32} (h1 : isIx a (yB Y)) (h2 : 0 ≤ b.toInt ∧ b.toInt < v.toInt ∧ v.toInt ≤ 600) (h3 : n ≤ 4) (hn : n = (cutL (ix b) (ix v) (yP Y (ix a))).length) (hM : MR I F Y) (hY : WF Y) (hib : ix a < yB Y) (hA : arrP g30 g31 0 (cutL (ix b) (ix v) (yP Y (ix a))))
    (hg1 : ∀ j, g11 j = if 5 * ix a ≤ j ∧ j < 5 * ix a + n then g30 (j - 5 * ix a) else F 11 j) (hg2 : ∀ j, g12 j = if 5 * ix a ≤ j ∧ j < 5 * ix a + n then g31 (j - 5 * ix a) else F 12 j)
    (e10 : F' 10 = upd (F 10) (ix a) (nI n)) (e11 : F' 11 = g11) (e12 : F' 12 = g12) (hf : ∀ k, 5 ≤ k → k ≤ 21 → k ≠ 10 → k ≠ 11 → k ≠ 12 → F' k = F k) : MP (nI n) (va_up I 0 (nI 0), F') (sp_flaw Y a b v) := by
  rw [sp_flaw, if_pos h1, if_pos h2, if_pos (by omega)]
  refine ⟨rfl, fun _ => by rw [hn], MR_parts hM hY (fun k_ h1_ h2_ => va_up_ne _ _ (by omega)) (hn ▸ e10) e11 e12 (by omega) ?_ ?_ hf⟩
  · intro i q hq
    have hi := (List.getElem?_eq_some_iff.mp hq).1
    have := hA i q hq
    rw [Nat.zero_add] at this
    rw [hg1, hg2, if_pos ⟨by omega, by omega⟩, if_pos ⟨by omega, by omega⟩, show 5 * ix a + i - 5 * ix a = i by omega]
    exact this
  · intro j hj
    rw [hg1, hg2, if_neg (by omega), if_neg (by omega)]; exact ⟨rfl, rfl⟩
