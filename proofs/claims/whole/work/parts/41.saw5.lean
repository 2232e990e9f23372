/-! more parts give no less; the first of the smallest sets; the parts cut one after another -/
theorem dp_build {wd nr L h m W N : Nat} {Ls : List Nat} (hn : 0 < nr) (hf : h * wd + m * nr ≤ L) (q : (N : Int) ≤ dpN wd nr Ls W) : ((m + N : Nat) : Int) ≤ dpN wd nr (L :: Ls) (h + W) := by
  have h1 : m ≤ (L - h * wd) / nr := (Nat.le_div_iff_mul_le hn).mpr (by omega)
  have h2 := bestN_ge (f := dpN wd nr Ls) (L := L) (wd := wd) (nr := nr) (a := h + W) (k := h) (by omega) (by omega) (by rw [Nat.add_sub_cancel_left]; omega) (h + W + 1) (by omega)
  rw [Nat.add_sub_cancel_left] at h2
  show ((m + N : Nat) : Int) ≤ bestN (dpN wd nr Ls) L wd nr (h + W) (h + W + 1)
  revert h1 h2
  generalize (L - h * wd) / nr = z
  intro h1 h2
  omega
theorem dp_mono {wd nr : Nat} (hn : 0 < nr) {A B : List Nat} (h : A.Sublist B) : ∀ (W N : Nat), (N : Int) ≤ dpN wd nr A W → (N : Int) ≤ dpN wd nr B W := by
  induction h with
  | slnil => exact fun _ _ h => h
  | cons a _ ih =>
    intro W N q
    have := dp_build (L := a) (h := 0) (m := 0) hn (by omega) (ih W N q)
    rwa [Nat.zero_add, Nat.zero_add] at this
  | cons_cons a _ ih =>
    intro W N q
    obtain ⟨h, m, W', N', rfl, rfl, hf, q'⟩ := dp_cons hn q
    exact dp_build hn hf (ih W' N' q')
abbrev bitO (P : List (Nat × Nat × Nat)) (x i : Nat) : Nat := if bitP x (enD P i).1 then 1 else 0
abbrev gvS (nr : Nat) (P : List (Nat × Nat × Nat)) (W N x : Nat) : Prop := (N : Int) ≤ dpN (nr + 1) nr (opnL P (bitO P x) (List.range P.length)) W
theorem opn_all {P : List (Nat × Nat × Nat)} {o o' : Nat → Nat} {I : List Nat} (h : ∀ i ∈ I, o' i = 1) : (opnL P o I).Sublist (opnL P o' I) := by
  have e : I.filter (fun i => decide (o' i = 1)) = I := List.filter_eq_self.mpr (fun i hi => by simp [h i hi])
  unfold opnL
  rw [e]
  exact List.filter_sublist.map _
theorem all_bits : ∀ n : Fin 9, ∀ p : Fin 8, p.val < n.val → bitP (256 - 2 ^ (8 - n.val)) p.val := by decide
theorem gv_all {nr n W N x : Nat} {P : List (Nat × Nat × Nat)} (hn : 0 < nr) (h8 : n ≤ 8) (hp : ∀ i, i < P.length → (enD P i).1 < n) (h : gvS nr P W N x) : gvS nr P W N (256 - 2 ^ (8 - n)) :=
  dp_mono hn (opn_all (fun i hi => if_pos (all_bits ⟨n, by omega⟩ ⟨(enD P i).1, by have := hp i (List.mem_range.mp hi); omega⟩ (hp i (List.mem_range.mp hi))))) W N h
/-- b: the greatest of the smallest sets that give (as multiples of 2 ^ (8 - n)), 0 if none gives -/
def fsP (gv : Nat → Prop) (n b : Nat) : Prop := (b = 0 ∧ ∀ j, 1 ≤ j → j < 2 ^ n → ¬ gv (j * 2 ^ (8 - n))) ∨
  ∃ j, 1 ≤ j ∧ j < 2 ^ n ∧ b = j * 2 ^ (8 - n) ∧ gv b ∧ ∀ i, 1 ≤ i → i < 2 ^ n → gv (i * 2 ^ (8 - n)) → popN b < popN (i * 2 ^ (8 - n)) ∨ (popN b = popN (i * 2 ^ (8 - n)) ∧ i ≤ j)
def fsI (gv : Nat → Prop) (n j best few : Nat) : Prop := (best = 0 ∧ few = 9 ∧ ∀ i, j < i → i < 2 ^ n → ¬ gv (i * 2 ^ (8 - n))) ∨
  ∃ jb, j < jb ∧ jb < 2 ^ n ∧ best = jb * 2 ^ (8 - n) ∧ few = popN best ∧ gv best ∧ ∀ i, j < i → i < 2 ^ n → gv (i * 2 ^ (8 - n)) → popN best < popN (i * 2 ^ (8 - n)) ∨ (popN best = popN (i * 2 ^ (8 - n)) ∧ i ≤ jb)
theorem fs_0 (gv : Nat → Prop) (n : Nat) : fsI gv n (2 ^ n - 1) 0 9 := Or.inl ⟨rfl, rfl, fun i h1 h2 => by omega⟩
theorem fs_few {gv : Nat → Prop} {n j best few : Nat} (h : fsI gv n j best few) : few ≤ 9 := by
  rcases h with h | ⟨jb, _, _, _, h, _⟩
  · omega
  · have := popN_le best; omega
theorem fs_keep {gv : Nat → Prop} {n j best few : Nat} (h : fsI gv n j best few) (h1 : 1 ≤ j) (h2 : few ≤ popN (j * 2 ^ (8 - n)) ∨ ¬ gv (j * 2 ^ (8 - n))) : fsI gv n (j - 1) best few := by
  have h8 := popN_le (j * 2 ^ (8 - n))
  rcases h with ⟨a1, a2, a3⟩ | ⟨jb, a1, a2, a3, a4, a5, a6⟩
  · refine Or.inl ⟨a1, a2, fun i q1 q2 => ?_⟩
    by_cases e : i = j
    · subst e
      rcases h2 with h2 | h2
      · omega
      · exact h2
    · exact a3 i (by omega) q2
  · refine Or.inr ⟨jb, by omega, a2, a3, a4, a5, fun i q1 q2 q3 => ?_⟩
    by_cases e : i = j
    · subst e
      rcases h2 with h2 | h2
      · omega
      · exact absurd q3 h2
    · exact a6 i (by omega) q2 q3
theorem fs_yes {gv : Nat → Prop} {n j best few : Nat} (h : fsI gv n j best few) (h1 : 1 ≤ j) (h2 : j < 2 ^ n) (h3 : popN (j * 2 ^ (8 - n)) < few) (h4 : gv (j * 2 ^ (8 - n))) : fsI gv n (j - 1) (j * 2 ^ (8 - n)) (popN (j * 2 ^ (8 - n))) := by
  refine Or.inr ⟨j, by omega, h2, rfl, rfl, h4, fun i q1 q2 q3 => ?_⟩
  by_cases e : i = j
  · subst e; exact Or.inr ⟨rfl, Nat.le_refl _⟩
  · rcases h with ⟨a1, a2, a3⟩ | ⟨jb, a1, a2, a3, a4, a5, a6⟩
    · exact absurd q3 (a3 i (by omega) q2)
    · rcases a6 i (by omega) q2 q3 with h9 | h9
      · left; omega
      · left; omega
theorem fs_end {gv : Nat → Prop} {n best few : Nat} (h : fsI gv n 0 best few) : fsP gv n best := by
  rcases h with ⟨a1, a2, a3⟩ | ⟨jb, a1, a2, a3, a4, a5, a6⟩
  · exact Or.inl ⟨a1, fun j q1 q2 => a3 j (by omega) q2⟩
  · exact Or.inr ⟨jb, by omega, a2, a3, a5, fun i q1 q2 q3 => a6 i (by omega) q2 q3⟩
theorem fs_none {gv : Nat → Prop} {n : Nat} (h : ∀ x, gv x → gv (256 - 2 ^ (8 - n))) (h2 : ¬ gv (256 - 2 ^ (8 - n))) : fsP gv n 0 := Or.inl ⟨rfl, fun _ _ _ q => h2 (h _ q)⟩
theorem pow_split {n : Nat} (h : n ≤ 8) : 2 ^ n * 2 ^ (8 - n) = 256 := by
  rw [← Nat.pow_add, show n + (8 - n) = 8 by omega]
/-- only the parts from i on are open -/
abbrev frm (o : Nat → Nat) (i j : Nat) : Nat := if j < i then 0 else o j
theorem opn_congr {P : List (Nat × Nat × Nat)} {o o' : Nat → Nat} {I : List Nat} (h : ∀ i ∈ I, o i = o' i) : opnL P o I = opnL P o' I := by
  unfold opnL
  congr 1
  apply List.filter_congr
  intro i hi
  rw [h i hi]
theorem opn_nil {P : List (Nat × Nat × Nat)} {o : Nat → Nat} {I : List Nat} (h : ∀ i ∈ I, o i ≠ 1) : opnL P o I = [] := by
  unfold opnL
  rw [List.filter_eq_nil_iff.mpr (fun i hi => by simp [h i hi])]
  rfl
theorem mem_drop_range {n i j : Nat} (h : j ∈ (List.range n).drop i) : i ≤ j := by
  obtain ⟨k, hk, e⟩ := List.mem_iff_getElem.mp h
  rw [List.getElem_drop, List.getElem_range] at e
  omega
theorem opn_frm (P : List (Nat × Nat × Nat)) (o : Nat → Nat) (n i : Nat) : opnL P (frm o i) (List.range n) = opnL P o ((List.range n).drop i) := by
  have e : opnL P (frm o i) (List.range n) = opnL P (frm o i) ((List.range n).take i) ++ opnL P (frm o i) ((List.range n).drop i) := by rw [← opnL_app, List.take_append_drop]
  rw [e, opn_nil (fun j hj => by
    obtain ⟨k, hk, e9⟩ := List.mem_iff_getElem.mp hj
    rw [List.getElem_take, List.getElem_range] at e9
    rw [List.length_take] at hk
    rw [frm, if_pos (by omega)]; decide), List.nil_append]
  exact opn_congr (fun j hj => by rw [frm, if_neg (by have := mem_drop_range hj; omega)])
theorem drop_range {n i : Nat} (h : i < n) : (List.range n).drop i = i :: (List.range n).drop (i + 1) := by
  rw [List.drop_eq_getElem_cons (by simpa using h), List.getElem_range]
theorem frm_t {P : List (Nat × Nat × Nat)} {o : Nat → Nat} {n i : Nat} (hi : i < n) (h : o i = 1) : opnL P (frm o i) (List.range n) = lnP P i :: opnL P (frm o (i + 1)) (List.range n) := by
  rw [opn_frm, opn_frm, drop_range hi, show i :: (List.range n).drop (i + 1) = [i] ++ (List.range n).drop (i + 1) from rfl, opnL_app, opnL_1 h]
  rfl
theorem frm_f {P : List (Nat × Nat × Nat)} {o : Nat → Nat} {n i : Nat} (hi : i < n) (h : ¬ o i = 1) : opnL P (frm o i) (List.range n) = opnL P (frm o (i + 1)) (List.range n) := by
  rw [opn_frm, opn_frm, drop_range hi, show i :: (List.range n).drop (i + 1) = [i] ++ (List.range n).drop (i + 1) from rfl, opnL_app, opnL_0 h]
  rfl
theorem frm_0 (P : List (Nat × Nat × Nat)) (o : Nat → Nat) (I : List Nat) : opnL P (frm o 0) I = opnL P o I := opn_congr (fun j _ => if_neg (by omega))
def chS (nr : Nat) (P : List (Nat × Nat × Nat)) (o : Nat → Nat) (i a n : Nat) : Nat := chN (nr + 1) nr (opnL P (frm o (i + 1)) (List.range P.length)) (lnP P i) a n (min a (lnP P i / (nr + 1)))
def mnS (nr : Nat) (P : List (Nat × Nat × Nat)) (o : Nat → Nat) (i a n : Nat) : Nat := min n ((lnP P i - chS nr P o i a n * (nr + 1)) / nr)
def cutS (nr : Nat) (P : List (Nat × Nat × Nat)) (o : Nat → Nat) (W N : Nat) : Nat → Nat × Nat
  | 0 => (W, N)
  | i + 1 => if o i = 1 then ((cutS nr P o W N i).1 - chS nr P o i (cutS nr P o W N i).1 (cutS nr P o W N i).2, (cutS nr P o W N i).2 - mnS nr P o i (cutS nr P o W N i).1 (cutS nr P o W N i).2) else cutS nr P o W N i
def cutH (nr : Nat) (P : List (Nat × Nat × Nat)) (o : Nat → Nat) (W N i : Nat) : Nat := if o i = 1 then chS nr P o i (cutS nr P o W N i).1 (cutS nr P o W N i).2 else 0
def cutM (nr : Nat) (P : List (Nat × Nat × Nat)) (o : Nat → Nat) (W N i : Nat) : Nat := if o i = 1 then mnS nr P o i (cutS nr P o W N i).1 (cutS nr P o W N i).2 else 0
theorem ch_fit {nr i a n : Nat} {P : List (Nat × Nat × Nat)} {o : Nat → Nat} (hn : 0 < nr) : chS nr P o i a n ≤ a ∧ chS nr P o i a n * (nr + 1) + mnS nr P o i a n * nr ≤ lnP P i ∧ mnS nr P o i a n ≤ n := by
  have h1 : chS nr P o i a n ≤ min a (lnP P i / (nr + 1)) := chN_le _
  have h2 : chS nr P o i a n ≤ lnP P i / (nr + 1) := Nat.le_trans h1 (Nat.min_le_right _ _)
  have h3 : chS nr P o i a n * (nr + 1) ≤ lnP P i := Nat.le_trans (Nat.mul_le_mul_right _ h2) (Nat.div_mul_le_self _ _)
  have h4 : mnS nr P o i a n * nr ≤ lnP P i - chS nr P o i a n * (nr + 1) := Nat.le_trans (Nat.mul_le_mul_right _ (Nat.min_le_right _ _)) (Nat.div_mul_le_self _ _)
  exact ⟨Nat.le_trans h1 (Nat.min_le_left _ _), by omega, Nat.min_le_left _ _⟩
theorem cut_fit {nr W N i : Nat} {P : List (Nat × Nat × Nat)} {o : Nat → Nat} (hn : 0 < nr) : cutH nr P o W N i * (nr + 1) + cutM nr P o W N i * nr ≤ lnP P i := by
  unfold cutH cutM
  by_cases q : o i = 1
  · rw [if_pos q, if_pos q]; exact (ch_fit hn).2.1
  · rw [if_neg q, if_neg q]; omega
theorem cutS_le {nr W N : Nat} {P : List (Nat × Nat × Nat)} {o : Nat → Nat} : ∀ i, (cutS nr P o W N i).1 ≤ W ∧ (cutS nr P o W N i).2 ≤ N
  | 0 => ⟨Nat.le_refl _, Nat.le_refl _⟩
  | i + 1 => by
    have := cutS_le (nr := nr) (W := W) (N := N) (P := P) (o := o) i
    rw [cutS]; split
    · exact ⟨Nat.le_trans (Nat.sub_le _ _) this.1, Nat.le_trans (Nat.sub_le _ _) this.2⟩
    · exact this
theorem cutS_t {nr W N i : Nat} {P : List (Nat × Nat × Nat)} {o : Nat → Nat} (h : o i = 1) : cutS nr P o W N (i + 1) = ((cutS nr P o W N i).1 - cutH nr P o W N i, (cutS nr P o W N i).2 - cutM nr P o W N i) := by
  rw [cutS, if_pos h, cutH, if_pos h, cutM, if_pos h]
theorem cutS_f {nr W N i : Nat} {P : List (Nat × Nat × Nat)} {o : Nat → Nat} (h : ¬ o i = 1) : cutS nr P o W N (i + 1) = cutS nr P o W N i := by rw [cutS, if_neg h]
/-- what is left can still be given -/
theorem cut_giv {nr W N : Nat} {P : List (Nat × Nat × Nat)} {o : Nat → Nat} (h : (N : Int) ≤ dpN (nr + 1) nr (opnL P o (List.range P.length)) W) : ∀ i, i ≤ P.length → ((cutS nr P o W N i).2 : Int) ≤ dpN (nr + 1) nr (opnL P (frm o i) (List.range P.length)) (cutS nr P o W N i).1
  | 0, _ => by rw [frm_0]; exact h
  | i + 1, hi => by
    have ih := cut_giv h i (by omega)
    by_cases q : o i = 1
    · rw [frm_t (by omega) q] at ih
      have h2 := good_ex (by omega) ih
      rw [cutS_t q, cutH, if_pos q, cutM, if_pos q]
      exact h2
    · rw [frm_f (by omega) q] at ih
      rw [cutS_f q]; exact ih
theorem cut_good {nr W N i : Nat} {P : List (Nat × Nat × Nat)} {o : Nat → Nat} (h : (N : Int) ≤ dpN (nr + 1) nr (opnL P o (List.range P.length)) W) (hi : i < P.length) (q : o i = 1) : goodN (nr + 1) nr (opnL P (frm o (i + 1)) (List.range P.length)) (lnP P i) (cutS nr P o W N i).1 (cutS nr P o W N i).2 (chS nr P o i (cutS nr P o W N i).1 (cutS nr P o W N i).2) := by
  have ih := cut_giv h i (by omega)
  rw [frm_t hi q] at ih
  exact good_ex (by omega) ih
theorem cut_row {L : List (Nat × Nat)} {f g : Nat → Int32} {i : Nat} {c : Nat → Nat} (hg : ∀ j, g j = if j < i then nI ((paD L j).1 + c j) else f j) : ∀ j, upd g i (nI ((paD L i).1 + c i)) j = if j < i + 1 then nI ((paD L j).1 + c j) else f j := by
  intro j
  by_cases e : j = i
  · subst e; rw [upd_s, if_pos (by omega)]
  · rw [upd_n e, hg j]
    by_cases q : j < i
    · rw [if_pos q, if_pos (by omega)]
    · rw [if_neg q, if_neg (by omega)]
theorem cut_arr {L : List (Nat × Nat)} {f g h : Nat → Int32} {c : Nat → Nat} (hA : arrP f h 0 L) (hg : ∀ j, g j = if j < L.length then nI ((paD L j).1 + c j) else f j) : arrP g h 0 (cutPL L c) := by
  intro i q hq
  have hi := (List.getElem?_eq_some_iff.mp hq).1
  rw [cutPL_len] at hi
  rw [cutPL_get hi] at hq
  cases hq
  rw [Nat.zero_add, hg, if_pos hi]
  exact ⟨rfl, (arrP_0 hA hi).2⟩
theorem cut_bd {L : List (Nat × Nat)} {c : Nat → Nat} (hq : ∀ q ∈ L, q.1 < q.2 ∧ q.2 ≤ 600) (hc : ∀ i, i < L.length → (paD L i).1 + c i ≤ (paD L i).2) : ∀ q ∈ cutPL L c, q.1 ≤ 600 ∧ q.2 ≤ 600 := by
  intro q h
  obtain ⟨p, hp, rfl⟩ := List.mem_map.mp h
  have hp := List.mem_range.mp hp
  have h1 := hc p hp
  have h2 := hq _ (paD_mem hp)
  exact ⟨by show (paD L p).1 + c p ≤ 600; omega, h2.2⟩
