/-! the saw's cuts are the reference's -/
def layC (Y : YT) (K : Nat → Nat) : Nat → List (Nat × Nat × Nat)
  | 0 => []
  | k + 1 => layC Y K k ++ (rowS (yP Y (K k)).length (K k)).map (fun q => (k, q))
theorem layC_P (Y : YT) (K : Nat → Nat) : ∀ n, (layC Y K n).map (fun z => (z.1, z.2.1, plen Y z.2)) = layF Y K n
  | 0 => rfl
  | k + 1 => by
    rw [layC, layF, List.map_append, layC_P Y K k]
    congr 1
    unfold rowS layL
    rw [List.map_map, List.map_map]
    apply List.ext_getElem?
    intro i
    by_cases hi : i < (yP Y (K k)).length
    · simp [hi, plen, paD, List.getD]
    · simp [hi]
theorem layC_len (Y : YT) (K : Nat → Nat) (n : Nat) : (layF Y K n).length = (layC Y K n).length := by rw [← layC_P, List.length_map]
theorem layC_at {Y : YT} {K : Nat → Nat} {n j : Nat} (hj : j < (layC Y K n).length) : enD (layF Y K n) j = ((enD (layC Y K n) j).1, (enD (layC Y K n) j).2.1, plen Y (enD (layC Y K n) j).2) := by
  rw [← layC_P]
  simp [enD, List.getD, List.getElem?_eq_getElem hj]
theorem layC_T {Y : YT} {K : Nat → Nat} {y : Nat} : ∀ n, ((layC Y K n).filter (fun z => decide (y / 2 ^ z.1 % 2 = 1))).map (fun z => z.2) = takeS Y K y n
  | 0 => rfl
  | k + 1 => by
    rw [layC, List.filter_append, List.map_append, layC_T k]
    by_cases q : y / 2 ^ k % 2 = 1
    · rw [takeS_t q, List.filter_eq_self.mpr (fun z hz => by obtain ⟨w, _, rfl⟩ := List.mem_map.mp hz; exact decide_eq_true q), List.map_map]
      congr 1
      exact List.map_id' _
    · rw [takeS_f q, List.filter_eq_nil_iff.mpr (fun z hz => by obtain ⟨w, _, rfl⟩ := List.mem_map.mp hz; simp [q])]
      simp
/-- the parts that are open from i on -/
def frmT (C : List (Nat × Nat × Nat)) (o : Nat → Nat) (i : Nat) : List (Nat × Nat) := (((List.range C.length).drop i).filter (fun j => decide (o j = 1))).map (fun j => (enD C j).2)
theorem frmT_t {C : List (Nat × Nat × Nat)} {o : Nat → Nat} {i : Nat} (hi : i < C.length) (h : o i = 1) : frmT C o i = (enD C i).2 :: frmT C o (i + 1) := by
  unfold frmT; rw [drop_range hi]; simp [h]
theorem frmT_f {C : List (Nat × Nat × Nat)} {o : Nat → Nat} {i : Nat} (hi : i < C.length) (h : ¬ o i = 1) : frmT C o i = frmT C o (i + 1) := by
  unfold frmT; rw [drop_range hi]; simp [h]
theorem frmT_len {Y : YT} {P C : List (Nat × Nat × Nat)} {o : Nat → Nat} (hl : P.length = C.length) (hp : ∀ j, j < C.length → lnP P j = plen Y (enD C j).2) (i : Nat) : lenL Y (frmT C o i) = opnL P (frm o i) (List.range P.length) := by
  rw [opn_frm, hl]
  unfold lenL frmT opnL
  rw [List.map_map]
  apply List.map_congr_left
  intro j hj
  have h1 := List.mem_range.mp (List.mem_of_mem_drop (List.mem_filter.mp hj).1)
  exact (hp j h1).symm
def zL (nr : Nat) (P C : List (Nat × Nat × Nat)) (o : Nat → Nat) (W N : Nat) : Nat → Nat → List (Nat × Nat × Nat × Nat)
  | 0, _ => []
  | m + 1, i => (if o i = 1 then [((enD C i).2.1, (enD C i).2.2, cutH nr P o W N i, cutM nr P o W N i)] else []) ++ zL nr P C o W N m (i + 1)
theorem plan_z {Y : YT} {nr W N : Nat} {P C : List (Nat × Nat × Nat)} {o : Nat → Nat} (hl : P.length = C.length) (hp : ∀ j, j < C.length → lnP P j = plen Y (enD C j).2) : ∀ (m i : Nat), i + m = C.length → planT Y (nr + 1) nr (frmT C o i) (cutS nr P o W N i).1 (cutS nr P o W N i).2 = zL nr P C o W N m i
  | 0, i, h => by
    have : frmT C o i = [] := by unfold frmT; rw [List.drop_of_length_le (by simp; omega)]; rfl
    rw [this, planT, zL]
  | m + 1, i, h => by
    have hi : i < C.length := by omega
    have ih := plan_z (Y := Y) (nr := nr) (W := W) (N := N) (o := o) hl hp m (i + 1) (by omega)
    by_cases q : o i = 1
    · rw [frmT_t hi q, planT, zL, if_pos q]
      have e1 : chN (nr + 1) nr (lenL Y (frmT C o (i + 1))) (plen Y (enD C i).2) (cutS nr P o W N i).1 (cutS nr P o W N i).2 (min (cutS nr P o W N i).1 (plen Y (enD C i).2 / (nr + 1))) = cutH nr P o W N i := by
        rw [cutH, if_pos q, chS, frmT_len hl hp, hp i hi]
      have e2 : min (cutS nr P o W N i).2 ((plen Y (enD C i).2 - cutH nr P o W N i * (nr + 1)) / nr) = cutM nr P o W N i := by
        rw [cutM, if_pos q, mnS, hp i hi, cutH, if_pos q]
      rw [e1, e2, ← ih, cutS_t q]
      rfl
    · rw [frmT_f hi q, zL, if_neg q, List.nil_append, ← ih, cutS_f q]
theorem z_wd {nr W N : Nat} {P C : List (Nat × Nat × Nat)} {o : Nat → Nat} : ∀ (m i : Nat), repL (cutH nr P o W N) (fun j => (enD C j).2.1) i ++ wdL (zL nr P C o W N m i) = repL (cutH nr P o W N) (fun j => (enD C j).2.1) (i + m)
  | 0, i => by simp [zL, wdL]
  | m + 1, i => by
    have ih := z_wd (nr := nr) (W := W) (N := N) (P := P) (C := C) (o := o) m (i + 1)
    rw [show i + (m + 1) = i + 1 + m by omega, ← ih, repL, zL]
    by_cases q : o i = 1
    · rw [if_pos q]; simp [wdL]
    · rw [if_neg q, cutH, if_neg q]; simp [wdL]
theorem z_nr {nr W N : Nat} {P C : List (Nat × Nat × Nat)} {o : Nat → Nat} : ∀ (m i : Nat), repL (cutM nr P o W N) (fun j => (enD C j).2.1) i ++ nrL (zL nr P C o W N m i) = repL (cutM nr P o W N) (fun j => (enD C j).2.1) (i + m)
  | 0, i => by simp [zL, nrL]
  | m + 1, i => by
    have ih := z_nr (nr := nr) (W := W) (N := N) (P := P) (C := C) (o := o) m (i + 1)
    rw [show i + (m + 1) = i + 1 + m by omega, ← ih, repL, zL]
    by_cases q : o i = 1
    · rw [if_pos q]; simp [nrL]
    · rw [if_neg q, cutM, if_neg q]; simp [nrL]
abbrev cutA (nr : Nat) (P : List (Nat × Nat × Nat)) (o : Nat → Nat) (W N j : Nat) : Nat := cutH nr P o W N j * (nr + 1) + cutM nr P o W N j * nr
theorem z_am0 {nr W N b p : Nat} {P C : List (Nat × Nat × Nat)} {o : Nat → Nat} : ∀ (m i : Nat), (∀ j, i ≤ j → j < i + m → (enD C j).2 ≠ (b, p)) → amN (nr + 1) nr (zL nr P C o W N m i) b p = 0
  | 0, i, _ => rfl
  | m + 1, i, h => by
    have ih := z_am0 (nr := nr) (W := W) (N := N) (P := P) (o := o) m (i + 1) (fun j h1 h2 => h j (by omega) (by omega))
    rw [zL]
    by_cases q : o i = 1
    · rw [if_pos q, List.singleton_append, amN, ih, if_neg (fun z => h i (by omega) (by omega) (Prod.ext z.1.symm z.2.symm))]
    · rw [if_neg q, List.nil_append, ih]
theorem z_am {nr W N : Nat} {P C : List (Nat × Nat × Nat)} {o : Nat → Nat} {j : Nat} (hd : ∀ k, k < C.length → k ≠ j → (enD C k).2 ≠ (enD C j).2) : ∀ (m i : Nat), i ≤ j → j < i + m → i + m ≤ C.length → amN (nr + 1) nr (zL nr P C o W N m i) (enD C j).2.1 (enD C j).2.2 = cutA nr P o W N j
  | 0, i, h1, h2, _ => by omega
  | m + 1, i, h1, h2, h3 => by
    rw [zL]
    by_cases e : i = j
    · subst e
      have z := z_am0 (nr := nr) (W := W) (N := N) (P := P) (C := C) (o := o) (b := (enD C i).2.1) (p := (enD C i).2.2) m (i + 1) (fun k q1 q2 => hd k (by omega) (by omega))
      by_cases q : o i = 1
      · rw [if_pos q, List.singleton_append, amN, z, if_pos ⟨rfl, rfl⟩]; rfl
      · rw [if_neg q, List.nil_append, z, cutA, cutH, if_neg q, cutM, if_neg q]; simp
    · have ih := z_am (nr := nr) (W := W) (N := N) (P := P) (o := o) hd m (i + 1) (by omega) (by omega) (by omega)
      by_cases q : o i = 1
      · rw [if_pos q, List.singleton_append, amN, ih, if_neg (fun z => hd i (by omega) e (Prod.ext z.1.symm z.2.symm)), Nat.zero_add]
      · rw [if_neg q, List.nil_append, ih]
theorem cut_sum {nr W N : Nat} {P C : List (Nat × Nat × Nat)} {o : Nat → Nat} (hn : 0 < nr) : ∀ i, (cutS nr P o W N i).1 + (repL (cutH nr P o W N) (fun j => (enD C j).2.1) i).length = W ∧ (cutS nr P o W N i).2 + (repL (cutM nr P o W N) (fun j => (enD C j).2.1) i).length = N
  | 0 => ⟨by simp [cutS, repL], by simp [cutS, repL]⟩
  | i + 1 => by
    have ih := cut_sum (W := W) (N := N) (P := P) (C := C) (o := o) hn i
    have hf := ch_fit (nr := nr) (P := P) (o := o) (i := i) (a := (cutS nr P o W N i).1) (n := (cutS nr P o W N i).2) hn
    rw [repL_s, repL_s]
    by_cases q : o i = 1
    · rw [cutS_t q]
      have e1 : cutH nr P o W N i = chS nr P o i (cutS nr P o W N i).1 (cutS nr P o W N i).2 := if_pos q
      have e2 : cutM nr P o W N i = mnS nr P o i (cutS nr P o W N i).1 (cutS nr P o W N i).2 := if_pos q
      constructor
      · show (cutS nr P o W N i).1 - cutH nr P o W N i + _ = W; omega
      · show (cutS nr P o W N i).2 - cutM nr P o W N i + _ = N; omega
    · rw [cutS_f q]
      have e1 : cutH nr P o W N i = 0 := if_neg q
      have e2 : cutM nr P o W N i = 0 := if_neg q
      omega
theorem cut_all {nr W N : Nat} {P C : List (Nat × Nat × Nat)} {o : Nat → Nat} (hn : 0 < nr) (h : (N : Int) ≤ dpN (nr + 1) nr (opnL P o (List.range P.length)) W) : (repL (cutH nr P o W N) (fun j => (enD C j).2.1) P.length).length = W ∧ (repL (cutM nr P o W N) (fun j => (enD C j).2.1) P.length).length = N := by
  have h1 := cut_giv h P.length (Nat.le_refl _)
  rw [opn_frm, List.drop_of_length_le (by simp)] at h1
  have h2 := dp_nil h1
  have h3 := cut_sum (W := W) (N := N) (P := P) (C := C) (o := o) hn P.length
  omega
/-! where the parts of a bolt lie among those laid -/
theorem layC_off (Y : YT) (K : Nat → Nat) : ∀ n, (layC Y K n).length = offN (fun p => yP Y (K p)) n
  | 0 => rfl
  | n + 1 => by rw [layC, List.length_append, layC_off Y K n, List.length_map, rowS_len, offN]
theorem layC_ix {Y : YT} {K : Nat → Nat} {k i : Nat} (hi : i < (yP Y (K k)).length) : ∀ n, k < n → enD (layC Y K n) (offN (fun p => yP Y (K p)) k + i) = (k, K k, i)
  | 0, h => by omega
  | n + 1, h => by
    have hl := layC_off Y K n
    rw [layC]
    by_cases e : k = n
    · subst e
      have h1 : (layC Y K k ++ (rowS (yP Y (K k)).length (K k)).map (fun q => (k, q)))[offN (fun p => yP Y (K p)) k + i]? = some (k, K k, i) := by
        rw [List.getElem?_append_right (by omega), hl, Nat.add_sub_cancel_left]
        simp [rowS, hi]
      simp [enD, List.getD, h1]
    · have ih := layC_ix (Y := Y) (K := K) hi n (by omega)
      have h2 : offN (fun p => yP Y (K p)) k + i < (layC Y K n).length := by
        have := offN_mono (fun p => yP Y (K p)) (p := k + 1) n (by omega)
        rw [offN] at this
        omega
      have h3 : enD (layC Y K n ++ (rowS (yP Y (K n)).length (K n)).map (fun q => (n, q))) (offN (fun p => yP Y (K p)) k + i) = enD (layC Y K n) (offN (fun p => yP Y (K p)) k + i) := by simp [enD, List.getD, List.getElem?_append_left h2]
      rw [h3]; exact ih
theorem layC_ex {Y : YT} {K : Nat → Nat} : ∀ n j, j < (layC Y K n).length → ∃ k i, k < n ∧ i < (yP Y (K k)).length ∧ j = offN (fun p => yP Y (K p)) k + i
  | 0, j, h => by simp [layC] at h
  | n + 1, j, h => by
    have hl := layC_off Y K n
    by_cases q : j < (layC Y K n).length
    · obtain ⟨k, i, h1, h2⟩ := layC_ex n j q; exact ⟨k, i, by omega, h2⟩
    · rw [layC, List.length_append, List.length_map, rowS_len] at h
      exact ⟨n, j - (layC Y K n).length, by omega, by omega, by omega⟩
theorem layC_dis {Y : YT} {n : Nat} (hn : n ≤ (lookL Y).length) {j k : Nat} (hj : j < (layC Y (lookK Y) n).length) (hk : k < (layC Y (lookK Y) n).length) (h : k ≠ j) : (enD (layC Y (lookK Y) n) k).2 ≠ (enD (layC Y (lookK Y) n) j).2 := by
  obtain ⟨a, i, h1, h2, h3⟩ := layC_ex n j hj
  obtain ⟨b, i', h4, h5, h6⟩ := layC_ex n k hk
  rw [h3, h6, layC_ix h2 n h1, layC_ix h5 n h4]
  intro e
  have e1 : lookK Y b = lookK Y a := (Prod.mk.inj e).1
  have e2 : i' = i := (Prod.mk.inj e).2
  have : a = b := by
    rcases Nat.lt_trichotomy a b with q | q | q
    · have := look_mono (Y := Y) (show b < (lookL Y).length by omega) q; omega
    · exact q
    · have := look_mono (Y := Y) (show a < (lookL Y).length by omega) q; omega
  subst this
  omega
