/-! the saw's best set is the reference's, its bits the other way round -/
def rv8 (x : Nat) : Nat := x % 2 * 128 + x / 2 % 2 * 64 + x / 4 % 2 * 32 + x / 8 % 2 * 16 + x / 16 % 2 * 8 + x / 32 % 2 * 4 + x / 64 % 2 * 2 + x / 128 % 2
theorem rv_ah : ((List.range 256).all fun x => (List.range 256).all fun y => decide ((x &&& lowN (x ^^^ y) ≠ 0) ↔ rv8 y < rv8 x)) = true := by decide +kernel
theorem rv_ahead {x y : Nat} (hx : x < 256) (hy : y < 256) : aheadN x y ↔ rv8 y < rv8 x := by
  have h1 := List.all_eq_true.mp rv_ah x (List.mem_range.mpr hx)
  have h2 := List.all_eq_true.mp h1 y (List.mem_range.mpr hy)
  exact of_decide_eq_true h2
theorem rv_all : ((List.range 256).all fun x => decide (rv8 x < 256 ∧ rv8 (rv8 x) = x ∧ popN (rv8 x) = popN x ∧ ∀ k ∈ List.range 8, (rv8 x / 2 ^ (7 - k) % 2 = 1 ↔ x / 2 ^ k % 2 = 1))) = true := by decide +kernel
theorem rv_sp {x : Nat} (hx : x < 256) : rv8 x < 256 ∧ rv8 (rv8 x) = x ∧ popN (rv8 x) = popN x ∧ ∀ k, k < 8 → (bitP (rv8 x) k ↔ x / 2 ^ k % 2 = 1) := by
  have h := of_decide_eq_true (List.all_eq_true.mp rv_all x (List.mem_range.mpr hx))
  exact ⟨h.1, h.2.1, h.2.2.1, fun k hk => h.2.2.2 k (List.mem_range.mpr hk)⟩
theorem rv_n : ((List.range 9).all fun n => (List.range 256).all fun x => decide (x < 2 ^ n → rv8 x = rv8 x / 2 ^ (8 - n) * 2 ^ (8 - n) ∧ rv8 x / 2 ^ (8 - n) < 2 ^ n ∧ rv8 (x * 2 ^ (8 - n)) < 2 ^ n ∧ x * 2 ^ (8 - n) < 256)) = true := by decide +kernel
theorem rv_sc {n x : Nat} (hn : n ≤ 8) (hx : x < 2 ^ n) : rv8 x = rv8 x / 2 ^ (8 - n) * 2 ^ (8 - n) ∧ rv8 x / 2 ^ (8 - n) < 2 ^ n ∧ rv8 (x * 2 ^ (8 - n)) < 2 ^ n ∧ x * 2 ^ (8 - n) < 256 := by
  have h2 := (pow_8 hn).2
  have h := of_decide_eq_true (List.all_eq_true.mp (List.all_eq_true.mp rv_n n (List.mem_range.mpr (by omega))) x (List.mem_range.mpr (by omega)))
  exact h hx
theorem rv_0 {x : Nat} (hx : x < 256) (h : rv8 x = 0) : x = 0 := by
  have := (rv_sp hx).2.1
  rw [h] at this
  rw [← this]; rfl
/-- the parts of the first n bolts looked at -/
def layF (Y : YT) (K : Nat → Nat) : Nat → List (Nat × Nat × Nat)
  | 0 => []
  | k + 1 => layF Y K k ++ layL k (K k) (yP Y (K k))
theorem enD_map (P : List (Nat × Nat × Nat)) : (List.range P.length).map (enD P) = P := by
  apply List.ext_getElem?
  intro i
  by_cases h : i < P.length
  · simp [h, enD, List.getD]
  · simp [h]
theorem opn_list (P : List (Nat × Nat × Nat)) (x : Nat) : opnL P (bitO P x) (List.range P.length) = (P.filter (fun z => decide (bitP x z.1))).map (fun z => z.2.2) := by
  have e : P.filter (fun z => decide (bitP x z.1)) = ((List.range P.length).filter (fun i => decide (bitP x (enD P i).1))).map (enD P) := by
    have h : P.filter (fun z => decide (bitP x z.1)) = ((List.range P.length).map (enD P)).filter (fun z => decide (bitP x z.1)) := by rw [enD_map]
    rw [h, List.filter_map]
    rfl
  rw [e, List.map_map]
  unfold opnL
  congr 1
  apply List.filter_congr
  intro i _
  show decide (bitO P x i = 1) = decide (bitP x (enD P i).1)
  by_cases q : bitP x (enD P i).1
  · have h1 : bitO P x i = 1 := if_pos q
    exact (decide_eq_true h1).trans (decide_eq_true q).symm
  · have h1 : ¬ bitO P x i = 1 := by rw [bitO, if_neg q]; decide
    exact (decide_eq_false h1).trans (decide_eq_false q).symm
theorem lay_filter {Y : YT} {K : Nat → Nat} {x y : Nat} : ∀ n, (∀ k, k < n → (bitP x k ↔ y / 2 ^ k % 2 = 1)) → ((layF Y K n).filter (fun z => decide (bitP x z.1))).map (fun z => z.2.2) = lenL Y (takeS Y K y n)
  | 0, _ => rfl
  | k + 1, h => by
    have ih := lay_filter (Y := Y) (K := K) k (fun j hj => h j (by omega))
    have hk := h k (by omega)
    rw [layF, List.filter_append, List.map_append, ih]
    by_cases q : y / 2 ^ k % 2 = 1
    · rw [takeS_t q]
      have e1 : (layL k (K k) (yP Y (K k))).filter (fun z => decide (bitP x z.1)) = layL k (K k) (yP Y (K k)) := List.filter_eq_self.mpr (fun z hz => by
        obtain ⟨w, _, rfl⟩ := List.mem_map.mp hz
        exact decide_eq_true (hk.mpr q))
      rw [e1]
      unfold lenL
      rw [List.map_append]
      congr 1
      unfold layL rowS
      rw [List.map_map, List.map_map]
      apply List.ext_getElem?
      intro i
      by_cases hi : i < (yP Y (K k)).length
      · simp [hi, plen, paD, List.getD]
      · simp [hi]
    · rw [takeS_f q]
      have e1 : (layL k (K k) (yP Y (K k))).filter (fun z => decide (bitP x z.1)) = [] := List.filter_eq_nil_iff.mpr (fun z hz => by
        obtain ⟨w, _, rfl⟩ := List.mem_map.mp hz
        have : ¬ bitP x k := fun z => q (hk.mp z)
        simp [this])
      rw [e1]; simp
theorem takeS_8 {Y : YT} {K : Nat → Nat} {y n : Nat} (hy : y < 2 ^ n) : ∀ m, takeS Y K y (n + m) = takeS Y K y n
  | 0 => rfl
  | m + 1 => by
    rw [show n + (m + 1) = (n + m) + 1 by omega, takeS_f (fun q => by have := bit_lt hy q; omega), takeS_8 hy m]
theorem open_eq {Y : YT} {n x : Nat} (hn : n ≤ 8) (hx : x < 2 ^ n) : opnL (layF Y (lookK Y) n) (bitO (layF Y (lookK Y) n) (rv8 x)) (List.range (layF Y (lookK Y) n).length) = lenL Y (takeS Y (lookK Y) x 8) := by
  have h2 := (pow_8 hn).2
  rw [opn_list, lay_filter n (fun k hk => (rv_sp (by omega)).2.2.2 k (by omega)), show 8 = n + (8 - n) by omega, takeS_8 hx]
theorem gv_eq {Y : YT} {n x nr W N : Nat} (hn : n ≤ 8) (hx : x < 2 ^ n) : gvS nr (layF Y (lookK Y) n) W N (rv8 x) ↔ givesX Y (nr + 1) nr W N x := by
  unfold gvS givesX
  rw [open_eq hn hx]
theorem bestF_opt {Y : YT} {wd nr wm nm : Nat} : ∀ m, m < 256 → (bestF Y wd nr wm nm m = 0 ∧ ∀ x, 1 ≤ x → x ≤ m → ¬ givesX Y wd nr wm nm x) ∨ (1 ≤ bestF Y wd nr wm nm m ∧ givesX Y wd nr wm nm (bestF Y wd nr wm nm m) ∧ ∀ x, 1 ≤ x → x ≤ m → givesX Y wd nr wm nm x → popN (bestF Y wd nr wm nm m) < popN x ∨ (popN (bestF Y wd nr wm nm m) = popN x ∧ rv8 x ≤ rv8 (bestF Y wd nr wm nm m)))
  | 0, _ => Or.inl ⟨rfl, fun x h1 h2 => by omega⟩
  | m + 1, hm => by
    have ih := bestF_opt (Y := Y) (wd := wd) (nr := nr) (wm := wm) (nm := nm) m (by omega)
    have hbl := bestF_le Y wd nr wm nm m
    by_cases q : betterN (m + 1) (bestF Y wd nr wm nm m) ∧ givesX Y wd nr wm nm (m + 1)
    · rw [bestF_t q.1 q.2]
      refine Or.inr ⟨by omega, q.2, fun x h1 h2 h3 => ?_⟩
      by_cases e : x = m + 1
      · subst e; exact Or.inr ⟨rfl, Nat.le_refl _⟩
      · rcases ih with ⟨a1, a2⟩ | ⟨a1, a2, a3⟩
        · exact absurd h3 (a2 x h1 (by omega))
        · have h4 := a3 x h1 (by omega) h3
          rcases q.1 with h5 | h5 | ⟨h5, h6⟩
          · omega
          · left; omega
          · rw [rv_ahead (by omega) (by omega)] at h6
            rcases h4 with h7 | ⟨h7, h8⟩
            · left; omega
            · right; exact ⟨by omega, by omega⟩
    · rw [bestF_f q]
      rcases ih with ⟨a1, a2⟩ | ⟨a1, a2, a3⟩
      · refine Or.inl ⟨a1, fun x h1 h2 h3 => ?_⟩
        by_cases e : x = m + 1
        · subst e; exact q ⟨Or.inl a1, h3⟩
        · exact a2 x h1 (by omega) h3
      · refine Or.inr ⟨a1, a2, fun x h1 h2 h3 => ?_⟩
        by_cases e : x = m + 1
        · subst e
          have h4 : ¬ betterN (m + 1) (bestF Y wd nr wm nm m) := fun z => q ⟨z, h3⟩
          have h5 : ¬ popN (m + 1) < popN (bestF Y wd nr wm nm m) := fun z => h4 (Or.inr (Or.inl z))
          by_cases h6 : popN (m + 1) = popN (bestF Y wd nr wm nm m)
          · right
            refine ⟨h6.symm, ?_⟩
            have h7 : ¬ rv8 (bestF Y wd nr wm nm m) < rv8 (m + 1) := fun z => h4 (Or.inr (Or.inr ⟨h6, (rv_ahead (by omega) (by omega)).mpr z⟩))
            omega
          · left; omega
        · exact a3 x h1 (by omega) h3
theorem best_link {Y : YT} {i b : Nat} (hf : fsP (gvS (yg Y i / ys Y i + 2) (layF Y (lookK Y) (lookL Y).length) (yg Y i % ys Y i) (ys Y i - yg Y i % ys Y i)) (lookL Y).length b) : b = rv8 (bestY Y i) ∧ bestY Y i < 2 ^ (lookL Y).length := by
  have hn := look_len Y
  have hp := pow_8 hn
  have hbl : bestY Y i ≤ 2 ^ (lookL Y).length - 1 := bestF_le _ _ _ _ _ _
  have hlt : bestY Y i < 2 ^ (lookL Y).length := by omega
  refine ⟨?_, hlt⟩
  have ho : (bestY Y i = 0 ∧ ∀ x, 1 ≤ x → x ≤ 2 ^ (lookL Y).length - 1 → ¬ givesX Y (yg Y i / ys Y i + 3) (yg Y i / ys Y i + 2) (yg Y i % ys Y i) (ys Y i - yg Y i % ys Y i) x) ∨ (1 ≤ bestY Y i ∧ givesX Y (yg Y i / ys Y i + 3) (yg Y i / ys Y i + 2) (yg Y i % ys Y i) (ys Y i - yg Y i % ys Y i) (bestY Y i) ∧ ∀ x, 1 ≤ x → x ≤ 2 ^ (lookL Y).length - 1 → givesX Y (yg Y i / ys Y i + 3) (yg Y i / ys Y i + 2) (yg Y i % ys Y i) (ys Y i - yg Y i % ys Y i) x → popN (bestY Y i) < popN x ∨ (popN (bestY Y i) = popN x ∧ rv8 x ≤ rv8 (bestY Y i))) := bestF_opt _ (by omega)
  generalize hB : bestY Y i = B at ho hlt ⊢
  have hg : ∀ x, x < 2 ^ (lookL Y).length → (gvS (yg Y i / ys Y i + 2) (layF Y (lookK Y) (lookL Y).length) (yg Y i % ys Y i) (ys Y i - yg Y i % ys Y i) (rv8 x) ↔ givesX Y (yg Y i / ys Y i + 3) (yg Y i / ys Y i + 2) (yg Y i % ys Y i) (ys Y i - yg Y i % ys Y i) x) := fun x hx => gv_eq hn hx
  have hsc := fun x (hx : x < 2 ^ (lookL Y).length) => rv_sc hn hx
  rcases ho with ⟨o1, o2⟩ | ⟨o1, o2, o3⟩
  · rcases hf with ⟨f1, _⟩ | ⟨j, f1, f2, f3, f4, _⟩
    · rw [f1, o1]; rfl
    · exfalso
      have h1 := (hsc j f2).2.2
      have h2 := rv_sp h1.2
      rw [f3] at f4
      have h3 : rv8 (rv8 (j * 2 ^ (8 - (lookL Y).length))) = j * 2 ^ (8 - (lookL Y).length) := h2.2.1
      refine o2 (rv8 (j * 2 ^ (8 - (lookL Y).length))) ?_ (by omega) ((hg _ h1.1).mp (by rw [h3]; exact f4))
      rcases Nat.eq_zero_or_pos (rv8 (j * 2 ^ (8 - (lookL Y).length))) with e | e
      · have h4 := rv_0 h1.2 e
        have h5 := (pow_8 (show 8 - (lookL Y).length ≤ 8 by omega)).1
        have := mul_0 h4 (by omega)
        omega
      · exact e
  · have hB2 := hsc B hlt
    have hrB : 1 ≤ rv8 B / 2 ^ (8 - (lookL Y).length) := by
      rcases Nat.eq_zero_or_pos (rv8 B / 2 ^ (8 - (lookL Y).length)) with e | e
      · have h4 := hB2.1
        rw [e, Nat.zero_mul] at h4
        have := rv_0 (by omega) h4
        omega
      · exact e
    have gB := (hg B hlt).mpr o2
    rcases hf with ⟨_, f2⟩ | ⟨j, f1, f2, f3, f4, f5⟩
    · exact absurd (by rw [← hB2.1]; exact gB) (f2 _ hrB hB2.2.1)
    · have h1 := (hsc j f2).2.2
      have h2 := rv_sp h1.2
      have hpB := (rv_sp (show B < 256 by omega)).2.2.1
      have k1 := f5 _ hrB hB2.2.1 (by rw [← hB2.1]; exact gB)
      rw [← hB2.1, hpB] at k1
      have hx1 : 1 ≤ rv8 (j * 2 ^ (8 - (lookL Y).length)) := by
        rcases Nat.eq_zero_or_pos (rv8 (j * 2 ^ (8 - (lookL Y).length))) with e | e
        · have h4 := rv_0 h1.2 e
          have h5 := (pow_8 (show 8 - (lookL Y).length ≤ 8 by omega)).1
          have := mul_0 h4 (by omega)
          omega
        · exact e
      have k2 := o3 (rv8 (j * 2 ^ (8 - (lookL Y).length))) hx1 (by omega) ((hg _ h1.1).mp (by rw [h2.2.1, ← f3]; exact f4))
      rw [h2.2.2.1, h2.2.1, ← f3] at k2
      have k3 : rv8 B / 2 ^ (8 - (lookL Y).length) ≤ j → rv8 B ≤ b := fun h => by rw [hB2.1, f3]; exact Nat.mul_le_mul_right _ h
      rcases k1 with k1 | ⟨k1, k4⟩
      · rcases k2 with k2 | ⟨k2, k5⟩ <;> omega
      · have := k3 k4
        rcases k2 with k2 | ⟨k2, k5⟩ <;> omega
/-! the bolts looked at, as they are laid -/
theorem look_at {Y : YT} {i : Nat} (hi : i < yB Y) (hr : ripeY Y i) (h8 : (ripeL Y i).length < 8) : lookK Y (ripeL Y i).length = i := by
  obtain ⟨R, hR⟩ := ripeL_pre Y (show i + 1 ≤ yB Y by omega)
  rw [ripeL_t hr] at hR
  unfold lookK lookL
  rw [hR]
  simp [List.getD, List.getElem?_take, h8]
theorem layF_len {Y : YT} {K : Nat → Nat} : ∀ n, (∀ k, k < n → (yP Y (K k)).length ≤ 4) → (layF Y K n).length ≤ 4 * n
  | 0, _ => Nat.le_refl _
  | n + 1, h => by
    have h1 := layF_len n (fun k hk => h k (by omega))
    have h2 := h n (by omega)
    rw [layF, List.length_append, layL, List.length_map]; omega
theorem layF_mem {Y : YT} {K : Nat → Nat} : ∀ n, ∀ z ∈ layF Y K n, z.1 < n ∧ ∃ q ∈ yP Y (K z.1), z.2.2 = q.2 - q.1 ∧ z.2.1 = K z.1
  | 0, z, h => by simp [layF] at h
  | n + 1, z, h => by
    rw [layF] at h
    rcases List.mem_append.mp h with h | h
    · have := layF_mem n z h; exact ⟨by omega, this.2⟩
    · obtain ⟨q, hq, rfl⟩ := List.mem_map.mp h
      exact ⟨by show n < n + 1; omega, q, hq, rfl, rfl⟩
theorem sawR_nil (nr : Nat) (f8 f9 f10 f11 f12 f13 f14 : Nat → Int32) : sawR nr [] [] f8 f9 f10 f11 f12 f13 f14 :=
  ⟨fun i hi => absurd hi (Nat.not_lt_zero _), ⟨List.Perm.refl _, List.Pairwise.nil⟩, fun i hi => absurd hi (Nat.not_lt_zero _)⟩
