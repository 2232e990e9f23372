/-! the yard's cells behind the calls that write -/
theorem saw_congr {cy : Nat → ClassId} {ad : Nat → Nat} {E u : Nat → va_E} (h : sawAny cy ad E) (ho : ∀ k, 6 ≤ k → k ≤ 17 → u k = E k) : sawAny cy ad u := by
  obtain ⟨nr, bl, PP, f7, f8, f9, f10, f11, f12, f13, f14, f15, f16, f17, h6, h7, h8, h9, h10, h11, h12, h13, h14, h15, h16, h17⟩ := h
  exact ⟨nr, bl, PP, f7, f8, f9, f10, f11, f12, f13, f14, f15, f16, f17, (ho 6 (by decide) (by decide)).trans h6, (ho 7 (by decide) (by decide)).trans h7, (ho 8 (by decide) (by decide)).trans h8, (ho 9 (by decide) (by decide)).trans h9, (ho 10 (by decide) (by decide)).trans h10, (ho 11 (by decide) (by decide)).trans h11, (ho 12 (by decide) (by decide)).trans h12, (ho 13 (by decide) (by decide)).trans h13, (ho 14 (by decide) (by decide)).trans h14, (ho 15 (by decide) (by decide)).trans h15, (ho 16 (by decide) (by decide)).trans h16, (ho 17 (by decide) (by decide)).trans h17⟩
theorem spare_congr {cy : Nat → ClassId} {ad : Nat → Nat} {E u : Nat → va_E} (h : spareAny cy ad E) (ho : ∀ k, 18 ≤ k → k ≤ 20 → u k = E k) : spareAny cy ad u := by
  obtain ⟨sp, n, f, g, h1, h2, h3⟩ := h
  exact ⟨sp, n, f, g, (ho 18 (by decide) (by decide)).trans h1, (ho 19 (by decide) (by decide)).trans h2, (ho 20 (by decide) (by decide)).trans h3⟩
theorem YR1_congr {cy : Nat → ClassId} {ad : Nat → Nat} {E u : Nat → va_E} {Y : YT} (h : YR1 cy ad E Y) (ho : ∀ k, k ≤ 3 → u k = E k) : YR1 cy ad u Y := by
  obtain ⟨h0, f1, f2, f3, h1, h2, h3, h4⟩ := h
  exact ⟨(ho 0 (by decide)).trans h0, f1, f2, f3, (ho 1 (by decide)).trans h1, (ho 2 (by decide)).trans h2, (ho 3 (by decide)).trans h3, h4⟩
theorem YR2_congr {cy : Nat → ClassId} {E u : Nat → va_E} {Y : YT} (h : YR2 cy E Y) (h4 : u 4 = E 4) (h5 : u 5 = E 5) : YR2 cy u Y := by
  obtain ⟨f4, f5, a1, a2, a3⟩ := h
  exact ⟨f4, f5, h4.trans a1, h5.trans a2, a3⟩
theorem caskAt_congr {cy : Nat → ClassId} {ad : Nat → Nat} {E u : Nat → va_E} {c cf n : Nat} {bo pa : Nat → Nat} {L : List (Nat × Nat × Nat)} (h : caskAt cy ad E c cf n bo pa L) (ho : ∀ o, o = 5000 ∨ o = 6000 ∨ o = 7000 ∨ o = 8000 ∨ o = 9000 ∨ o = 10000 → u (o + c) = E (o + c)) : caskAt cy ad u c cf n bo pa L := by
  obtain ⟨fb, fp, fd, ft, fk, h0, h1, h2, h3, h4, h5, h6⟩ := h
  exact ⟨fb, fp, fd, ft, fk, (ho 5000 (by decide)).trans h0, (ho 6000 (by decide)).trans h1, (ho 7000 (by decide)).trans h2, (ho 8000 (by decide)).trans h3, (ho 9000 (by decide)).trans h4, (ho 10000 (by decide)).trans h5, h6⟩
theorem YR3_congr {cy : Nat → ClassId} {ad : Nat → Nat} {E u : Nat → va_E} {Y : YT} (h : YR3 cy ad E Y) (ho : ∀ k, 1000 ≤ k → u k = E k) : YR3 cy ad u Y :=
  ⟨fun i hi => (ho _ (by omega)).trans (h.1 i hi), fun b hb => boltAt_congr (h.2.1 b hb) (ho _ (by omega)) (ho _ (by omega)) (ho _ (by omega)), fun c hc => caskAt_congr (h.2.2 c hc) (fun o _ => ho _ (by omega))⟩
theorem YR_days {cy : Nat → ClassId} {ad : Nat → Nat} {E u : Nat → va_E} {Y : YT} {n : Nat} (hR : YR cy ad E Y) (h0 : u 0 = yardO ad (yF Y) (yB Y) (yC Y) n) (ho : ∀ k, k ≠ 0 → u k = E k) : YR cy ad u (va_up Y.1 0 n, Y.2) := by
  obtain ⟨⟨a0, f1, f2, f3, a1, a2, a3, a4⟩, h2, h3, h4, h5⟩ := hR
  refine ⟨⟨h0, f1, f2, f3, (ho 1 (by decide)).trans a1, (ho 2 (by decide)).trans a2, (ho 3 (by decide)).trans a3, a4⟩, YR2_congr h2 (ho 4 (by decide)) (ho 5 (by decide)), saw_congr h3 (fun k _ _ => ho k (by omega)), spare_congr h4 (fun k _ _ => ho k (by omega)), ?_⟩
  exact YR3_congr (Y := Y) h5 (fun k _ => ho k (by omega))
theorem YR_weight {cy : Nat → ClassId} {ad : Nat → Nat} {E u : Nat → va_E} {Y : YT} {a x : Nat} {f5 : Nat → Int32} (hR : YR cy ad E Y) (hE5 : E 5 = rowI cy 16 f5) (hw : ∀ k, k < 16 → f5 k = nI (ywt Y k)) (h5 : u 5 = rowI cy 16 (upd f5 a (nI x))) (ho : ∀ k, k ≠ 5 → u k = E k) : YR cy ad u (Y.1, va_up Y.2.1 6 (va_up (Y.2.1 6) a x), Y.2.2) := by
  obtain ⟨h1, ⟨f4, g5, b1, b2, b3, b4⟩, h3, h4, h6⟩ := hR
  refine ⟨YR1_congr (Y := Y) h1 (fun k _ => ho k (by omega)), ⟨f4, _, (ho 4 (by decide)).trans b1, h5, b3, fun k hk => ?_⟩, saw_congr h3 (fun k _ _ => ho k (by omega)), spare_congr h4 (fun k _ _ => ho k (by omega)), YR3_congr (Y := Y) h6 (fun k _ => ho k (by omega))⟩
  by_cases q : k = a
  · subst q; rw [upd_s]; simp [ywt, va_up]
  · rw [upd_n q, hw k hk]; simp [ywt, va_up, q]
theorem or_bit {v b j : Nat} : (v ||| 2 ^ b) / 2 ^ j % 2 = if j = b then 1 else v / 2 ^ j % 2 := by
  have e : ∀ x : Nat, x / 2 ^ j % 2 = (x.testBit j).toNat := fun x => by rw [Nat.testBit_eq_decide_div_mod_eq]; rcases Nat.mod_two_eq_zero_or_one (x / 2 ^ j) with h | h <;> simp [h]
  rw [e, e, Nat.testBit_or, Nat.testBit_two_pow]
  by_cases h : j = b
  · subst h; simp
  · rw [if_neg h]; simp [Ne.symm h]
theorem and_bit {v b j : Nat} (hv : v < 65536) : (v &&& (65535 ^^^ 2 ^ b)) / 2 ^ j % 2 = if j = b then 0 else v / 2 ^ j % 2 := by
  have e : ∀ x : Nat, x / 2 ^ j % 2 = (x.testBit j).toNat := fun x => by rw [Nat.testBit_eq_decide_div_mod_eq]; rcases Nat.mod_two_eq_zero_or_one (x / 2 ^ j) with h | h <;> simp [h]
  rw [e, e, Nat.testBit_and, Nat.testBit_xor, Nat.testBit_two_pow]
  have h1 : (65535 : Nat).testBit j = decide (j < 16) := Nat.testBit_two_pow_sub_one 16 j
  rw [h1]
  by_cases h : j = b
  · subst h
    rw [if_pos rfl]
    by_cases q : j < 16
    · simp [q]
    · have : v.testBit j = false := Nat.testBit_lt_two_pow (Nat.lt_of_lt_of_le hv (Nat.pow_le_pow_right (n := 2) (by decide) (show 16 ≤ j by omega)))
      simp [this]
  · rw [if_neg h]
    by_cases q : j < 16
    · simp [q, Ne.symm h]
    · have : v.testBit j = false := Nat.testBit_lt_two_pow (Nat.lt_of_lt_of_le hv (Nat.pow_le_pow_right (n := 2) (by decide) (show 16 ≤ j by omega)))
      simp [this]
theorem n_andnot {v b : Nat} (hv : v < 65536) (hb : b < 16) : nI v &&& (nI (2 ^ b) ^^^ zI (-1)) = nI (v &&& (65535 ^^^ 2 ^ b)) := by
  apply Int32.toBitVec_inj.mp
  show BitVec.ofNat 32 v &&& (BitVec.ofNat 32 (2 ^ b) ^^^ BitVec.ofInt 32 (-1)) = BitVec.ofNat 32 (v &&& (65535 ^^^ 2 ^ b))
  have hm : BitVec.ofInt 32 (-1) = BitVec.allOnes 32 := by decide
  rw [hm]
  apply BitVec.eq_of_getLsbD_eq
  intro i hi
  have h1 : (65535 : Nat).testBit i = decide (i < 16) := Nat.testBit_two_pow_sub_one 16 i
  simp only [BitVec.getLsbD_and, BitVec.getLsbD_xor, BitVec.getLsbD_ofNat, BitVec.getLsbD_allOnes, Nat.testBit_and, Nat.testBit_xor, h1]
  by_cases q : i < 16
  · simp [hi, q]
  · have : v.testBit i = false := Nat.testBit_lt_two_pow (Nat.lt_of_lt_of_le hv (Nat.pow_le_pow_right (n := 2) (by decide) (show 16 ≤ i by omega)))
    simp [this]
theorem or_lt {v b : Nat} (hv : v < 65536) (hb : b < 16) : v ||| 2 ^ b < 65536 := Nat.or_lt_two_pow (n := 16) hv (Nat.pow_lt_pow_right (by decide) hb)
theorem YR_bars {cy : Nat → ClassId} {ad : Nat → Nat} {E u : Nat → va_E} {Y : YT} {a b x v w : Nat} {f4 : Nat → Int32} (hR : YR cy ad E Y) (hE4 : E 4 = rowI cy 16 f4) (hb : barR f4 Y) (ha : a < 16) (hb16 : b < 16) (hv : ∀ j, j < 16 → v / 2 ^ j % 2 = ybr Y a j) (hw : ∀ j, w / 2 ^ j % 2 = if j = b then x else v / 2 ^ j % 2) (hwb : w < 65536) (h4 : u 4 = rowI cy 16 (upd f4 a (nI w))) (ho : ∀ k, k ≠ 4 → u k = E k) :
    YR cy ad u (Y.1, Y.2.1, Y.2.2.1, va_up Y.2.2.2.1 2 (va_up (Y.2.2.2.1 2) a (va_up (Y.2.2.2.1 2 a) b x)), Y.2.2.2.2) := by
  obtain ⟨h1, ⟨g4, f5, b1, b2, b3, b4⟩, h3, h4', h6⟩ := hR
  refine ⟨YR1_congr (Y := Y) h1 (fun k _ => ho k (by omega)), ⟨_, f5, h4, (ho 5 (by decide)).trans b2, fun c hc => ?_, b4⟩, saw_congr h3 (fun k _ _ => ho k (by omega)), spare_congr h4' (fun k _ _ => ho k (by omega)), YR3_congr (Y := Y) h6 (fun k _ => ho k (by omega))⟩
  by_cases q : c = a
  · subst q
    refine ⟨w, upd_s _ _ _, hwb, fun j hj => ?_⟩
    rw [hw j]
    by_cases e : j = b
    · subst e; rw [if_pos rfl]; simp [ybr, va_up]
    · rw [if_neg e, hv j hj]; simp [ybr, va_up, e]
  · obtain ⟨v', c1, c2, c3⟩ := hb c hc
    refine ⟨v', (upd_n q).trans c1, c2, fun j hj => ?_⟩
    rw [c3 j hj]; simp [ybr, va_up, q]
/-! what is held does not change where there is no entry -/
theorem held_same {L : List (Nat × Nat × Nat)} {d d' : Nat} {k : Int} (h : ∀ q ∈ L, q.1 ≤ d ↔ q.1 ≤ d') : heldS L (d : Int) k = heldS L (d' : Int) k := by
  unfold heldS
  have : ∀ (M : List (Nat × Nat × Nat)) (z : Int × Int), (∀ q ∈ M, q.1 ≤ d ↔ q.1 ≤ d') → M.foldl (fun z q => if (q.2.1 : Int) ≤ k ∧ (q.1 : Int) ≤ (d : Int) ∧ z.1 ≤ (q.1 : Int) then ((q.1 : Int), (q.2.2 : Int)) else z) z = M.foldl (fun z q => if (q.2.1 : Int) ≤ k ∧ (q.1 : Int) ≤ (d' : Int) ∧ z.1 ≤ (q.1 : Int) then ((q.1 : Int), (q.2.2 : Int)) else z) z := by
    intro M
    induction M with
    | nil => intro z _; rfl
    | cons a M ih =>
      intro z hm
      have h1 := hm a List.mem_cons_self
      have h2 : ((a.1 : Int) ≤ (d : Int)) ↔ ((a.1 : Int) ≤ (d' : Int)) := by omega
      simp only [List.foldl_cons, h2]
      exact ih _ (fun q hq => hm q (List.mem_cons_of_mem _ hq))
  exact this L _ h
theorem nxt_spec (L : List (Nat × Nat × Nat)) (d : Nat) (hd : d ≤ 100000) : ∀ i, i ≤ L.length → d < nxtN L d i ∧ ∀ j, j < i → (enD L j).1 ≤ d ∨ nxtN L d i ≤ (enD L j).1
  | 0, _ => ⟨by rw [nxtN]; omega, fun j hj => absurd hj (Nat.not_lt_zero _)⟩
  | i + 1, hi => by
    obtain ⟨h1, h2⟩ := nxt_spec L d hd i (by omega)
    by_cases q : d < (enD L i).1
    · rw [nxt_t q]
      refine ⟨by omega, fun j hj => ?_⟩
      by_cases e : j = i
      · subst e; right; exact Nat.min_le_right _ _
      · rcases h2 j (by omega) with h | h
        · left; exact h
        · right; omega
    · rw [nxt_f q]
      refine ⟨h1, fun j hj => ?_⟩
      by_cases e : j = i
      · subst e; left; omega
      · exact h2 j (by omega)
theorem enD_of {L : List (Nat × Nat × Nat)} {q : Nat × Nat × Nat} (h : q ∈ L) : ∃ j, j < L.length ∧ enD L j = q := by
  obtain ⟨j, hj, e⟩ := List.mem_iff_getElem.mp h
  exact ⟨j, hj, by rw [← e]; simp [enD, List.getD, List.getElem?_eq_getElem hj]⟩
theorem lackN_split (L : List (Nat × Nat × Nat)) (k z : Int) : ∀ (a x b : Nat), lackN L k z x (a + b) = lackN L k z x a + lackN L k z (x + a) b
  | 0, x, b => by simp [lackN]
  | a + 1, x, b => by
    rw [show a + 1 + b = (a + b) + 1 by omega, lackN, lackN, lackN_split L k z a (x + 1) b, show x + 1 + a = x + (a + 1) by omega]; omega
theorem lackN_const {L : List (Nat × Nat × Nat)} {k z : Int} {v : Int} : ∀ (a x : Nat), (∀ d, x ≤ d → d < x + a → (heldS L (d : Int) k).2 = v) → lackN L k z x a = if v = z then a else 0
  | 0, x, _ => by simp [lackN]
  | a + 1, x, h => by
    rw [lackN, h x (by omega) (by omega), lackN_const a (x + 1) (fun d h1 h2 => h d (by omega) (by omega))]
    split <;> omega
/-- how many entries lie behind a day -/
def behN (L : List (Nat × Nat × Nat)) (d : Nat) : Nat := (L.filter (fun q => decide (d < q.1))).length
theorem behN_le (L : List (Nat × Nat × Nat)) (d : Nat) : behN L d ≤ L.length := List.length_filter_le _ _
theorem filt_lt {α : Type} {p q : α → Bool} : ∀ (L : List α), (∀ x ∈ L, q x = true → p x = true) → (∃ x ∈ L, p x = true ∧ q x = false) → (L.filter q).length < (L.filter p).length
  | [], _, h => by obtain ⟨x, hx, _⟩ := h; cases hx
  | a :: L, h1, h2 => by
    have hle : ∀ (M : List α), (∀ x ∈ M, q x = true → p x = true) → (M.filter q).length ≤ (M.filter p).length := by
      intro M
      induction M with
      | nil => intro _; exact Nat.le_refl _
      | cons b M ih =>
        intro hm
        have := ih (fun x hx => hm x (List.mem_cons_of_mem _ hx))
        have hb := hm b List.mem_cons_self
        cases hq : q b
        · cases hp : p b <;> simp [List.filter_cons, hq, hp] <;> omega
        · simp [List.filter_cons, hq, hb hq]; omega
    have ha := h1 a List.mem_cons_self
    obtain ⟨x, hx, hp, hq⟩ := h2
    rcases List.mem_cons.mp hx with e | e
    · subst e
      have := hle L (fun y hy => h1 y (List.mem_cons_of_mem _ hy))
      simp [List.filter_cons, hp, hq]; omega
    · have ih := filt_lt L (fun y hy => h1 y (List.mem_cons_of_mem _ hy)) ⟨x, e, hp, hq⟩
      cases hqa : q a
      · cases hpa : p a <;> simp [List.filter_cons, hqa, hpa] <;> omega
      · simp [List.filter_cons, hqa, ha hqa]; omega
theorem beh_step {L : List (Nat × Nat × Nat)} {d : Nat} (hd : d ≤ 100000) (h : nxtN L d L.length ≤ 100000) : behN L (nxtN L d L.length) < behN L d := by
  obtain ⟨h1, h2⟩ := nxt_spec L d hd L.length (Nat.le_refl _)
  have hx : ∀ i, i ≤ L.length → nxtN L d i ≤ 100000 → ∃ j, j < i ∧ (enD L j).1 = nxtN L d i ∧ d < (enD L j).1 := by
    intro i
    induction i with
    | zero => intro _ h9; rw [nxtN] at h9; omega
    | succ i ih =>
      intro hi h9
      by_cases q : d < (enD L i).1
      · rw [nxt_t q] at h9 ⊢
        by_cases e : (enD L i).1 ≤ nxtN L d i
        · exact ⟨i, by omega, by omega, q⟩
        · obtain ⟨j, a1, a2, a3⟩ := ih (by omega) (by omega)
          exact ⟨j, by omega, by omega, a3⟩
      · rw [nxt_f q] at h9 ⊢
        obtain ⟨j, a1, a2, a3⟩ := ih (by omega) h9
        exact ⟨j, by omega, a2, a3⟩
  obtain ⟨j, a1, a2, a3⟩ := hx L.length (Nat.le_refl _) h
  refine filt_lt L (fun q _ hq => ?_) ⟨enD L j, enD_mem a1, by simp [a3], by simp [a2]⟩
  simp only [decide_eq_true_eq] at hq ⊢
  omega
/-- one step of lacks: the days from d to e (not e) -/
theorem lack_step {L : List (Nat × Nat × Nat)} {k z : Int} {d y e t G : Nat} (hd : d ≤ y) (hy : y ≤ 100000) (he : e = min (nxtN L d L.length) (y + 1)) (hG : t + lackN L k z d (y + 1 - d) = G) :
    d < e ∧ e ≤ y + 1 ∧ ((heldS L (d : Int) k).2 = z → t + (e - d) + lackN L k z e (y + 1 - e) = G) ∧ ((heldS L (d : Int) k).2 ≠ z → t + lackN L k z e (y + 1 - e) = G) := by
  obtain ⟨h1, h2⟩ := nxt_spec L d (by omega) L.length (Nat.le_refl _)
  have hde : d < e ∧ e ≤ y + 1 := by omega
  have hc := lackN_const (L := L) (k := k) (z := z) (v := (heldS L (d : Int) k).2) (e - d) d (fun d' q1 q2 => by
    rw [held_same (d := d') (d' := d) (fun q hq => ?_)]
    obtain ⟨j, hj, ej⟩ := enD_of hq
    have h3 := h2 j hj
    rw [ej] at h3
    omega)
  have hs := lackN_split L k z (e - d) d (y + 1 - e)
  rw [show e - d + (y + 1 - e) = y + 1 - d by omega, show d + (e - d) = e by omega, hc] at hs
  refine ⟨hde.1, hde.2, fun q => ?_, fun q => ?_⟩
  · rw [if_pos q] at hs; omega
  · rw [if_neg q] at hs; omega
