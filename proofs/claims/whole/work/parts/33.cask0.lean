/-! a cask's rows by themselves -/
abbrev isW (nn gg k : Nat) : Prop := widthN nn k gg + 2 = gg / nn + 3
/-- how many of the first k staves are wide (w = 1), narrow (w = 0) -/
def pcN (nn gg w k : Nat) : Nat := if w = 1 then cwN nn gg k else k - cwN nn gg k
theorem pcN_t {nn gg w k : Nat} (hw : w ≤ 1) (h : isW nn gg k ↔ w = 1) : pcN nn gg w (k + 1) = pcN nn gg w k + 1 := by
  unfold pcN
  have h1 := cwN_le nn gg k
  by_cases q : w = 1
  · rw [if_pos q, if_pos q, cwN, if_pos (h.mpr q)]
  · rw [if_neg q, if_neg q, cwN, if_neg (fun z => q (h.mp z))]; omega
theorem pcN_f {nn gg w k : Nat} (hw : w ≤ 1) (h : ¬ (isW nn gg k ↔ w = 1)) : pcN nn gg w (k + 1) = pcN nn gg w k := by
  unfold pcN
  have h1 := cwN_le nn gg k
  by_cases q : w = 1
  · rw [if_pos q, if_pos q, cwN, if_neg (fun z => h ⟨fun _ => q, fun _ => z⟩)]; rfl
  · have hz : isW nn gg k := Classical.byContradiction (fun z => h ⟨fun y => absurd y z, fun y => absurd y q⟩)
    rw [if_neg q, if_neg q, cwN, if_pos hz]; omega
theorem bI_int (P : Prop) [Decidable P] : (bI P).toInt = if P then 1 else 0 := by
  by_cases h : P
  · rw [bI_t h, if_pos h]; rfl
  · rw [bI_f h, if_neg h]; rfl
theorem bI_cmp {P : Prop} [Decidable P] {w : Nat} (hw : w ≤ 1) : (bI P).toInt = (w : Int) ↔ (P ↔ w = 1) := by
  rw [bI_int]
  by_cases h : P
  · rw [if_pos h]; exact ⟨fun e => ⟨fun _ => by omega, fun _ => h⟩, fun e => by have := e.mp h; omega⟩
  · rw [if_neg h]; exact ⟨fun e => ⟨fun q => absurd q h, fun q => by omega⟩, fun e => by
      have : ¬ w = 1 := fun q => h (e.mpr q)
      omega⟩
/-- the rows of boltOf behind the pieces from a to b of one kind -/
abbrev tkF (nn gg w a b : Nat) (x : Int32) (f : Nat → Int32) (j : Nat) : Int32 := if a ≤ j ∧ j < b ∧ (isW nn gg j ↔ w = 1) then x else f j
theorem tk_t {nn gg w a b : Nat} {x : Int32} {f g : Nat → Int32} (hg : ∀ j, g j = tkF nn gg w a b x f j) (hab : a ≤ b) (h : isW nn gg b ↔ w = 1) : ∀ j, upd g b x j = tkF nn gg w a (b + 1) x f j := by
  intro j
  by_cases e : j = b
  · subst e; rw [upd_s]; exact (if_pos ⟨hab, by omega, h⟩).symm
  · rw [upd_n e, hg j]
    by_cases q : a ≤ j ∧ j < b ∧ (isW nn gg j ↔ w = 1)
    · rw [tkF, tkF, if_pos q, if_pos ⟨q.1, by omega, q.2.2⟩]
    · rw [tkF, tkF, if_neg q, if_neg (fun z => q ⟨z.1, by omega, z.2.2⟩)]
theorem tk_f {nn gg w a b : Nat} {x : Int32} {f g : Nat → Int32} (hg : ∀ j, g j = tkF nn gg w a b x f j) (h : ¬ (isW nn gg b ↔ w = 1)) : ∀ j, g j = tkF nn gg w a (b + 1) x f j := by
  intro j
  rw [hg j]
  by_cases q : a ≤ j ∧ j < b ∧ (isW nn gg j ↔ w = 1)
  · rw [tkF, tkF, if_pos q, if_pos ⟨q.1, by omega, q.2.2⟩]
  · rw [tkF, tkF, if_neg q, if_neg (fun z => q ⟨z.1, by
      rcases Nat.lt_or_ge j b with y | y
      · exact y
      · exact absurd (show isW nn gg b ↔ w = 1 from (show j = b by omega) ▸ z.2.2) h, z.2.2⟩)]
theorem meet_s {f g : Nat → Int32} {i k : Nat} {pa : Nat → Nat} (hg : ∀ j, g j = if j < i then nI (pa j ||| 2 ^ k) else f j) : ∀ j, upd g i (nI (pa i ||| 2 ^ k)) j = if j < i + 1 then nI (pa j ||| 2 ^ k) else f j := by
  intro j
  by_cases e : j = i
  · subst e; rw [upd_s, if_pos (by omega)]
  · rw [upd_n e, hg j]
    by_cases q : j < i
    · rw [if_pos q, if_pos (by omega)]
    · rw [if_neg q, if_neg (by omega)]
theorem arrE_0 {f g k : Nat → Int32} {L : List (Nat × Nat × Nat)} (h : arrE f g k 0 L) {i : Nat} (hi : i < L.length) : f i = nI (enD L i).1 ∧ g i = nI (enD L i).2.1 ∧ k i = nI (enD L i).2.2 := by
  have := arrE_get h hi
  rwa [Nat.zero_add] at this
/-- the first day behind d that has an entry, among the first i -/
def nxtN (L : List (Nat × Nat × Nat)) (d : Nat) : Nat → Nat
  | 0 => 100001
  | i + 1 => if d < (enD L i).1 then min (nxtN L d i) (enD L i).1 else nxtN L d i
theorem nxtN_le (L : List (Nat × Nat × Nat)) (d : Nat) : ∀ i, nxtN L d i ≤ 100001
  | 0 => Nat.le_refl _
  | i + 1 => by
    have := nxtN_le L d i
    rw [nxtN]; split <;> omega
theorem nxt_t {L : List (Nat × Nat × Nat)} {d i : Nat} (h : d < (enD L i).1) : nxtN L d (i + 1) = min (nxtN L d i) (enD L i).1 := by rw [nxtN, if_pos h]
theorem nxt_f {L : List (Nat × Nat × Nat)} {d i : Nat} (h : ¬ d < (enD L i).1) : nxtN L d (i + 1) = nxtN L d i := by rw [nxtN, if_neg h]
theorem heldS_bd1 {L : List (Nat × Nat × Nat)} (hb : ∀ q ∈ L, q.1 ≤ 100000) (i : Nat) (d k : Int) : -1 ≤ (heldS (L.take i) d k).1 ∧ (heldS (L.take i) d k).1 ≤ 100000 := by
  induction i with
  | zero => simp [heldS]
  | succ i ih =>
    by_cases hi : i < L.length
    · have h2 := hb _ (enD_mem hi)
      rw [heldS_succ hi, heldT]
      split
      · exact ⟨by show (-1 : Int) ≤ ((enD L i).1 : Int); omega, by show ((enD L i).1 : Int) ≤ 100000; omega⟩
      · exact ih
    · rw [List.take_of_length_le (by omega)]
      rw [List.take_of_length_le (by omega)] at ih
      exact ih
