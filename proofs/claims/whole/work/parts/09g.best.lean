/-! the bolts looked at, and the best set of them -/
abbrev ripeY (Y : YT) (b : Nat) : Prop := ysp Y b + 1095 ≤ yNow Y
def ripeL (Y : YT) : Nat → List Nat
  | 0 => []
  | b + 1 => ripeL Y b ++ (if ripeY Y b then [b] else [])
def lookL (Y : YT) : List Nat := (ripeL Y (yB Y)).take 8
def lookK (Y : YT) (k : Nat) : Nat := (lookL Y).getD k 0
theorem ripeL_t {Y : YT} {b : Nat} (h : ripeY Y b) : ripeL Y (b + 1) = ripeL Y b ++ [b] := by rw [ripeL, if_pos h]
theorem ripeL_f {Y : YT} {b : Nat} (h : ¬ ripeY Y b) : ripeL Y (b + 1) = ripeL Y b := by rw [ripeL, if_neg h, List.append_nil]
theorem ripeL_lt {Y : YT} : ∀ {b z : Nat}, z ∈ ripeL Y b → z < b ∧ ripeY Y z
  | 0, z, h => by simp [ripeL] at h
  | b + 1, z, h => by
    by_cases q : ripeY Y b
    · rw [ripeL_t q] at h
      rcases List.mem_append.mp h with h | h
      · have := ripeL_lt h; exact ⟨by omega, this.2⟩
      · simp at h; subst h; exact ⟨by omega, q⟩
    · rw [ripeL_f q] at h; have := ripeL_lt h; exact ⟨by omega, this.2⟩
theorem ripeL_pre (Y : YT) : ∀ {b c : Nat}, b ≤ c → ∃ R, ripeL Y c = ripeL Y b ++ R
  | b, 0, h => ⟨[], by rw [show b = 0 by omega]; simp⟩
  | b, c + 1, h => by
    by_cases e : b = c + 1
    · exact ⟨[], by rw [e]; simp⟩
    · obtain ⟨R, hR⟩ := ripeL_pre Y (b := b) (c := c) (by omega)
      exact ⟨R ++ (if ripeY Y c then [c] else []), by rw [ripeL, hR, List.append_assoc]⟩
/-- where the looking ends, what was found is what is looked at -/
theorem look_end {Y : YT} {b : Nat} (hb : b ≤ yB Y) (hl : (ripeL Y b).length ≤ 8) (h : b = yB Y ∨ (ripeL Y b).length = 8) : ripeL Y b = lookL Y := by
  unfold lookL
  rcases h with h | h
  · subst h; rw [List.take_of_length_le hl]
  · obtain ⟨R, hR⟩ := ripeL_pre Y hb
    rw [hR, ← h, List.take_left']
    rfl
abbrev betterN (x best : Nat) : Prop := best = 0 ∨ popN x < popN best ∨ (popN x = popN best ∧ aheadN x best)
abbrev givesX (Y : YT) (wd nr wm nm x : Nat) : Prop := (nm : Int) ≤ dpN wd nr (lenL Y (takeS Y (lookK Y) x 8)) wm
/-- the best of the sets 1 .. n -/
def bestF (Y : YT) (wd nr wm nm : Nat) : Nat → Nat
  | 0 => 0
  | n + 1 => if betterN (n + 1) (bestF Y wd nr wm nm n) ∧ givesX Y wd nr wm nm (n + 1) then n + 1 else bestF Y wd nr wm nm n
theorem bestF_t {Y : YT} {wd nr wm nm n : Nat} (h : betterN (n + 1) (bestF Y wd nr wm nm n)) (h2 : givesX Y wd nr wm nm (n + 1)) : bestF Y wd nr wm nm (n + 1) = n + 1 := by rw [bestF, if_pos ⟨h, h2⟩]
theorem bestF_f {Y : YT} {wd nr wm nm n : Nat} (h : ¬ (betterN (n + 1) (bestF Y wd nr wm nm n) ∧ givesX Y wd nr wm nm (n + 1))) : bestF Y wd nr wm nm (n + 1) = bestF Y wd nr wm nm n := by rw [bestF, if_neg h]
theorem bestF_le (Y : YT) (wd nr wm nm : Nat) : ∀ n, bestF Y wd nr wm nm n ≤ n
  | 0 => Nat.le_refl _
  | n + 1 => by
    have := bestF_le Y wd nr wm nm n
    rw [bestF]; split <;> omega
/-- the set that a cask of form i takes, as bits of the places looked at (0: none) -/
def bestY (Y : YT) (i : Nat) : Nat := bestF Y (yg Y i / ys Y i + 3) (yg Y i / ys Y i + 2) (yg Y i % ys Y i) (ys Y i - yg Y i % ys Y i) (2 ^ (lookL Y).length - 1)
def sp_fewest (Y : YT) (a : Int32) : Nat × Int32 × YT :=
  if isIx a (yF Y) then (0, if bestY Y (ix a) = 0 then zI (-1) else nI (popN (bestY Y (ix a))), Y) else (1, nI 0, Y)
