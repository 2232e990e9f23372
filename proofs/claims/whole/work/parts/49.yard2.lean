/-! the calls' answers, as the yard gives them -/
abbrev YP (cy : Nat → ClassId) (ad : Nat → Nat) (o : Nat × Int32 × YT) (r : Int32) (u : Nat → va_E) : Prop := o.1 = 0 ∧ r = o.2.1 ∧ YR cy ad u o.2.2
abbrev YPl (cy : Nat → ClassId) (ad : Nat → Nat) (o : Nat × Int64 × YT) (r : Int64) (u : Nat → va_E) : Prop := o.1 = 0 ∧ r = o.2.1 ∧ YR cy ad u o.2.2
theorem mid_w {Y : YT} {c k : Nat} (h : formOk (yh Y (ycf Y c)) (yg Y (ycf Y c)) (ye Y (ycf Y c)) (ys Y (ycf Y c))) : midN Y c k = widthN (ys Y (ycf Y c)) k (yg Y (ycf Y c)) := by unfold midN; rw [girth_mid h.2.2.1]
theorem mayB_stop {A : Nat} {br : Nat → Nat} {p n : Nat} (hp : p < n) (h1 : A / 2 ^ p % 2 = 1) (h2 : br p = 1) : mayB A br n = false := by
  obtain ⟨d, rfl⟩ : ∃ d, n = p + 1 + d := ⟨n - p - 1, by omega⟩
  exact mayB_mono (mayB_f h1 h2) d
