/-! the saw's rows: parts (place, number, length), their order by loss, which are open -/
abbrev lnP (P : List (Nat × Nat × Nat)) (i : Nat) : Nat := (enD P i).2.2
def opnL (P : List (Nat × Nat × Nat)) (o : Nat → Nat) (I : List Nat) : List Nat := (I.filter (fun i => decide (o i = 1))).map (lnP P)
theorem opnL_app (P : List (Nat × Nat × Nat)) (o : Nat → Nat) (A B : List Nat) : opnL P o (A ++ B) = opnL P o A ++ opnL P o B := by simp [opnL]
theorem opnL_1 {P : List (Nat × Nat × Nat)} {o : Nat → Nat} {i : Nat} (h : o i = 1) : opnL P o [i] = [lnP P i] := by simp [opnL, h]
theorem opnL_0 {P : List (Nat × Nat × Nat)} {o : Nat → Nat} {i : Nat} (h : ¬ o i = 1) : opnL P o [i] = [] := by simp [opnL, h]
theorem take_n {S : List Nat} {i : Nat} (hi : i < S.length) : S.take (i + 1) = S.take i ++ [S.getD i 0] := by
  rw [List.take_add_one, List.getElem?_eq_getElem hi]
  simp [List.getD, List.getElem?_eq_getElem hi]
theorem sumN_1 (f : Nat → Nat) (x : Nat) : sumN f [x] = f x := by simp [sumN]
theorem q_t {P : List (Nat × Nat × Nat)} {o : Nat → Nat} {S : List Nat} {i : Nat} (f : Nat → Nat) (hi : i < S.length) (h : o (S.getD i 0) = 1) : sumN f (opnL P o (S.take (i + 1))) = sumN f (opnL P o (S.take i)) + f (lnP P (S.getD i 0)) := by
  rw [take_n hi, opnL_app, opnL_1 h, sumN_app, sumN_1]
theorem q_f {P : List (Nat × Nat × Nat)} {o : Nat → Nat} {S : List Nat} {i : Nat} (f : Nat → Nat) (hi : i < S.length) (h : ¬ o (S.getD i 0) = 1) : sumN f (opnL P o (S.take (i + 1))) = sumN f (opnL P o (S.take i)) := by
  rw [take_n hi, opnL_app, opnL_0 h, List.append_nil]
theorem r_t {P : List (Nat × Nat × Nat)} {o : Nat → Nat} {i : Nat} (f : Nat → Nat) (h : o i = 1) : sumN f (opnL P o (List.range (i + 1))) = sumN f (opnL P o (List.range i)) + f (lnP P i) := by
  rw [List.range_succ, opnL_app, opnL_1 h, sumN_app, sumN_1]
theorem r_f {P : List (Nat × Nat × Nat)} {o : Nat → Nat} {i : Nat} (f : Nat → Nat) (h : ¬ o i = 1) : sumN f (opnL P o (List.range (i + 1))) = sumN f (opnL P o (List.range i)) := by
  rw [List.range_succ, opnL_app, opnL_0 h, List.append_nil]
/-- S: the parts in order of loss -/
def srtP (nr : Nat) (P : List (Nat × Nat × Nat)) (S : List Nat) : Prop := S.Perm (List.range P.length) ∧ (S.map (lnP P)).Pairwise (fun x y => lsN nr x ≤ lsN nr y)
theorem srt_len {nr : Nat} {P : List (Nat × Nat × Nat)} {S : List Nat} (h : srtP nr P S) : S.length = P.length := by rw [h.1.length_eq, List.length_range]
theorem getD_mem {S : List Nat} {i : Nat} (hi : i < S.length) : S.getD i 0 ∈ S := by
  have e : S[i]? = some (S.getD i 0) := by simp [List.getD, List.getElem?_eq_getElem hi]
  exact List.mem_of_getElem? e
theorem srt_lt {nr : Nat} {P : List (Nat × Nat × Nat)} {S : List Nat} (h : srtP nr P S) {i : Nat} (hi : i < S.length) : S.getD i 0 < P.length :=
  List.mem_range.mp (h.1.mem_iff.mp (getD_mem hi))
theorem aWN_le (nr L : Nat) : aWN nr L ≤ L := Nat.div_le_self _ _
theorem mLN_le (nr L : Nat) : mLN nr L ≤ L := Nat.le_trans (Nat.sub_le _ _) (Nat.div_le_self _ _)
/-- canGive's answer, where its second loop stopped at i -/
theorem cg_end {nr W N A0 i fu : Nat} {P : List (Nat × Nat × Nat)} {S : List Nat} {o : Nat → Nat} {mo wa : Int} (hn : 0 < nr) (hs : srtP nr P S) (hA : A0 = sumN (aWN nr) (opnL P o (List.range P.length))) (hi : i ≤ P.length)
    (hmo : mo = (A0 : Int) - (sumN (elo nr) (opnL P o (S.take i)) : Nat)) (hwa : wa = ((W + N : Nat) : Int) - (A0 : Int) - (sumN (el1 nr) (opnL P o (S.take i)) : Nat)) (hfu : fu = sumN (emo nr) (opnL P o (S.take i)))
    (hst : (((W + N : Nat) : Int) ≤ (A0 : Int) ∧ i = 0) ∨ ((A0 : Int) < ((W + N : Nat) : Int) ∧ 0 ≤ wa)) (hex : P.length ≤ i ∨ wa ≤ 0) :
    (max 0 wa ≤ (fu : Int) ∧ (W : Int) ≤ mo - max 0 wa * (nr : Int)) ↔ (N : Int) ≤ dpN (nr + 1) nr (opnL P o (List.range P.length)) W := by
  have hl := srt_len hs
  have hperm : (opnL P o S).Perm (opnL P o (List.range P.length)) := (hs.1.filter _).map _
  have hA' : sumN (aWN nr) (opnL P o S) = A0 := by rw [hA]; exact sumN_perm _ hperm
  have hpw : (opnL P o S).Pairwise (fun x y => lsN nr x ≤ lsN nr y) := hs.2.sublist (List.filter_sublist.map _)
  have hsp : opnL P o S = opnL P o (S.take i) ++ opnL P o (S.drop i) := by rw [← opnL_app, List.take_append_drop]
  have key := cg_ok (W := W) (N := N) (w := wa) hn hsp hpw hperm (by rw [hA']; exact hwa) (by
    rw [hA']
    rcases hst with ⟨h1, h2⟩ | ⟨h1, h2⟩
    · left; exact ⟨h1, by rw [h2]; rfl⟩
    · right
      rcases hex with h3 | h3
      · by_cases q : wa = 0
        · left; exact ⟨h1, q⟩
        · right; exact ⟨by omega, by rw [List.drop_of_length_le (by omega)]; rfl⟩
      · left; exact ⟨h1, by omega⟩)
  rw [hA', ← hmo, ← hfu] at key
  exact key
theorem rest_bd {w : Int} {nr : Nat} (h1 : w ≤ 200) (h2 : nr ≤ 3000) : 0 ≤ max 0 w * (nr : Int) ∧ max 0 w * (nr : Int) ≤ 600000 := by
  constructor
  · exact Int.mul_nonneg (by omega) (by omega)
  · have h3 : max 0 w * (nr : Int) ≤ 200 * (nr : Int) := Int.mul_le_mul_of_nonneg_right (by omega) (by omega)
    omega
/-- the bit of place p in the saw's sets -/
abbrev bitP (x p : Nat) : Prop := x / 2 ^ (7 - p) % 2 = 1
theorem opn_s {f g : Nat → Int32} {i x : Nat} {P : List (Nat × Nat × Nat)} (hg : ∀ j, j < i → g j = bI (bitP x (enD P j).1)) : ∀ j, j < i + 1 → upd g i (bI (bitP x (enD P i).1)) j = bI (bitP x (enD P j).1) := by
  intro j hj
  by_cases e : j = i
  · subst e; rw [upd_s]
  · rw [upd_n e]; exact hg j (by omega)
