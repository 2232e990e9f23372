/-! a stave cut anew -/
def fitN (w : Nat) (L : List (Nat × Nat)) : Nat → Nat → Option Nat
  | _, 0 => none
  | i, n + 1 => if w ≤ (paD L i).2 - (paD L i).1 then some i else fitN w L (i + 1) n
def renB (Y : YT) (w : Nat) : Nat → Nat → Option (Nat × Nat)
  | _, 0 => none
  | b, n + 1 => match (if ysp Y b + 1095 ≤ yNow Y then fitN w (yP Y b) 0 (yP Y b).length else none) with
    | some i => some (b, i)
    | none => renB Y w (b + 1) n
theorem fitN_step {w i : Nat} {L : List (Nat × Nat)} (hi : i < L.length) (h : (paD L i).2 - (paD L i).1 < w) : fitN w L i (L.length - i) = fitN w L (i + 1) (L.length - (i + 1)) := by
  rw [show L.length - i = (L.length - (i + 1)) + 1 by omega, fitN, if_neg (by omega)]
theorem fitN_hit {w i : Nat} {L : List (Nat × Nat)} (hi : i < L.length) (h : w ≤ (paD L i).2 - (paD L i).1) : fitN w L i (L.length - i) = some i := by
  rw [show L.length - i = (L.length - (i + 1)) + 1 by omega, fitN, if_pos h]
theorem fitN_end {w i : Nat} {L : List (Nat × Nat)} (hi : L.length ≤ i) : fitN w L i (L.length - i) = none := by
  rw [show L.length - i = 0 by omega, fitN]
theorem renB_none {Y : YT} {w b n : Nat} (hb : b < n) (h : ysp Y b + 1095 ≤ yNow Y → fitN w (yP Y b) 0 (yP Y b).length = none) : renB Y w b (n - b) = renB Y w (b + 1) (n - (b + 1)) := by
  rw [show n - b = (n - (b + 1)) + 1 by omega, renB]
  by_cases q : ysp Y b + 1095 ≤ yNow Y
  · rw [if_pos q, h q]
  · rw [if_neg q]
theorem renB_some {Y : YT} {w b n i : Nat} (hb : b < n) (h1 : ysp Y b + 1095 ≤ yNow Y) (h : fitN w (yP Y b) 0 (yP Y b).length = some i) : renB Y w b (n - b) = some (b, i) := by
  rw [show n - b = (n - (b + 1)) + 1 by omega, renB, if_pos h1, h]
def shortL (L : List (Nat × Nat)) (i w : Nat) : List (Nat × Nat) := L.set i ((paD L i).1 + w, (paD L i).2)
def boltY (Y : YT) (c k b : Nat) : YT := (Y.1, Y.2.1, Y.2.2.1, va_up (va_up Y.2.2.2.1 0 (va_up (Y.2.2.2.1 0) c (va_up (Y.2.2.2.1 0 c) k b))) 1 (va_up (Y.2.2.2.1 1) c (va_up (Y.2.2.2.1 1 c) k 0)), Y.2.2.2.2)
def renY (Y : YT) (c k : Nat) (z : Nat × Nat) : YT := boltY (partsY Y z.1 (filP (shortL (yP Y z.1) z.2 (midN Y c k + 2)))) c k z.1
def sp_renew (Y : YT) (a b : Int32) : Nat × Int32 × YT :=
  if isIx a (yC Y) ∧ isIx b (ys Y (ycf Y (ix a))) then match renB Y (midN Y (ix a) (ix b) + 2) 0 (yB Y) with
    | some z => (0, nI z.1, renY Y (ix a) (ix b) z)
    | none => (0, zI (-1), Y)
  else (1, nI 0, Y)
theorem shortL_len (L : List (Nat × Nat)) (i w : Nat) : (shortL L i w).length = L.length := by simp [shortL]
theorem arrP_short {f g : Nat → Int32} {o i w : Nat} {L : List (Nat × Nat)} (h : arrP f g o L) (hi : i < L.length) : arrP (upd f (o + i) (nI ((paD L i).1 + w))) g o (shortL L i w) := by
  intro j q hq
  by_cases e : j = i
  · subst e
    rw [shortL, List.getElem?_set_self hi] at hq
    cases hq
    exact ⟨upd_s _ _ _, (arrP_at h hi).2⟩
  · rw [shortL, List.getElem?_set_ne (fun z => e z.symm)] at hq
    rw [upd_n (by omega)]; exact h j q hq
theorem shortL_bd {L : List (Nat × Nat)} {i w : Nat} (hi : i < L.length) (hq : ∀ q ∈ L, q.1 < q.2 ∧ q.2 ≤ 600) (hw : w ≤ (paD L i).2 - (paD L i).1) : ∀ q ∈ shortL L i w, q.1 ≤ 600 ∧ q.2 ≤ 600 := by
  intro q h
  have h9 := hq _ (paD_mem hi)
  rcases List.mem_or_eq_of_mem_set h with h | h
  · have := hq q h; omega
  · subst h; exact ⟨by show (paD L i).1 + w ≤ 600; omega, h9.2⟩
theorem MR_bp {I I' : Nat → Int32} {F F' : Nat → Nat → Int32} {Y : YT} {x k b : Nat} (h : MR I F Y) (hs : ∀ c, c < yC Y → ys Y (ycf Y c) ≤ 40) (hk : k < ys Y (ycf Y x)) (hx : x < yC Y) (hi : ∀ k, 1 ≤ k → k ≤ 4 → I' k = I k) (e14 : F' 14 = upd (F 14) (40 * x + k) (nI b)) (e15 : F' 15 = upd (F 15) (40 * x + k) (nI 0)) (hf : ∀ k, 5 ≤ k → k ≤ 21 → k ≠ 14 → k ≠ 15 → F' k = F k) : MR I' F' (boltY Y x k b) := by
  obtain ⟨h1, h2, h3, h4, hF, hB, hC, hR, hW⟩ := h
  unfold MR
  rw [hi 1 (by omega) (by omega), hi 2 (by omega) (by omega), hi 3 (by omega) (by omega), hi 4 (by omega) (by omega), hf 5 (by omega) (by omega) (by omega) (by omega), hf 6 (by omega) (by omega) (by omega) (by omega), hf 7 (by omega) (by omega) (by omega) (by omega), hf 8 (by omega) (by omega) (by omega) (by omega), hf 9 (by omega) (by omega) (by omega) (by omega), hf 10 (by omega) (by omega) (by omega) (by omega), hf 11 (by omega) (by omega) (by omega) (by omega), hf 12 (by omega) (by omega) (by omega) (by omega), hf 13 (by omega) (by omega) (by omega) (by omega), hf 16 (by omega) (by omega) (by omega) (by omega), hf 17 (by omega) (by omega) (by omega) (by omega), hf 18 (by omega) (by omega) (by omega) (by omega), hf 19 (by omega) (by omega) (by omega) (by omega), hf 20 (by omega) (by omega) (by omega) (by omega), hf 21 (by omega) (by omega) (by omega) (by omega), e14, e15]
  refine ⟨h1, h2, h3, h4, hF, hB, ?_, hR, hW⟩
  intro c hc
  have hc : c < yC Y := hc
  obtain ⟨a1, a2, a3, a4⟩ := hC c hc
  refine ⟨a1, a2, a3, fun j hj => ?_⟩
  have hj : j < ys Y (ycf Y c) := hj
  have s1 := hs c hc
  have s2 := hs x hx
  by_cases q : c = x ∧ j = k
  · obtain ⟨rfl, rfl⟩ := q
    rw [upd_s, upd_s]; simp [ybo, ypa, boltY, va_up]
  · rw [upd_n (f := F 14) (by omega), upd_n (f := F 15) (by omega), (a4 j hj).1, (a4 j hj).2]
    by_cases q2 : c = x
    · subst q2
      have : j ≠ k := fun z => q ⟨rfl, z⟩
      simp [ybo, ypa, boltY, va_up, this]
    · simp [ybo, ypa, boltY, va_up, q2]
theorem ren_end {I : Nat → Int32} {F F1 F2 F3 : Nat → Nat → Int32} {Y : YT} {x k q i w : Nat} {g11 g12 : Nat → Int32} (hM : MR I F Y) (hY : WF Y) (hx : x < yC Y) (hk : k < ys Y (ycf Y x)) (hq : q < yB Y) (hi : i < (yP Y q).length) (hF1 : F1 = va_up F 11 (upd (F 11) (5 * q + i) (nI ((paD (yP Y q) i).1 + w))))
    (hF2 : F2 = va_up (va_up (va_up F1 11 g11) 12 g12) 10 (upd (F1 10) q (nI (filP (shortL (yP Y q) i w)).length))) (hA : arrP g11 g12 (5 * q) (filP (shortL (yP Y q) i w))) (hO : ∀ j, j < 5 * q ∨ 5 * q + 5 ≤ j → g11 j = F1 11 j ∧ g12 j = F1 12 j)
    (e14 : F3 14 = upd (F2 14) (40 * x + k) (nI q)) (e15 : F3 15 = upd (F2 15) (40 * x + k) (nI 0)) (hf : ∀ k, 5 ≤ k → k ≤ 21 → k ≠ 14 → k ≠ 15 → F3 k = F2 k) : MR (va_up I 0 (nI 0)) F3 (boltY (partsY Y q (filP (shortL (yP Y q) i w))) x k q) := by
  obtain ⟨hw0, hwF, hwB, hwC, hwf, hwb, hwc, hwr, hww⟩ := id hY
  have hl := (hwb q hq).2.1
  have hfl := filP_len (shortL (yP Y q) i w)
  rw [shortL_len] at hfl
  have hM2 : MR I F2 (partsY Y q (filP (shortL (yP Y q) i w))) := by
    refine MR_parts hM hY (fun _ _ _ => rfl) (g11 := g11) (g12 := g12) ?_ ?_ ?_ (by omega) hA ?_ ?_
    · rw [hF2, va_up_self, hF1, va_up_ne _ _ (by decide)]
    · rw [hF2, va_up_ne _ _ (by decide), va_up_ne _ _ (by decide), va_up_self]
    · rw [hF2, va_up_ne _ _ (by decide), va_up_self]
    · intro j hj
      have := hO j hj
      rw [this.1, this.2, hF1, va_up_self, va_up_ne _ _ (by decide), upd_n (by omega)]; exact ⟨rfl, rfl⟩
    · intro k _ _ n1 n2 n3
      rw [hF2, va_up_ne _ _ n1, va_up_ne _ _ n3, va_up_ne _ _ n2, hF1, va_up_ne _ _ n2]
  exact MR_bp hM2 (fun c hc => (hwf (ycf Y c) (hwc c hc).1).2.2.2.2.2.2.2.2) hk hx (fun k_ h1_ h2_ => va_up_ne _ _ (by omega)) e14 e15 hf
