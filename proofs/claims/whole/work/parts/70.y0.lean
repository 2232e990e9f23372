/-! the state of a new yard -/
def y0 : YT := (fun _ => 0, fun j _ => if j = 6 then 1000 else 0, fun _ => [], fun _ _ _ => 0, fun _ => [])
theorem WF_0 : WF y0 := by
  refine ⟨Nat.zero_le _, Nat.zero_le _, Nat.zero_le _, Nat.zero_le _, fun i hi => absurd hi (Nat.not_lt_zero _), fun i hi => absurd hi (Nat.not_lt_zero _), fun i hi => absurd hi (Nat.not_lt_zero _), ?_, ?_⟩
  · intros; simp [ybr, y0]
  · intros; simp [ywt, y0]
theorem YR_0 {cy : Nat → ClassId} {ad : Nat → Nat} {E : Nat → va_E} {g : Nat → Int32} (h0 : E 0 = yardO ad 0 0 0 0) (h1 : E 1 = rowQ cy 3 8 (fun _ => none)) (h2 : E 2 = rowQ cy 4 40 (fun _ => none)) (h3 : E 3 = rowQ cy 5 30 (fun _ => none)) (h4 : E 4 = rowI cy 16 (fun _ => 0)) (h5 : E 5 = rowI cy 16 g) (hg : ∀ k, k < 16 → g k = nI 1000) (hs : sawAny cy ad E) (hp : spareAny cy ad E) : YR cy ad E y0 := by
  have hr : ∀ o, refR ad o 0 (fun _ => none) := fun o i => (if_neg (Nat.not_lt_zero _)).symm
  refine ⟨⟨h0, _, _, _, h1, h2, h3, hr _, hr _, hr _⟩, ⟨_, _, h4, h5, fun a ha => ⟨0, rfl, by decide, fun b hb => by simp [ybr, y0]⟩, hg⟩, hs, hp, fun i hi => absurd hi (Nat.not_lt_zero _), fun i hi => absurd hi (Nat.not_lt_zero _), fun i hi => absurd hi (Nat.not_lt_zero _)⟩
theorem KR_0 {K : List Nat} (h : ∀ k, k ∈ K ↔ k < 21) : KR K y0 := by
  intro k
  rw [h k]
  have e1 : yF y0 = 0 := rfl
  have e2 : yB y0 = 0 := rfl
  have e3 : yC y0 = 0 := rfl
  unfold keyOk
  rw [e1, e2, e3]
  omega
theorem wt_s {g : Nat → Int32} {i : Nat} (h : ∀ k, k < i → g k = nI 1000) : ∀ k, k < i + 1 → upd g i (nI 1000) k = nI 1000 := by
  intro k hk
  by_cases e : k = i
  · subst e; rw [upd_s]
  · rw [upd_n e]; exact h k (by omega)
