/-! laying the ripe bolts -/
theorem lay_step {Y : YT} {q bl b' : Nat} {ad : Nat → Nat} {PP P' : List (Nat × Nat × Nat)} {g7 g7' : Nat → Option Nat} (hq : q < yB Y) (hr : ripeY Y q) (hbl : bl = min 8 (ripeL Y q).length) (hPP : PP = layF Y (lookK Y) bl) (hL : ∀ p, p < bl → g7 p = some (ad (2000 + lookK Y p)))
    (h1 : bl < 8 → P' = PP ++ layL bl q (yP Y q) ∧ b' = bl + 1 ∧ g7' = va_up g7 bl (some (ad (2000 + q)))) (h2 : ¬ bl < 8 → P' = PP ∧ b' = bl ∧ g7' = g7) : b' = min 8 (ripeL Y (q + 1)).length ∧ P' = layF Y (lookK Y) b' ∧ ∀ p, p < b' → g7' p = some (ad (2000 + lookK Y p)) := by
  rw [ripeL_t hr, List.length_append, show ([q] : List Nat).length = 1 from rfl]
  by_cases c : bl < 8
  · obtain ⟨rfl, rfl, rfl⟩ := h1 c
    have hlen : (ripeL Y q).length = bl := by omega
    have hk : lookK Y bl = q := by rw [← hlen]; exact look_at hq hr (by omega)
    refine ⟨by omega, ?_, fun p hp => ?_⟩
    · rw [layF, hk, hPP]
    · by_cases e : p = bl
      · subst e; rw [va_up_self, hk]
      · rw [va_up_ne _ _ e]; exact hL p (by omega)
  · obtain ⟨rfl, rfl, rfl⟩ := h2 c
    exact ⟨by omega, hPP, hL⟩
theorem lay_all {Y : YT} {q bl : Nat} (hq : q = yB Y) (hbl : bl = min 8 (ripeL Y q).length) : bl = (lookL Y).length := by
  rw [hbl, hq, lookL, List.length_take]
theorem lay_rip {Y : YT} {q bl : Nat} (hr : ¬ ripeY Y q) (hbl : bl = min 8 (ripeL Y q).length) : bl = min 8 (ripeL Y (q + 1)).length := by rw [ripeL_f hr]; exact hbl
theorem lay_bds {Y : YT} (hY : WF Y) {bl q : Nat} (hq : q ≤ yB Y) (hbl : bl = min 8 (ripeL Y q).length) : bl ≤ (lookL Y).length ∧ (layF Y (lookK Y) bl).length ≤ 4 * bl ∧ (∀ i, i < (layF Y (lookK Y) bl).length → (enD (layF Y (lookK Y) bl) i).1 < bl ∧ lnP (layF Y (lookK Y) bl) i ≤ 600) := by
  have h1 : bl ≤ (lookL Y).length := by
    obtain ⟨R, hR⟩ := ripeL_pre Y hq
    have : (ripeL Y q).length ≤ (ripeL Y (yB Y)).length := by rw [hR, List.length_append]; omega
    rw [lookL, List.length_take]; omega
  refine ⟨h1, layF_len bl (fun k hk => (hY.2.2.2.2.2.1 _ (look_lt (by omega))).2.1), fun i hi => ?_⟩
  obtain ⟨m1, z, m2, m3, _⟩ := layF_mem bl _ (enD_mem hi)
  have h2 := (hY.2.2.2.2.2.1 _ (look_lt (show (enD (layF Y (lookK Y) bl) i).1 < (lookL Y).length by omega))).2.2 z m2
  exact ⟨m1, by show (enD (layF Y (lookK Y) bl) i).2.2 ≤ 600; rw [m3]; omega⟩
