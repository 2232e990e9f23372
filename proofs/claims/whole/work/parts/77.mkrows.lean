theorem enD_in {P : List (Nat × Nat × Nat)} {i : Nat} (hi : i < P.length) : enD P i ∈ P := by simp [enD, List.getD, List.getElem?_eq_getElem hi]
theorem mk_32 {Y : YT} (hY : WF Y) : (layF Y (lookK Y) (lookL Y).length).length ≤ 32 := by
  have h1 := layF_len (Y := Y) (K := lookK Y) (lookL Y).length (fun k hk => (hY.2.2.2.2.2.1 _ (look_lt hk)).2.1)
  have := look_len Y
  omega
theorem mk_l1 {Y : YT} {i : Nat} (hi : i < (layF Y (lookK Y) (lookL Y).length).length) : (enD (layF Y (lookK Y) (lookL Y).length) i).1 < (lookL Y).length := (layF_mem _ _ (enD_in hi)).1
theorem mk_l6 {Y : YT} (hY : WF Y) : ∀ i, i < (layF Y (lookK Y) (lookL Y).length).length → lnP (layF Y (lookK Y) (lookL Y).length) i ≤ 600 := by
  intro i hi
  obtain ⟨h1, q, hq, h2, _⟩ := layF_mem _ _ (enD_in hi)
  have := (hY.2.2.2.2.2.1 _ (look_lt h1)).2.2 q hq
  show (enD _ i).2.2 ≤ 600
  rw [h2]; omega
