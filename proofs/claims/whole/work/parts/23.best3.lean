/-! the model's cells while the best set is looked for -/
def bsI (I J : Nat → Int32) (Y : YT) (i : Nat) : Prop := (∀ k, k ≤ 4 → J k = I k) ∧ J 26 = nI (yg Y i / ys Y i + 3) ∧ J 27 = nI (yg Y i / ys Y i + 2) ∧ J 28 = nI (yg Y i % ys Y i) ∧ J 29 = nI (ys Y i - yg Y i % ys Y i)
def bsF (F G : Nat → Nat → Int32) (Y : YT) : Prop := (∀ k, 5 ≤ k → k ≤ 21 → G k = F k) ∧ ∀ k, k < (lookL Y).length → G 32 k = nI (lookK Y k)
theorem bsI_up {I J : Nat → Int32} {Y : YT} {i : Nat} (h : bsI I J Y i) (v : Int32) : bsI I (va_up J 25 v) Y i :=
  ⟨fun k hk => (va_up_ne _ _ (by omega)).trans (h.1 k hk), h.2⟩
theorem bsF_up {F G : Nat → Nat → Int32} {Y : YT} (h : bsF F G Y) {k : Nat} (g : Nat → Int32) (h1 : 21 < k) (h2 : k ≠ 32) : bsF F (va_up G k g) Y :=
  ⟨fun j h3 h4 => (va_up_ne _ _ (by omega)).trans (h.1 j h3 h4), fun j hj => by rw [va_up_ne _ _ (Ne.symm h2)]; exact h.2 j hj⟩
theorem bs_MR {I J : Nat → Int32} {F G : Nat → Nat → Int32} {Y : YT} {i : Nat} (hM : MR I F Y) (hI : bsI I J Y i) (hF : bsF F G Y) : MR J G Y :=
  MR_congr hM (fun k _ h2 => hI.1 k h2) hF.1
theorem bsI_0 (I : Nat → Int32) (Y : YT) (i : Nat) : bsI I (va_up (va_up (va_up (va_up I 27 (nI (yg Y i / ys Y i + 2))) 26 (nI (yg Y i / ys Y i + 3))) 29 (nI (ys Y i - yg Y i % ys Y i))) 28 (nI (yg Y i % ys Y i))) Y i :=
  ⟨fun k hk => by rw [va_up_ne _ _ (by omega), va_up_ne _ _ (by omega), va_up_ne _ _ (by omega), va_up_ne _ _ (by omega)], rfl, rfl, rfl, rfl⟩
theorem look_len (Y : YT) : (lookL Y).length ≤ 8 := by unfold lookL; rw [List.length_take]; omega
theorem pow_8 {n : Nat} (h : n ≤ 8) : 1 ≤ 2 ^ n ∧ 2 ^ n ≤ 256 := ⟨Nat.one_le_two_pow, Nat.pow_le_pow_right (n := 2) (by decide) h⟩
theorem bs_lk {F G : Nat → Nat → Int32} {Y : YT} (hF : bsF F G Y) {x : Nat} (hx : x < 2 ^ (lookL Y).length) : ∀ k, k < 8 → x / 2 ^ k % 2 = 1 → G 32 k = nI (lookK Y k) ∧ lookK Y k < yB Y :=
  fun k _ h => ⟨hF.2 k (bit_lt hx h), look_lt (bit_lt hx h)⟩
theorem bs_T {Y : YT} (hY : WF Y) {x : Nat} (hx : x < 2 ^ (lookL Y).length) : (takeS Y (lookK Y) x 8).length ≤ 32 ∧ ∀ z ∈ takeS Y (lookK Y) x 8, z.1 < yB Y ∧ z.2 < (yP Y z.1).length := by
  have hK : ∀ k, k < 8 → x / 2 ^ k % 2 = 1 → lookK Y k < yB Y := fun k _ h => look_lt (bit_lt hx h)
  refine ⟨takeS_len (fun k h1 h2 => (hY.2.2.2.2.2.1 _ (hK k h1 h2)).2.1) 8 (Nat.le_refl _), takeS_mem hK 8 (Nat.le_refl _)⟩
theorem bestF_s {Y : YT} {wd nr wm nm x b : Nat} (hx : 1 ≤ x) (hb : b = bestF Y wd nr wm nm (x - 1)) : (betterN x b ∧ givesX Y wd nr wm nm x → x = bestF Y wd nr wm nm (x + 1 - 1)) ∧ (¬ (betterN x b ∧ givesX Y wd nr wm nm x) → b = bestF Y wd nr wm nm (x + 1 - 1)) := by
  obtain ⟨n, rfl⟩ : ∃ n, x = n + 1 := ⟨x - 1, by omega⟩
  have e : n + 1 - 1 = n := by omega
  have e2 : n + 1 + 1 - 1 = n + 1 := by omega
  rw [e] at hb
  rw [e2]
  subst hb
  exact ⟨fun h => (bestF_t h.1 h.2).symm, fun h => (bestF_f h).symm⟩
