/-! the cheapest pieces first give as much as any way of cutting -/
def sumN (f : Nat → Nat) : List Nat → Nat
  | [] => 0
  | L :: Ls => f L + sumN f Ls
theorem sumN_app (f : Nat → Nat) : ∀ (A B : List Nat), sumN f (A ++ B) = sumN f A + sumN f B
  | [], B => by simp [sumN]
  | a :: A, B => by rw [List.cons_append, sumN, sumN, sumN_app f A B]; omega
theorem sumN_perm (f : Nat → Nat) {A B : List Nat} (h : A.Perm B) : sumN f A = sumN f B := by
  induction h with
  | nil => rfl
  | cons x _ ih => rw [sumN, sumN, ih]
  | swap x y l => rw [sumN, sumN, sumN, sumN]; omega
  | trans _ _ ih1 ih2 => exact ih1.trans ih2
def aWN (nr L : Nat) : Nat := L / (nr + 1)
def mLN (nr L : Nat) : Nat := L / nr - L / (nr + 1)
def lsN (nr L : Nat) : Nat := nr - (L - L / (nr + 1) * (nr + 1))
abbrev el1 (nr L : Nat) : Nat := if 0 < mLN nr L then 1 else 0
abbrev elo (nr L : Nat) : Nat := if 0 < mLN nr L then lsN nr L else 0
abbrev emo (nr L : Nat) : Nat := mLN nr L - 1
abbrev elam (nr lam L : Nat) : Nat := if 0 < mLN nr L then lam - lsN nr L else 0
/-- q, r of a part: its length is q (nr + 1) + r, r at most nr, loss nr - r -/
theorem part_qr (nr L : Nat) : ∃ r, r ≤ nr ∧ L = aWN nr L * nr + aWN nr L + r ∧ lsN nr L = nr - r := by
  refine ⟨L % (nr + 1), by have := Nat.mod_lt L (show 0 < nr + 1 by omega); omega, ?_, ?_⟩
  · have := Nat.div_add_mod L (nr + 1)
    have e : (nr + 1) * (L / (nr + 1)) = L / (nr + 1) * nr + L / (nr + 1) := by rw [Nat.mul_comm, Nat.mul_succ]
    unfold aWN
    omega
  · unfold lsN
    have := Nat.div_add_mod L (nr + 1)
    rw [Nat.mul_comm] at this
    have h2 : L - L / (nr + 1) * (nr + 1) = L % (nr + 1) := by omega
    rw [h2]
theorem part_more {nr L t : Nat} (hn : 0 < nr) (ht : t * nr ≤ L) : t ≤ L / nr := (Nat.le_div_iff_mul_le hn).mpr ht
theorem more_fit {nr L : Nat} : L / nr * nr ≤ L := Nat.div_mul_le_self L nr
theorem aW_le {nr L : Nat} (hn : 0 < nr) : aWN nr L ≤ L / nr := by
  obtain ⟨r, _, h2, _⟩ := part_qr nr L
  apply part_more hn
  omega
theorem pp {nr L h m lam : Nat} (hn : 0 < nr) (hl : lam ≤ nr) (hf : h * (nr + 1) + m * nr ≤ L) : h + lam * (h + m) ≤ aWN nr L + lam * aWN nr L + elam nr lam L := by
  obtain ⟨r, h1, h2, h3⟩ := part_qr nr L
  have e1 : h * (nr + 1) + m * nr = h + (h + m) * nr := by rw [Nat.mul_succ, Nat.add_mul]; omega
  rw [e1] at hf
  have hq : mLN nr L = L / nr - aWN nr L := rfl
  generalize hqq : aWN nr L = q at h2 hq ⊢
  by_cases c : h + m ≤ q
  · have : lam * (h + m) ≤ lam * q := Nat.mul_le_mul_left _ c
    omega
  · obtain ⟨x, hx⟩ : ∃ x, h + m = q + 1 + x := ⟨h + m - q - 1, by omega⟩
    rw [hx] at hf ⊢
    have h4 : 0 < mLN nr L := by
      have := part_more (L := L) (t := q + 1 + x) hn (by omega)
      omega
    have e2 : (q + 1 + x) * nr = q * nr + nr + x * nr := by rw [Nat.add_mul, Nat.add_mul, Nat.one_mul]
    have e3 : lam * (q + 1 + x) = lam * q + lam + lam * x := by rw [Nat.mul_add, Nat.mul_add, Nat.mul_one]
    have h5 : lam * x ≤ x * nr := by rw [Nat.mul_comm]; exact Nat.mul_le_mul_left _ hl
    rw [elam, if_pos h4, h3, e3]
    rw [e2] at hf
    omega
theorem dp_cons {wd nr L W N : Nat} {Ls : List Nat} (hn : 0 < nr) (q : (N : Int) ≤ dpN wd nr (L :: Ls) W) : ∃ h m W' N', W = h + W' ∧ N = m + N' ∧ h * wd + m * nr ≤ L ∧ (N' : Int) ≤ dpN wd nr Ls W' := by
  obtain ⟨k, _, h2, h3, h4, h5⟩ := bestN_ex _ (show (N : Int) ≤ bestN (dpN wd nr Ls) L wd nr W (W + 1) from q)
  have h6 : min N ((L - k * wd) / nr) * nr ≤ L - k * wd := Nat.le_trans (Nat.mul_le_mul_right _ (Nat.min_le_right _ _)) (Nat.div_mul_le_self _ _)
  refine ⟨k, min N ((L - k * wd) / nr), W - k, N - min N ((L - k * wd) / nr), by omega, by omega, by omega, ?_⟩
  revert h5 h4
  generalize (L - k * wd) / nr = z
  intro h4 h5
  omega
theorem up_lam {nr lam : Nat} (hn : 0 < nr) (hl : lam ≤ nr) : ∀ (Ls : List Nat) (W N : Nat), (N : Int) ≤ dpN (nr + 1) nr Ls W → W + lam * (W + N) ≤ sumN (aWN nr) Ls + lam * sumN (aWN nr) Ls + sumN (elam nr lam) Ls
  | [], W, N, q => by
    obtain ⟨rfl, rfl⟩ := dp_nil q
    simp [sumN]
  | L :: Ls, W, N, q => by
    obtain ⟨h, m, W', N', rfl, rfl, hf, q'⟩ := dp_cons hn q
    have ih := up_lam hn hl Ls W' N' q'
    have h1 := pp hn hl hf
    rw [sumN, sumN]
    have e1 : lam * (h + W' + (m + N')) = lam * (h + m) + lam * (W' + N') := by rw [← Nat.mul_add]; congr 1; omega
    have e2 : lam * (aWN nr L + sumN (aWN nr) Ls) = lam * aWN nr L + lam * sumN (aWN nr) Ls := Nat.mul_add _ _ _
    rw [e1, e2]
    omega
theorem up_cnt {nr : Nat} (hn : 0 < nr) : ∀ (Ls : List Nat) (W N : Nat), (N : Int) ≤ dpN (nr + 1) nr Ls W → W + N ≤ sumN (fun L => L / nr) Ls
  | [], W, N, q => by
    obtain ⟨rfl, rfl⟩ := dp_nil q
    simp [sumN]
  | L :: Ls, W, N, q => by
    obtain ⟨h, m, W', N', rfl, rfl, hf, q'⟩ := dp_cons hn q
    have ih := up_cnt hn Ls W' N' q'
    have h1 : h + m ≤ L / nr := part_more hn (by
      have : (h + m) * nr = h * nr + m * nr := Nat.add_mul _ _ _
      have e : h * (nr + 1) = h * nr + h := Nat.mul_succ _ _
      omega)
    rw [sumN]
    omega
/-- T pieces can be cut, G of them wide -/
def Ach (nr : Nat) : List Nat → Nat → Nat → Prop
  | [], T, G => T = 0 ∧ G = 0
  | L :: Ls, T, G => ∃ t g T' G', t * nr + g ≤ L ∧ g ≤ t ∧ T = t + T' ∧ G = g + G' ∧ Ach nr Ls T' G'
theorem Ach_perm {nr : Nat} {A B : List Nat} (h : A.Perm B) : ∀ T G, Ach nr A T G → Ach nr B T G := by
  induction h with
  | nil => exact fun _ _ h => h
  | cons x _ ih => rintro T G ⟨t, g, T', G', h1, h2, h3, h4, h5⟩; exact ⟨t, g, T', G', h1, h2, h3, h4, ih _ _ h5⟩
  | swap x y l =>
    rintro T G ⟨t, g, T', G', h1, h2, h3, h4, t2, g2, T2, G2, k1, k2, k3, k4, k5⟩
    exact ⟨t2, g2, t + T2, g + G2, k1, k2, by omega, by omega, t, g, T2, G2, h1, h2, rfl, rfl, k5⟩
  | trans _ _ ih1 ih2 => exact fun T G h => ih2 T G (ih1 T G h)
theorem Ach_le {nr : Nat} : ∀ (Ls : List Nat) (T G : Nat), Ach nr Ls T G → G ≤ T
  | [], _, _, h => by obtain ⟨rfl, rfl⟩ := h; exact Nat.le_refl _
  | _ :: Ls, _, _, h => by
    obtain ⟨t, g, T', G', _, h2, rfl, rfl, h5⟩ := h
    have := Ach_le Ls T' G' h5
    omega
theorem Ach_app {nr : Nat} : ∀ (A B : List Nat) (T G T2 G2 : Nat), Ach nr A T G → Ach nr B T2 G2 → Ach nr (A ++ B) (T + T2) (G + G2)
  | [], B, T, G, T2, G2, h, k => by obtain ⟨rfl, rfl⟩ := h; simpa using k
  | a :: A, B, T, G, T2, G2, h, k => by
    obtain ⟨t, g, T', G', h1, h2, rfl, rfl, h5⟩ := h
    exact ⟨t, g, T' + T2, G' + G2, h1, h2, by omega, by omega, Ach_app A B T' G' T2 G2 h5 k⟩
theorem bestN_ge {f : Nat → Int} {L wd nr a k : Nat} (h1 : k ≤ a) (h2 : k * wd ≤ L) (h3 : 0 ≤ f (a - k)) : ∀ n, k < n → f (a - k) + ((L - k * wd) / nr : Nat) ≤ bestN f L wd nr a n
  | 0, h => by omega
  | n + 1, h => by
    by_cases e : k = n
    · subst e; rw [bestN_t ⟨h1, h2, h3⟩]; omega
    · have ih := bestN_ge (f := f) (nr := nr) h1 h2 h3 n (by omega)
      by_cases c : n ≤ a ∧ n * wd ≤ L ∧ 0 ≤ f (a - n)
      · rw [bestN_t c]; omega
      · rw [bestN_k c]; exact ih
theorem Ach_dp {nr : Nat} (hn : 0 < nr) : ∀ (Ls : List Nat) (T G W N : Nat), Ach nr Ls T G → W + N ≤ T → W ≤ G → (N : Int) ≤ dpN (nr + 1) nr Ls W
  | [], T, G, W, N, h, h1, h2 => by
    obtain ⟨rfl, rfl⟩ := h
    obtain ⟨rfl, rfl⟩ : W = 0 ∧ N = 0 := by omega
    simp [dpN]
  | L :: Ls, T, G, W, N, h, h1, h2 => by
    obtain ⟨t, g, T', G', k1, k2, rfl, rfl, k5⟩ := h
    have hle := Ach_le Ls T' G' k5
    have ih := Ach_dp hn Ls T' G' (W - min W g) (N - (t - min W g)) k5 (by omega) (by omega)
    have hw : min W g * (nr + 1) = min W g * nr + min W g := Nat.mul_succ _ _
    have hm : (t - min W g) * nr + min W g * nr = t * nr := by rw [← Nat.add_mul, Nat.sub_add_cancel (by omega)]
    have hq : t - min W g ≤ (L - min W g * (nr + 1)) / nr := (Nat.le_div_iff_mul_le hn).mpr (by omega)
    have := bestN_ge (f := dpN (nr + 1) nr Ls) (L := L) (wd := nr + 1) (nr := nr) (a := W) (k := min W g) (by omega) (by omega) (by omega) (W + 1) (by omega)
    show (N : Int) ≤ bestN (dpN (nr + 1) nr Ls) L (nr + 1) nr W (W + 1)
    revert hq this
    generalize (L - min W g * (nr + 1)) / nr = z
    intro hq this
    omega
theorem Ach_0 {nr : Nat} : ∀ Ls : List Nat, Ach nr Ls (sumN (aWN nr) Ls) (sumN (aWN nr) Ls)
  | [] => ⟨rfl, rfl⟩
  | L :: Ls => by
    obtain ⟨r, _, h2, _⟩ := part_qr nr L
    exact ⟨aWN nr L, aWN nr L, sumN (aWN nr) Ls, sumN (aWN nr) Ls, by omega, Nat.le_refl _, rfl, rfl, Ach_0 Ls⟩
theorem Ach_1 {nr : Nat} (hn : 0 < nr) : ∀ (Q : List Nat) (rest : Nat), rest ≤ sumN (emo nr) Q → ∃ G, G + sumN (elo nr) Q + rest * nr = sumN (aWN nr) Q ∧ Ach nr Q (sumN (aWN nr) Q + sumN (el1 nr) Q + rest) G
  | [], rest, h => by
    simp only [sumN] at h
    obtain rfl : rest = 0 := by omega
    exact ⟨0, by simp [sumN], rfl, rfl⟩
  | L :: Q, rest, h => by
    obtain ⟨r, h1, h2, h3⟩ := part_qr nr L
    rw [sumN] at h
    by_cases c : 0 < mLN nr L
    · obtain ⟨s, hs⟩ : ∃ s, s = min rest (emo nr L) := ⟨_, rfl⟩
      have hs1 : s ≤ emo nr L := by rw [hs]; exact Nat.min_le_right _ _
      obtain ⟨G, g1, g2⟩ := Ach_1 hn Q (rest - s) (by omega)
      have hfit : (aWN nr L + 1 + s) * nr ≤ L := by
        have h6 : aWN nr L + 1 + s ≤ L / nr := by
          have h7 : mLN nr L = L / nr - aWN nr L := rfl
          have h8 : emo nr L = mLN nr L - 1 := rfl
          revert h7; generalize L / nr = z; intro h7; omega
        exact Nat.le_trans (Nat.mul_le_mul_right _ h6) more_fit
      have e2 : (aWN nr L + 1 + s) * nr = aWN nr L * nr + nr + s * nr := by rw [Nat.add_mul, Nat.add_mul, Nat.one_mul]
      have e3 : (rest - s) * nr + s * nr = rest * nr := by rw [← Nat.add_mul, Nat.sub_add_cancel (by omega)]
      have hs2 : s ≤ s * nr := Nat.le_mul_of_pos_right _ hn
      refine ⟨L - (aWN nr L + 1 + s) * nr + G, ?_, aWN nr L + 1 + s, L - (aWN nr L + 1 + s) * nr, sumN (aWN nr) Q + sumN (el1 nr) Q + (rest - s), G, by omega, by omega, ?_, rfl, g2⟩
      · rw [sumN, sumN, elo, if_pos c, h3]; omega
      · rw [sumN, sumN, el1, if_pos c]; omega
    · have hz : emo nr L = 0 := by unfold emo; omega
      obtain ⟨G, g1, g2⟩ := Ach_1 hn Q rest (by omega)
      refine ⟨aWN nr L + G, ?_, aWN nr L, aWN nr L, sumN (aWN nr) Q + sumN (el1 nr) Q + rest, G, by omega, Nat.le_refl _, ?_, rfl, g2⟩
      · rw [sumN, sumN, elo, if_neg c]; omega
      · rw [sumN, sumN, el1, if_neg c]; omega
theorem lam_ex {nr : Nat} {R : List Nat} : ∀ Q : List Nat, (Q ++ R).Pairwise (fun x y => lsN nr x ≤ lsN nr y) → 0 < sumN (el1 nr) Q → ∃ x ∈ Q, 0 < mLN nr x ∧ (∀ y ∈ Q, 0 < mLN nr y → lsN nr y ≤ lsN nr x) ∧ ∀ y ∈ R, lsN nr x ≤ lsN nr y
  | [], _, h => by simp [sumN] at h
  | a :: Q, hp, h => by
    rw [List.cons_append, List.pairwise_cons] at hp
    by_cases c : 0 < sumN (el1 nr) Q
    · obtain ⟨x, h1, h2, h3, h4⟩ := lam_ex Q hp.2 c
      refine ⟨x, List.mem_cons_of_mem _ h1, h2, fun y hy hm => ?_, h4⟩
      rcases List.mem_cons.mp hy with e | e
      · subst e; exact hp.1 x (List.mem_append_left _ h1)
      · exact h3 y e hm
    · rw [sumN] at h
      have ha : 0 < mLN nr a := by
        rcases Nat.lt_or_ge 0 (mLN nr a) with q | q
        · exact q
        · rw [el1, if_neg (by omega)] at h; omega
      refine ⟨a, List.mem_cons_self, ha, fun y hy hm => ?_, fun y hy => hp.1 y (List.mem_append_right _ hy)⟩
      rcases List.mem_cons.mp hy with e | e
      · subst e; exact Nat.le_refl _
      · exfalso
        have : ∀ (P : List Nat), y ∈ P → 0 < sumN (el1 nr) P := by
          intro P
          induction P with
          | nil => intro h; cases h
          | cons z P ih =>
            intro h9
            rw [sumN]
            rcases List.mem_cons.mp h9 with e9 | e9
            · subst e9; rw [el1, if_pos hm]; omega
            · have := ih e9; omega
        exact c (this Q e)
theorem lam_Q {nr lam : Nat} : ∀ Q : List Nat, (∀ y ∈ Q, 0 < mLN nr y → lsN nr y ≤ lam) → sumN (elam nr lam) Q + sumN (elo nr) Q = lam * sumN (el1 nr) Q
  | [], _ => by simp [sumN]
  | a :: Q, h => by
    have ih := lam_Q Q (fun y hy => h y (List.mem_cons_of_mem _ hy))
    rw [sumN, sumN, sumN, Nat.mul_add, ← ih]
    by_cases c : 0 < mLN nr a
    · have := h a List.mem_cons_self c
      rw [elam, elo, el1, if_pos c, if_pos c, if_pos c]; omega
    · rw [elam, elo, el1, if_neg c, if_neg c, if_neg c]; omega
theorem lam_R {nr lam : Nat} : ∀ R : List Nat, (∀ y ∈ R, lam ≤ lsN nr y) → sumN (elam nr lam) R = 0
  | [], _ => rfl
  | a :: R, h => by
    have ih := lam_R R (fun y hy => h y (List.mem_cons_of_mem _ hy))
    have := h a List.mem_cons_self
    rw [sumN, ih, elam]
    split <;> omega
theorem ls_le (nr L : Nat) : lsN nr L ≤ nr := Nat.sub_le _ _
theorem q_sum {nr : Nat} (hn : 0 < nr) : ∀ Q : List Nat, sumN (fun L => L / nr) Q = sumN (aWN nr) Q + sumN (el1 nr) Q + sumN (emo nr) Q
  | [] => rfl
  | a :: Q => by
    have ih := q_sum hn Q
    have h1 := aW_le (L := a) hn
    have h2 : mLN nr a = a / nr - aWN nr a := rfl
    rw [sumN, sumN, sumN, sumN, ih]
    by_cases c : 0 < mLN nr a
    · rw [el1, if_pos c]; unfold emo
      revert h1 h2; generalize a / nr = z; intro h1 h2; omega
    · rw [el1, if_neg c]; unfold emo
      revert h1 h2; generalize a / nr = z; intro h1 h2; omega
/-- what canGive answers, by how its second loop stopped -/
theorem cg_ok {nr W N : Nat} {S O Q R : List Nat} {w : Int} (hn : 0 < nr) (hS : S = Q ++ R) (hp : S.Pairwise (fun x y => lsN nr x ≤ lsN nr y)) (hO : S.Perm O) (hw : w = ((W + N : Nat) : Int) - (sumN (aWN nr) S : Nat) - (sumN (el1 nr) Q : Nat))
    (hst : (((W + N : Nat) : Int) ≤ (sumN (aWN nr) S : Nat) ∧ Q = []) ∨ (((sumN (aWN nr) S : Nat) : Int) < ((W + N : Nat) : Int) ∧ w = 0) ∨ (0 < w ∧ R = [])) :
    (max 0 w ≤ (sumN (emo nr) Q : Nat) ∧ (W : Int) ≤ (sumN (aWN nr) S : Nat) - (sumN (elo nr) Q : Nat) - max 0 w * (nr : Int)) ↔ (N : Int) ≤ dpN (nr + 1) nr O W := by
  have eA := sumN_app (aWN nr) Q R
  rw [← hS] at eA
  rcases hst with ⟨h1, h2⟩ | ⟨h1, h2⟩ | ⟨h1, h2⟩
  · subst h2
    have hw0 : max 0 w = 0 := by simp only [sumN] at hw; omega
    rw [hw0]
    constructor
    · intro _
      refine Ach_dp hn O _ _ W N (Ach_perm hO _ _ (Ach_0 S)) (by omega) (by omega)
    · intro _
      simp only [sumN]
      omega
  · have hw0 : max 0 w = 0 := by omega
    rw [hw0]
    constructor
    · rintro ⟨_, h4⟩
      obtain ⟨G, g1, g2⟩ := Ach_1 hn Q 0 (Nat.zero_le _)
      have g3 := Ach_app Q R _ _ _ _ g2 (Ach_0 R)
      rw [← hS] at g3
      exact Ach_dp hn O _ _ W N (Ach_perm hO _ _ g3) (by omega) (by omega)
    · intro q
      refine ⟨by omega, ?_⟩
      have hc : 0 < sumN (el1 nr) Q := by omega
      rw [hS] at hp
      obtain ⟨x, _, _, x3, x4⟩ := lam_ex Q hp hc
      have u := up_lam hn (ls_le nr x) O W N q
      rw [← sumN_perm _ hO, ← sumN_perm _ hO] at u
      have eL := sumN_app (elam nr (lsN nr x)) Q R
      rw [← hS] at eL
      have lQ := lam_Q (lam := lsN nr x) Q x3
      have lR := lam_R (lam := lsN nr x) R x4
      have e1 : W + N = sumN (aWN nr) S + sumN (el1 nr) Q := by omega
      rw [e1, Nat.mul_add] at u
      omega
  · subst h2
    rw [List.append_nil] at hS
    subst hS
    have hw0 : max 0 w = w := by omega
    rw [hw0]
    obtain ⟨v, hv⟩ : ∃ v : Nat, w = (v : Int) := ⟨w.toNat, by omega⟩
    subst hv
    constructor
    · rintro ⟨h3, h4⟩
      obtain ⟨G, g1, g2⟩ := Ach_1 hn S v (by omega)
      have e2 : ((v * nr : Nat) : Int) = (v : Int) * (nr : Int) := Int.natCast_mul _ _
      exact Ach_dp hn O _ _ W N (Ach_perm hO _ _ g2) (by omega) (by omega)
    · intro q
      have u1 := up_cnt hn O W N q
      rw [← sumN_perm _ hO, q_sum hn S] at u1
      refine ⟨by omega, ?_⟩
      have u := up_lam hn (Nat.le_refl nr) O W N q
      rw [← sumN_perm _ hO, ← sumN_perm _ hO] at u
      have lQ := lam_Q (lam := nr) S (fun y _ _ => ls_le nr y)
      have e1 : W + N = sumN (aWN nr) S + sumN (el1 nr) S + v := by omega
      rw [e1, Nat.mul_add, Nat.mul_add] at u
      have e2 : ((nr * v : Nat) : Int) = (v : Int) * (nr : Int) := by rw [Nat.mul_comm, Int.natCast_mul]
      omega
