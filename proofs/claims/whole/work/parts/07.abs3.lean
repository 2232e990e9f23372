/-! entries, kinds, telling -/
def enD (L : List (Nat × Nat × Nat)) (i : Nat) : Nat × Nat × Nat := L.getD i (0, 0, 0)
theorem enD_get {L : List (Nat × Nat × Nat)} {i : Nat} (hi : i < L.length) : L[i]? = some (enD L i) := by simp [enD, List.getD, List.getElem?_eq_getElem hi]
theorem enD_mem {L : List (Nat × Nat × Nat)} {i : Nat} (hi : i < L.length) : enD L i ∈ L := List.mem_of_getElem? (enD_get hi)
theorem arrE_get {f g k : Nat → Int32} {o : Nat} {L : List (Nat × Nat × Nat)} (h : arrE f g k o L) {i : Nat} (hi : i < L.length) : f (o + i) = nI (enD L i).1 ∧ g (o + i) = nI (enD L i).2.1 ∧ k (o + i) = nI (enD L i).2.2 := h i _ (enD_get hi)
def heldT (d k : Int) (z : Int × Int) (q : Nat × Nat × Nat) : Int × Int := if (q.2.1 : Int) ≤ k ∧ (q.1 : Int) ≤ d ∧ z.1 ≤ (q.1 : Int) then ((q.1 : Int), (q.2.2 : Int)) else z
theorem heldS_succ {L : List (Nat × Nat × Nat)} {i : Nat} (hi : i < L.length) (d k : Int) : heldS (L.take (i + 1)) d k = heldT d k (heldS (L.take i) d k) (enD L i) := by
  unfold heldS
  rw [List.take_add_one, enD_get hi, Option.toList_some, List.foldl_append]
  rfl
theorem heldS_all (L : List (Nat × Nat × Nat)) {i : Nat} (h : L.length ≤ i) (d k : Int) : heldS (L.take i) d k = heldS L d k := by rw [List.take_of_length_le h]
theorem heldS_keep {L : List (Nat × Nat × Nat)} {i : Nat} {d k : Int} (hi : i < L.length) (h : ¬ (((enD L i).2.1 : Int) ≤ k ∧ ((enD L i).1 : Int) ≤ d ∧ (heldS (L.take i) d k).1 ≤ ((enD L i).1 : Int))) : heldS (L.take (i + 1)) d k = heldS (L.take i) d k := by
  rw [heldS_succ hi, heldT, if_neg h]
theorem heldS_take {L : List (Nat × Nat × Nat)} {i : Nat} {d k : Int} (hi : i < L.length) (h : ((enD L i).2.1 : Int) ≤ k ∧ ((enD L i).1 : Int) ≤ d ∧ (heldS (L.take i) d k).1 ≤ ((enD L i).1 : Int)) : heldS (L.take (i + 1)) d k = (((enD L i).1 : Int), ((enD L i).2.2 : Int)) := by
  rw [heldS_succ hi, heldT, if_pos h]
theorem heldS_bd {L : List (Nat × Nat × Nat)} (hb : ∀ q ∈ L, q.2.2 ≤ 16) (d k : Int) : -1 ≤ (heldS L d k).2 ∧ (heldS L d k).2 ≤ 16 := by
  have h : ∀ i, i ≤ L.length → -1 ≤ (heldS (L.take i) d k).2 ∧ (heldS (L.take i) d k).2 ≤ 16 := by
    intro i
    induction i with
    | zero => intro _; simp [heldS]
    | succ i ih =>
      intro hi
      have h1 := ih (by omega)
      have h2 := hb _ (enD_mem (show i < L.length by omega))
      rw [heldS_succ (by omega), heldT]
      split
      · exact ⟨by show (-1 : Int) ≤ ((enD L i).2.2 : Int); omega, by show ((enD L i).2.2 : Int) ≤ 16; omega⟩
      · exact h1
  have := h L.length (Nat.le_refl _)
  rwa [List.take_length] at this
/-- the model's 'best' points at the entry that is held so far -/
def heldI (L : List (Nat × Nat × Nat)) (o i : Nat) (d k bz : Int) : Prop := (bz = -1 ∧ heldS (L.take i) d k = (-1, -1)) ∨ ∃ e, e < i ∧ bz = ((o + e : Nat) : Int) ∧ heldS (L.take i) d k = (((enD L e).1 : Int), ((enD L e).2.2 : Int))
theorem heldI_0 (L : List (Nat × Nat × Nat)) (o : Nat) (d k : Int) : heldI L o 0 d k (-1) := Or.inl ⟨rfl, rfl⟩
theorem heldI_keep {L : List (Nat × Nat × Nat)} {o i : Nat} {d k bz : Int} (h : heldI L o i d k bz) (hi : i < L.length) (hn : ¬ (((enD L i).2.1 : Int) ≤ k ∧ ((enD L i).1 : Int) ≤ d ∧ (heldS (L.take i) d k).1 ≤ ((enD L i).1 : Int))) : heldI L o (i + 1) d k bz := by
  unfold heldI; rw [heldS_keep hi hn]
  rcases h with h | ⟨e, h1, h2⟩
  · exact Or.inl h
  · exact Or.inr ⟨e, by omega, h2⟩
theorem heldI_take {L : List (Nat × Nat × Nat)} {o i : Nat} {d k : Int} (hi : i < L.length) (hn : ((enD L i).2.1 : Int) ≤ k ∧ ((enD L i).1 : Int) ≤ d ∧ (heldS (L.take i) d k).1 ≤ ((enD L i).1 : Int)) : heldI L o (i + 1) d k ((o + i : Nat) : Int) := by
  unfold heldI; rw [heldS_take hi hn]
  exact Or.inr ⟨i, by omega, rfl, rfl⟩
theorem lackN_s (L : List (Nat × Nat × Nat)) (k z : Int) {x y : Nat} (h : x ≤ y) : lackN L k z x (y + 1 - x) = (if (heldS L (x : Int) k).2 = z then 1 else 0) + lackN L k z (x + 1) (y + 1 - (x + 1)) := by
  rw [show y + 1 - x = (y + 1 - (x + 1)) + 1 by omega, lackN]
theorem lackN_le (L : List (Nat × Nat × Nat)) (k z : Int) : ∀ (n x : Nat), lackN L k z x n ≤ n
  | 0, _ => Nat.le_refl _
  | n + 1, x => by
    have := lackN_le L k z n (x + 1)
    rw [lackN]; split <;> omega
/-- the bits of n rows together -/
def orN (f : Nat → Nat) : Nat → Nat
  | 0 => 0
  | i + 1 => orN f i ||| f i
theorem orN_lt {f : Nat → Nat} {n : Nat} (h : ∀ k, k < n → f k < 65536) : orN f n < 65536 := by
  induction n with
  | zero => simp [orN]
  | succ n ih => exact Nat.or_lt_two_pow (n := 16) (ih (fun k hk => h k (by omega))) (h n (by omega))
def mayB (A : Nat) (br : Nat → Nat) : Nat → Bool
  | 0 => true
  | p + 1 => mayB A br p && !(decide (A / 2 ^ p % 2 = 1) && decide (br p = 1))
abbrev mayY (Y : YT) (c kind : Nat) : Prop := mayB (orN (ypa Y c) (ys Y (ycf Y c))) (fun p => ybr Y p kind) 16 = true
theorem mayB_f {A : Nat} {br : Nat → Nat} {p : Nat} (h1 : A / 2 ^ p % 2 = 1) (h2 : br p = 1) : mayB A br (p + 1) = false := by simp [mayB, h1, h2]
theorem mayB_k {A : Nat} {br : Nat → Nat} {p : Nat} (h1 : A / 2 ^ p % 2 ≠ 1 ∨ br p ≠ 1) : mayB A br (p + 1) = mayB A br p := by
  rcases h1 with h | h <;> simp [mayB, h]
theorem mayB_mono {A : Nat} {br : Nat → Nat} {p : Nat} (h : mayB A br p = false) : ∀ n, mayB A br (p + n) = false
  | 0 => h
  | n + 1 => by rw [show p + (n + 1) = (p + n) + 1 by omega]; simp [mayB, mayB_mono h n]
theorem n_or (a b : Nat) : nI a ||| nI b = nI (a ||| b) := by
  apply Int32.toBitVec_inj.mp
  show BitVec.ofNat 32 a ||| BitVec.ofNat 32 b = BitVec.ofNat 32 (a ||| b)
  simp [BitVec.ofNat_or]
theorem n_sh : ∀ n, n < 32 → ((nI n &&& 31).toBitVec.smod 32).toNat = n := by decide
theorem n_shr {A p : Nat} (hA : A < 2147483648) (hp : p < 32) : nI A >>> (nI p &&& 31) = nI (A / 2 ^ p) := pk_shrN hA _ p (n_sh p hp)
theorem n_and1 {n : Nat} (h : n < 4294967296) : nI n &&& nI 1 = nI (n % 2) := pk_andN h 1 rfl
theorem n_shl1 {p : Nat} (hp : p < 31) : nI 1 <<< (nI p &&& 31) = nI (2 ^ p) := by
  have h : (1 : Nat) * 2 ^ p < 2 ^ 32 := by
    rw [Nat.one_mul]; exact Nat.pow_lt_pow_right (by decide) (by omega)
  have := pk_shlN (n := 1) (nI p &&& 31) p (n_sh p (by omega)) h
  rwa [Nat.one_mul] at this
def sp_may (Y : YT) (a b : Int32) : Nat × Int32 × YT :=
  if isIx a (yC Y) then if isIx b 16 then (0, bI (mayY Y (ix a) (ix b)), Y) else (2, nI 0, Y) else (1, nI 0, Y)
def tellY (Y : YT) (c d k : Nat) : YT := (Y.1, Y.2.1, Y.2.2.1, va_up Y.2.2.2.1 1 (va_up (Y.2.2.2.1 1) c (fun j => if k < 16 then Y.2.2.2.1 1 c j ||| 2 ^ k else Y.2.2.2.1 1 c j)), va_up Y.2.2.2.2 c (yE Y c ++ [(d, yNow Y, k)]))
def sp_tell (Y : YT) (a b c : Int32) : Nat × Int32 × YT :=
  if isIx a (yC Y) then if isIx c 17 then if isIx b (yNow Y + 1) ∧ (yE Y (ix a)).length ≠ 40 ∧ (16 ≤ ix c ∨ mayY Y (ix a) (ix c)) then (0, nI ((yE Y (ix a)).length + 1), tellY Y (ix a) (ix b) (ix c)) else (0, zI (-1), Y) else (2, nI 0, Y) else (1, nI 0, Y)
def swapF (f : Nat → Nat → Nat) (a b c d : Nat) : Nat → Nat → Nat := va_up (va_up f a (va_up (f a) b (f c d))) c (va_up (va_up f a (va_up (f a) b (f c d)) c) d (f a b))
def swapY (Y : YT) (a b c d : Nat) : YT := (Y.1, Y.2.1, Y.2.2.1, va_up (va_up Y.2.2.2.1 0 (swapF (ybo Y) a b c d)) 1 (swapF (ypa Y) a b c d), Y.2.2.2.2)
def sp_swap (Y : YT) (a b c d : Int32) : Nat × Int32 × YT :=
  if (isIx a (yC Y) ∧ isIx b (ys Y (ycf Y (ix a)))) ∧ isIx c (yC Y) ∧ isIx d (ys Y (ycf Y (ix c))) then if ix a ≠ ix c ∧ midN Y (ix a) (ix b) = midN Y (ix c) (ix d) then (0, nI 1, swapY Y (ix a) (ix b) (ix c) (ix d)) else (0, nI 0, Y) else (1, nI 0, Y)
abbrev MPl (r : Int64) (u : (Nat → Int32) × (Nat → Nat → Int32)) (o : Nat × Int64 × YT) : Prop := u.1 0 = nI o.1 ∧ (o.1 = 0 → r = o.2.1) ∧ MR u.1 u.2 o.2.2
def sp_weighs (Y : YT) (a b : Int32) : Nat × Int64 × YT :=
  if isIx a (yC Y) then if isIx b (yh Y (ycf Y (ix a)) + 1) then
    (0, if isIx (zI (heldS (yE Y (ix a)) (yNow Y : Int) (yNow Y : Int)).2) 16 then lN (holdsN (yh Y (ycf Y (ix a))) (yg Y (ycf Y (ix a))) (ye Y (ycf Y (ix a))) (ix b) * ywt Y (heldS (yE Y (ix a)) (yNow Y : Int) (yNow Y : Int)).2.toNat / 1000) else -1, Y)
  else (2, lN 0, Y) else (1, lN 0, Y)
theorem MPl_t {r : Int64} {I : Nat → Int32} {F : Nat → Nat → Int32} {k : Nat} {v : Int64} {Y : YT} (h : I 0 = nI (k + 1)) (hM : MR I F Y) : MPl r (I, F) (k + 1, v, Y) := ⟨h, fun h9 => absurd h9 (Nat.succ_ne_zero k), hM⟩
