/-! what a state of the yard IS: numbers by number, the parts of each bolt, the entries of each cask -/
abbrev YT : Type := (Nat → Nat) × (Nat → Nat → Nat) × (Nat → List (Nat × Nat)) × (Nat → Nat → Nat → Nat) × (Nat → List (Nat × Nat × Nat))
def yNow (Y : YT) : Nat := Y.1 0
def yF (Y : YT) : Nat := Y.1 1
def yB (Y : YT) : Nat := Y.1 2
def yC (Y : YT) : Nat := Y.1 3
def yh (Y : YT) (i : Nat) : Nat := Y.2.1 0 i
def yg (Y : YT) (i : Nat) : Nat := Y.2.1 1 i
def ye (Y : YT) (i : Nat) : Nat := Y.2.1 2 i
def ys (Y : YT) (i : Nat) : Nat := Y.2.1 3 i
def ysp (Y : YT) (b : Nat) : Nat := Y.2.1 4 b
def ycf (Y : YT) (c : Nat) : Nat := Y.2.1 5 c
def ywt (Y : YT) (k : Nat) : Nat := Y.2.1 6 k
def yP (Y : YT) (b : Nat) : List (Nat × Nat) := Y.2.2.1 b
def ybo (Y : YT) (c k : Nat) : Nat := Y.2.2.2.1 0 c k
def ypa (Y : YT) (c k : Nat) : Nat := Y.2.2.2.1 1 c k
def ybr (Y : YT) (a b : Nat) : Nat := Y.2.2.2.1 2 a b
def yE (Y : YT) (c : Nat) : List (Nat × Nat × Nat) := Y.2.2.2.2 c
/-- two rows of numbers hold the parts of a bolt, from a place on -/
def arrP (f g : Nat → Int32) (o : Nat) (L : List (Nat × Nat)) : Prop := ∀ (i : Nat) (q : Nat × Nat), L[i]? = some q → f (o + i) = nI q.1 ∧ g (o + i) = nI q.2
/-- three rows of numbers hold entries (day, told, kind), from a place on -/
def arrE (f g k : Nat → Int32) (o : Nat) (L : List (Nat × Nat × Nat)) : Prop := ∀ (i : Nat) (q : Nat × Nat × Nat), L[i]? = some q → f (o + i) = nI q.1 ∧ g (o + i) = nI q.2.1 ∧ k (o + i) = nI q.2.2
abbrev formOk (h g e n : Nat) : Prop := 10 ≤ h ∧ h ≤ 200 ∧ h % 2 = 0 ∧ 100 ≤ g ∧ g ≤ 2000 ∧ 50 ≤ e ∧ e ≤ g ∧ 8 ≤ n ∧ n ≤ 40
def partsOk (L : List (Nat × Nat)) : Prop := L.length ≤ 4 ∧ ∀ q ∈ L, q.1 < q.2 ∧ q.2 ≤ 600
def WF (Y : YT) : Prop := yNow Y ≤ 100000 ∧ yF Y ≤ 8 ∧ yB Y ≤ 40 ∧ yC Y ≤ 30 ∧ (∀ i, i < yF Y → formOk (yh Y i) (yg Y i) (ye Y i) (ys Y i)) ∧ (∀ b, b < yB Y → ysp Y b ≤ yNow Y ∧ partsOk (yP Y b)) ∧ (∀ c, c < yC Y → ycf Y c < yF Y ∧ (yE Y c).length ≤ 40 ∧ (∀ q ∈ yE Y c, q.1 ≤ q.2.1 ∧ q.2.1 ≤ yNow Y ∧ q.2.2 ≤ 16) ∧ ∀ k, k < ys Y (ycf Y c) → ybo Y c k < yB Y ∧ ypa Y c k < 65536) ∧ (∀ a b, a < 16 → b < 16 → ybr Y a b ≤ 1) ∧ ∀ k, k < 16 → 1 ≤ ywt Y k ∧ ywt Y k ≤ 5000
/-- the model's ints and arrays hold the state -/
def MR (I : Nat → Int32) (F : Nat → Nat → Int32) (Y : YT) : Prop := I 1 = nI (yF Y) ∧ I 2 = nI (yB Y) ∧ I 3 = nI (yC Y) ∧ I 4 = nI (yNow Y) ∧
  (∀ i, i < yF Y → F 5 i = nI (yh Y i) ∧ F 6 i = nI (yg Y i) ∧ F 7 i = nI (ye Y i) ∧ F 8 i = nI (ys Y i)) ∧
  (∀ b, b < yB Y → F 9 b = nI (ysp Y b) ∧ F 10 b = nI (yP Y b).length ∧ arrP (F 11) (F 12) (5 * b) (yP Y b)) ∧
  (∀ c, c < yC Y → F 13 c = nI (ycf Y c) ∧ F 16 c = nI (yE Y c).length ∧ arrE (F 17) (F 19) (F 18) (40 * c) (yE Y c) ∧ ∀ k, k < ys Y (ycf Y c) → F 14 (40 * c + k) = nI (ybo Y c k) ∧ F 15 (40 * c + k) = nI (ypa Y c k)) ∧
  (∀ a b, a < 16 → b < 16 → F 20 (16 * a + b) = nI (ybr Y a b)) ∧ ∀ k, k < 16 → F 21 k = nI (ywt Y k)
/-- an answer: what is thrown (0: nothing), the value, the state behind it -/
abbrev MP (r : Int32) (u : (Nat → Int32) × (Nat → Nat → Int32)) (o : Nat × Int32 × YT) : Prop := u.1 0 = nI o.1 ∧ (o.1 = 0 → r = o.2.1) ∧ MR u.1 u.2 o.2.2
abbrev isIx (a : Int32) (n : Nat) : Prop := 0 ≤ a.toInt ∧ a.toInt < (n : Int)
def ix (a : Int32) : Nat := a.toInt.toNat
theorem ix_n {a : Int32} (h : 0 ≤ a.toInt) : a = nI (ix a) := i_of (by unfold ix; omega)
theorem ix_lt {a : Int32} {n : Nat} (h : isIx a n) : ix a < n := by have := h.1; have := h.2; unfold ix; omega
/-! the calls -/
def sp_form (Y : YT) (a b c d : Int32) : Nat × Int32 × YT :=
  if yF Y < 8 ∧ 0 ≤ a.toInt ∧ 0 ≤ b.toInt ∧ 0 ≤ c.toInt ∧ 0 ≤ d.toInt ∧ formOk (ix a) (ix b) (ix c) (ix d) then
    (0, nI (yF Y), (va_up Y.1 1 (yF Y + 1), fun j i => if i = yF Y then (if j = 0 then ix a else if j = 1 then ix b else if j = 2 then ix c else if j = 3 then ix d else Y.2.1 j i) else Y.2.1 j i, Y.2.2))
  else (0, zI (-1), Y)
def sp_girth (Y : YT) (a b : Int32) : Nat × Int32 × YT :=
  if isIx a (yF Y) then if isIx b (yh Y (ix a) + 1) then (0, nI (girthN (yh Y (ix a)) (yg Y (ix a)) (ye Y (ix a)) (ix b)), Y) else (2, nI 0, Y) else (1, nI 0, Y)
def sp_width (Y : YT) (a b c : Int32) : Nat × Int32 × YT :=
  if isIx a (yF Y) ∧ isIx b (ys Y (ix a)) then if isIx c (yh Y (ix a) + 1) then (0, nI (widthN (ys Y (ix a)) (ix b) (girthN (yh Y (ix a)) (yg Y (ix a)) (ye Y (ix a)) (ix c))), Y) else (2, nI 0, Y) else (1, nI 0, Y)
def sp_holds (Y : YT) (a b : Int32) : Nat × Int32 × YT :=
  if isIx a (yF Y) then if isIx b (yh Y (ix a) + 1) then (0, nI (holdsN (yh Y (ix a)) (yg Y (ix a)) (ye Y (ix a)) (ix b)), Y) else (2, nI 0, Y) else (1, nI 0, Y)
/-- the least level from l on, n of them looked at, that holds at least so much -/
def levelN (h g e much : Nat) : Nat → Nat → Int
  | _, 0 => -1
  | l, n + 1 => if much ≤ holdsN h g e l then (l : Int) else levelN h g e much (l + 1) n
def sp_level (Y : YT) (a b : Int32) : Nat × Int32 × YT :=
  if isIx a (yF Y) then if 0 ≤ b.toInt then (0, zI (levelN (yh Y (ix a)) (yg Y (ix a)) (ye Y (ix a)) (ix b) 0 (yh Y (ix a) + 1)), Y) else (2, nI 0, Y) else (1, nI 0, Y)
def sp_head (Y : YT) (a : Int32) : Nat × Int32 × YT :=
  if isIx a (yF Y) then (0, nI (girthN (yh Y (ix a)) (yg Y (ix a)) (ye Y (ix a)) 0 * 113 / 355), Y) else (1, nI 0, Y)
def sp_days (Y : YT) (a : Int32) : Nat × Int32 × YT :=
  if isIx a (100000 - yNow Y + 1) then (0, nI (yNow Y + ix a), (va_up Y.1 0 (yNow Y + ix a), Y.2)) else (1, nI 0, Y)
def sp_bolt (Y : YT) (a : Int32) : Nat × Int32 × YT :=
  if yB Y < 40 ∧ 1 ≤ a.toInt ∧ a.toInt ≤ 600 then (0, nI (yB Y), (va_up Y.1 2 (yB Y + 1), va_up Y.2.1 4 (va_up (Y.2.1 4) (yB Y) (yNow Y)), va_up Y.2.2.1 (yB Y) [(0, ix a)], Y.2.2.2)) else (0, zI (-1), Y)
def sp_clear (Y : YT) (a b c : Int32) : Nat × Int32 × YT :=
  if isIx a (yB Y) ∧ isIx b (yP Y (ix a)).length ∧ isIx c 2 then (0, nI (if ix c = 0 then ((yP Y (ix a)).getD (ix b) (0, 0)).1 else ((yP Y (ix a)).getD (ix b) (0, 0)).2), Y) else (1, nI 0, Y)
def sp_ripe (Y : YT) (a : Int32) : Nat × Int32 × YT :=
  if isIx a (yB Y) then (0, bI (ysp Y (ix a) + 1095 ≤ yNow Y), Y) else (1, nI 0, Y)
def sp_formOf (Y : YT) (a : Int32) : Nat × Int32 × YT :=
  if isIx a (yC Y) then (0, nI (ycf Y (ix a)), Y) else (1, nI 0, Y)
def midN (Y : YT) (c k : Nat) : Nat := widthN (ys Y (ycf Y c)) k (girthN (yh Y (ycf Y c)) (yg Y (ycf Y c)) (ye Y (ycf Y c)) (yh Y (ycf Y c) / 2))
def sp_stave (Y : YT) (a b c : Int32) : Nat × Int32 × YT :=
  if isIx a (yC Y) ∧ isIx b (ys Y (ycf Y (ix a))) ∧ isIx c 3 then (0, nI (if ix c = 0 then ybo Y (ix a) (ix b) else if ix c = 1 then ypa Y (ix a) (ix b) else midN Y (ix a) (ix b)), Y) else (1, nI 0, Y)
def sp_bars (Y : YT) (a b : Int32) (is : Nat) : Nat × Int32 × YT :=
  if isIx a 16 ∧ isIx b 16 then (0, bI (ybr Y (ix a) (ix b) = 1), (Y.1, Y.2.1, Y.2.2.1, va_up Y.2.2.2.1 2 (va_up (Y.2.2.2.1 2) (ix a) (va_up (Y.2.2.2.1 2 (ix a)) (ix b) is)), Y.2.2.2.2)) else (1, nI 0, Y)
def sp_weight (Y : YT) (a b : Int32) : Nat × Int32 × YT :=
  if isIx a 16 ∧ 1 ≤ b.toInt ∧ b.toInt ≤ 5000 then (0, nI (ywt Y (ix a)), (Y.1, va_up Y.2.1 6 (va_up (Y.2.1 6) (ix a) (ix b)), Y.2.2)) else (1, nI 0, Y)
def sp_count (Y : YT) (a : Int32) : Nat × Int32 × YT :=
  if isIx a 4 then (0, nI (Y.1 (ix a)), Y) else (1, nI 0, Y)
/-- what was held, by a row of entries: the latest day and its kind -/
def heldS (L : List (Nat × Nat × Nat)) (d k : Int) : Int × Int := L.foldl (fun z q => if (q.2.1 : Int) ≤ k ∧ (q.1 : Int) ≤ d ∧ z.1 ≤ (q.1 : Int) then ((q.1 : Int), (q.2.2 : Int)) else z) (-1, -1)
def sp_held (Y : YT) (a b c : Int32) : Nat × Int32 × YT :=
  if isIx a (yC Y) then (0, zI (heldS (yE Y (ix a)) b.toInt c.toInt).2, Y) else (1, nI 0, Y)
/-- on how many of n days from x on z was held -/
def lackN (L : List (Nat × Nat × Nat)) (k : Int) (z : Int) : Nat → Nat → Nat
  | _, 0 => 0
  | x, n + 1 => (if (heldS L (x : Int) k).2 = z then 1 else 0) + lackN L k z (x + 1) n
def sp_lacks (Y : YT) (a b c d : Int32) : Nat × Int32 × YT :=
  if isIx a (yC Y) then if 0 ≤ b.toInt ∧ b.toInt ≤ c.toInt ∧ c.toInt ≤ 100000 ∧ isIx d 2 then (0, nI (lackN (yE Y (ix a)) (yNow Y : Int) (if ix d = 0 then -1 else 16) (ix b) (ix c - ix b + 1)), Y) else (2, nI 0, Y) else (1, nI 0, Y)
/-- some stave of the cask has met a kind that bars this one -/
def mayN (Y : YT) (c kind : Nat) : Prop := ∀ p, p < 16 → (∃ k, k < ys Y (ycf Y c) ∧ (ypa Y c k).testBit p = true) → ybr Y p kind = 0
