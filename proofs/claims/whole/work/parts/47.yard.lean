/-! the yard's cells hold a state -/
abbrev yardO (ad : Nat → Nat) (nF nB nC nw : Nat) : va_E := .inr (4, [.ref (ad 1), .ref (ad 2), .ref (ad 3), .ref (ad 4), .ref (ad 5), .ref (ad 6), .ref (ad 18), .int (nI nF), .int (nI nB), .int (nI nC), .int (nI nw)])
abbrev rowQ (cy : Nat → ClassId) (t n : Nat) (f : Nat → Option Nat) : va_E := .inl (cy t, n, .inr (.inr (.inr (.inr f))))
def refR (ad : Nat → Nat) (o n : Nat) (f : Nat → Option Nat) : Prop := ∀ i, f i = if i < n then some (ad (o + i)) else none
def barR (f : Nat → Int32) (Y : YT) : Prop := ∀ a, a < 16 → ∃ v, f a = nI v ∧ v < 65536 ∧ ∀ b, b < 16 → v / 2 ^ b % 2 = ybr Y a b
abbrev caskO (ad : Nat → Nat) (c cf n : Nat) : va_E := .inr (1, [.int (nI cf), .ref (ad (1000 + cf)), .ref (ad (6000 + c)), .ref (ad (7000 + c)), .ref (ad (8000 + c)), .ref (ad (9000 + c)), .ref (ad (10000 + c)), .int (nI n)])
def caskAt (cy : Nat → ClassId) (ad : Nat → Nat) (E : Nat → va_E) (c cf n : Nat) (bo pa : Nat → Nat) (L : List (Nat × Nat × Nat)) : Prop := ∃ fb fp fd ft fk, E (5000 + c) = caskO ad c cf L.length ∧ E (6000 + c) = rowI cy 40 fb ∧ E (7000 + c) = rowI cy 40 fp ∧ E (8000 + c) = rowI cy 40 fd ∧ E (9000 + c) = rowI cy 40 ft ∧ E (10000 + c) = rowI cy 40 fk ∧ (∀ k, k < n → fb k = nI (bo k) ∧ fp k = nI (pa k)) ∧ arrE fd ft fk 0 L
abbrev sawO (ad : Nat → Nat) (bl n nr : Nat) : va_E := .inr (3, [.ref (ad 7), .ref (ad 8), .ref (ad 9), .ref (ad 10), .ref (ad 11), .ref (ad 12), .ref (ad 13), .ref (ad 14), .ref (ad 15), .ref (ad 16), .ref (ad 17), .int (nI bl), .int (nI n), .int (nI nr)])
def sawAny (cy : Nat → ClassId) (ad : Nat → Nat) (E : Nat → va_E) : Prop := ∃ (nr bl : Nat) (PP : List (Nat × Nat × Nat)) (f7 : Nat → Option Nat) (f8 f9 f10 f11 f12 f13 f14 f15 f16 f17 : Nat → Int32), E 6 = sawO ad bl PP.length nr ∧ E 7 = rowQ cy 4 8 f7 ∧ E 8 = rowI cy 32 f8 ∧ E 9 = rowI cy 32 f9 ∧ E 10 = rowI cy 32 f10 ∧ E 11 = rowI cy 32 f11 ∧ E 12 = rowI cy 32 f12 ∧ E 13 = rowI cy 32 f13 ∧ E 14 = rowI cy 32 f14 ∧ E 15 = .inl (cy 1, 32, .inl f15) ∧ E 16 = rowI cy 32 f16 ∧ E 17 = rowI cy 32 f17
def spareAny (cy : Nat → ClassId) (ad : Nat → Nat) (E : Nat → va_E) : Prop := ∃ (sp : Int32) (n : Nat) (f g : Nat → Int32), E 18 = cellB (ad 19) (ad 20) sp (nI n) ∧ E 19 = rowI cy 4 f ∧ E 20 = rowI cy 4 g
def YR1 (cy : Nat → ClassId) (ad : Nat → Nat) (E : Nat → va_E) (Y : YT) : Prop := E 0 = yardO ad (yF Y) (yB Y) (yC Y) (yNow Y) ∧ ∃ f1 f2 f3, E 1 = rowQ cy 3 8 f1 ∧ E 2 = rowQ cy 4 40 f2 ∧ E 3 = rowQ cy 5 30 f3 ∧ refR ad 1000 (yF Y) f1 ∧ refR ad 2000 (yB Y) f2 ∧ refR ad 5000 (yC Y) f3
def YR2 (cy : Nat → ClassId) (E : Nat → va_E) (Y : YT) : Prop := ∃ f4 f5, E 4 = rowI cy 16 f4 ∧ E 5 = rowI cy 16 f5 ∧ barR f4 Y ∧ ∀ k, k < 16 → f5 k = nI (ywt Y k)
def YR3 (cy : Nat → ClassId) (ad : Nat → Nat) (E : Nat → va_E) (Y : YT) : Prop := (∀ i, i < yF Y → E (1000 + i) = cellF (yh Y i) (yg Y i) (ye Y i) (ys Y i)) ∧ (∀ b, b < yB Y → boltAt cy ad E b (nI (ysp Y b)) (yP Y b)) ∧ ∀ c, c < yC Y → caskAt cy ad E c (ycf Y c) (ys Y (ycf Y c)) (ybo Y c) (ypa Y c) (yE Y c)
def YR (cy : Nat → ClassId) (ad : Nat → Nat) (E : Nat → va_E) (Y : YT) : Prop := YR1 cy ad E Y ∧ YR2 cy E Y ∧ sawAny cy ad E ∧ spareAny cy ad E ∧ YR3 cy ad E Y
/-- the keys of a state -/
abbrev keyOk (Y : YT) (k : Nat) : Prop := k < 21 ∨ (1000 ≤ k ∧ k < 1000 + yF Y) ∨ (2000 ≤ k ∧ k < 2000 + yB Y) ∨ (3000 ≤ k ∧ k < 3000 + yB Y) ∨ (4000 ≤ k ∧ k < 4000 + yB Y) ∨ (5000 ≤ k ∧ k < 5000 + yC Y) ∨ (6000 ≤ k ∧ k < 6000 + yC Y) ∨ (7000 ≤ k ∧ k < 7000 + yC Y) ∨ (8000 ≤ k ∧ k < 8000 + yC Y) ∨ (9000 ≤ k ∧ k < 9000 + yC Y) ∨ (10000 ≤ k ∧ k < 10000 + yC Y)
def KR (K : List Nat) (Y : YT) : Prop := ∀ k, k ∈ K ↔ keyOk Y k
theorem KR.m {K : List Nat} {Y : YT} (h : KR K Y) {k : Nat} (hk : keyOk Y k) : k ∈ K := (h k).mpr hk
/-- how a call throws: 1 NoSuchElementException, 2 IllegalArgumentException -/
def xOk (En : String) (c kN kI : Nat) : Prop := (En = "java/util/NoSuchElementException" ∧ c = kN) ∨ (En = "java/lang/IllegalArgumentException" ∧ c = kI)
theorem ref_t {ad : Nat → Nat} {o n : Nat} {f : Nat → Option Nat} (h : refR ad o n f) {i : Nat} (hi : i < n) : va_rf (f i) = .ref (ad (o + i)) := by rw [h i, if_pos hi]; rfl
theorem ref_f {ad : Nat → Nat} {o n : Nat} {f : Nat → Option Nat} (h : refR ad o n f) {i : Nat} (hi : ¬ i < n) : va_rf (f i) = .null := by rw [h i, if_neg hi]; rfl
theorem ix_of {a : Int32} {n : Nat} (h : 0 ≤ a.toInt) (h2 : ix a < n) : isIx a n := ⟨h, by have := ix_c h; omega⟩
