/-! handing out the pieces -/
theorem YR_saw {cy : Nat → ClassId} {ad : Nat → Nat} {E u : Nat → va_E} {Y : YT} (hR : YR cy ad E Y) (hs : sawAny cy ad u) (ho : ∀ k, k < 6 ∨ 17 < k → u k = E k) : YR cy ad u Y := by
  obtain ⟨h1, h2, _, h4, h5⟩ := hR
  exact ⟨YR1_congr h1 (fun k _ => ho k (by omega)), YR2_congr h2 (ho 4 (by decide)) (ho 5 (by decide)), hs, spare_congr h4 (fun k _ _ => ho k (by omega)), YR3_congr h5 (fun k _ => ho k (by omega))⟩
theorem pcN_mono {nn gg w : Nat} (hw : w ≤ 1) {k : Nat} : ∀ j, k ≤ j → pcN nn gg w k ≤ pcN nn gg w j
  | 0, h => by rw [show k = 0 by omega]; exact Nat.le_refl _
  | j + 1, h => by
    by_cases e : k = j + 1
    · rw [e]; exact Nat.le_refl _
    · have := pcN_mono (nn := nn) (gg := gg) hw (k := k) j (by omega)
      by_cases q : isW nn gg j ↔ w = 1
      · rw [pcN_t hw q]; omega
      · rw [pcN_f hw q]; exact this
def repL (cnt num : Nat → Nat) : Nat → List Nat
  | 0 => []
  | j + 1 => repL cnt num j ++ List.replicate (cnt j) (num j)
theorem repL_s (cnt num : Nat → Nat) (j : Nat) : (repL cnt num (j + 1)).length = (repL cnt num j).length + cnt j := by rw [repL, List.length_append, List.length_replicate]
theorem repL_mono (cnt num : Nat → Nat) {i : Nat} : ∀ j, i ≤ j → (repL cnt num i).length ≤ (repL cnt num j).length
  | 0, h => by rw [show i = 0 by omega]; exact Nat.le_refl _
  | j + 1, h => by
    by_cases e : i = j + 1
    · rw [e]; exact Nat.le_refl _
    · have := repL_mono cnt num (i := i) j (by omega)
      rw [repL_s]; omega
def hoI (nn gg w k : Nat) (R : List Nat) (g : Nat → Int32) : Prop := ∀ j, j < k → (isW nn gg j ↔ w = 1) → g j = nI (R.getD (pcN nn gg w j) 0)
theorem ho_step {nn gg w k k' mn bo : Nat} {R : List Nat} {g g' : Nat → Int32} (hw : w ≤ 1) (h : hoI nn gg w k R g) (hl : pcN nn gg w k = R.length) (hk : k ≤ k') (hp : pcN nn gg w k' = pcN nn gg w k + mn) (hg : ∀ j, g' j = tkF nn gg w k k' (nI bo) g j) : hoI nn gg w k' (R ++ List.replicate mn bo) g' := by
  intro j hj hP
  have h1 := pcN_t hw hP
  have h2 := pcN_mono (nn := nn) (gg := gg) hw (k := j + 1) k' (by omega)
  have hlen : pcN nn gg w j < (R ++ List.replicate mn bo).length := by rw [List.length_append, List.length_replicate]; omega
  rw [hg, rep_get hlen]
  by_cases q : j < k
  · have h3 := pcN_mono (nn := nn) (gg := gg) hw (k := j + 1) k (by omega)
    rw [tkF, if_neg (fun z => by omega), if_pos (by omega)]
    exact h j q hP
  · have h3 := pcN_mono (nn := nn) (gg := gg) hw (k := k) j (by omega)
    rw [tkF, if_pos ⟨by omega, hj, hP⟩, if_neg (by omega)]
theorem ho_other {nn gg w v k k2 k2' : Nat} {R : List Nat} {x : Int32} {g g' : Nat → Int32} (hw : w ≤ 1) (hv : v ≤ 1) (hvw : v ≠ w) (h : hoI nn gg v k R g) (hg : ∀ j, g' j = tkF nn gg w k2 k2' x g j) : hoI nn gg v k R g' := by
  intro j hj hP
  rw [hg, tkF, if_neg (fun z => by
    have h1 := z.2.2
    by_cases q : isW nn gg j
    · have := hP.mp q; have := h1.mp q; omega
    · have : ¬ v = 1 := fun y => q (hP.mpr y)
      have : ¬ w = 1 := fun y => q (h1.mpr y)
      omega)]
  exact h j hj hP
theorem ho_end {nn gg w k : Nat} {R : List Nat} {g : Nat → Int32} (hw : w ≤ 1) (h : hoI nn gg w k R g) (hl : pcN nn gg w k = R.length) (hR : R.length = pcN nn gg w nn) {j : Nat} (hj : j < nn) (hP : isW nn gg j ↔ w = 1) : g j = nI (R.getD (pcN nn gg w j) 0) := by
  rcases Nat.lt_or_ge j k with q | q
  · exact h j q hP
  · have h1 := pcN_t hw hP
    have h2 := pcN_mono (nn := nn) (gg := gg) hw (k := k) j q
    have h3 := pcN_mono (nn := nn) (gg := gg) hw (k := j + 1) nn (by omega)
    omega
