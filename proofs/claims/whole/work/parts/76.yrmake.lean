theorem YR_make {cy : Nat → ClassId} {ad : Nat → Nat} {E u : Nat → va_E} {Y : YT} {i : Nat} {f3 : Nat → Option Nat} (hR : YR cy ad E Y) (hY : WF Y) (hr3 : refR ad 5000 (yC Y) f3) (h0 : u 0 = yardO ad (yF Y) (yB Y) (yC Y + 1) (yNow Y)) (h3 : u 3 = rowQ cy 5 30 (va_up f3 (yC Y) (some (ad (5000 + yC Y))))) (hs : sawAny cy ad u) (hb : ∀ b, b < yB Y → boltAt cy ad u b (nI (ysp Y b)) (yP (makeY Y i) b)) (hc : caskAt cy ad u (yC Y) i (ys Y i) (newB (planY Y i) (ys Y i) (yg Y i)) (fun _ => 0) [])
    (ho : ∀ k, keyOk Y k → k ≠ 0 → k ≠ 3 → (k < 6 ∨ 17 < k) → (k < 2000 ∨ 5000 ≤ k) → u k = E k) : YR cy ad u (makeY Y i) := by
  obtain ⟨⟨a0, f1, f2, g3, a1, a2, a3, r1, r2, r3⟩, ⟨f4, f5, b1, b2, b3, b4⟩, h3', h4, h5, h6, h7⟩ := hR
  obtain ⟨hw0, hwF, hwB, hwC, hwf, hwb, hwc, hwr, hww⟩ := hY
  have o : ∀ k, k < 21 → k ≠ 0 → k ≠ 3 → (k < 6 ∨ 17 < k) → u k = E k := fun k hk p q r => ho k (Or.inl hk) p q r (by omega)
  refine ⟨⟨h0, f1, f2, _, (o 1 (by decide) (by decide) (by decide) (by decide)).trans a1, (o 2 (by decide) (by decide) (by decide) (by decide)).trans a2, h3, r1, r2, ref_push hr3⟩, ⟨f4, f5, (o 4 (by decide) (by decide) (by decide) (by decide)).trans b1, (o 5 (by decide) (by decide) (by decide) (by decide)).trans b2, b3, b4⟩, hs, spare_congr h4 (fun k _ _ => o k (by omega) (by omega) (by omega) (by omega)), ?_, hb, ?_⟩
  · intro j hj
    have hj : j < yF Y := hj
    exact (ho _ (by unfold keyOk; omega) (by omega) (by omega) (by omega) (by omega)).trans (h5 j hj)
  · intro c hc'
    have hc2 : c < yC Y + 1 := hc'
    by_cases e : c = yC Y
    · subst e
      have ec : ycf (makeY Y i) (yC Y) = i := va_up_self _ _ _
      have eE : yE (makeY Y i) (yC Y) = [] := va_up_self _ _ _
      have eb : ybo (makeY Y i) (yC Y) = newB (planY Y i) (ys Y i) (yg Y i) := by
        show va_up (Y.2.2.2.1 0) (yC Y) _ (yC Y) = _
        exact va_up_self _ _ _
      have ep : ypa (makeY Y i) (yC Y) = fun _ => 0 := by
        show va_up (Y.2.2.2.1 1) (yC Y) _ (yC Y) = _
        exact va_up_self _ _ _
      rw [ec, eE, eb, ep]
      exact hc
    · have hc3 : c < yC Y := by omega
      have ec : ycf (makeY Y i) c = ycf Y c := va_up_ne _ _ e
      have eE : yE (makeY Y i) c = yE Y c := va_up_ne _ _ e
      have eb : ybo (makeY Y i) c = ybo Y c := by
        show va_up (Y.2.2.2.1 0) (yC Y) _ c = _
        rw [va_up_ne _ _ e]; rfl
      have ep : ypa (makeY Y i) c = ypa Y c := by
        show va_up (Y.2.2.2.1 1) (yC Y) _ c = _
        rw [va_up_ne _ _ e]; rfl
      rw [ec, eE, eb, ep]
      exact caskAt_congr (u := u) (h7 c hc3) (fun o9 ho9 => ho _ (by unfold keyOk; omega) (by omega) (by omega) (by omega) (by omega))
theorem KR_make {K : List Nat} {Y : YT} (i : Nat) (h : KR K Y) : KR ((((((K ++ [5000 + yC Y]) ++ [6000 + yC Y]) ++ [7000 + yC Y]) ++ [8000 + yC Y]) ++ [9000 + yC Y]) ++ [10000 + yC Y]) (makeY Y i) := by
  intro k
  simp only [List.mem_append, List.mem_singleton]
  rw [h k]
  unfold keyOk
  rw [show yF (makeY Y i) = yF Y from rfl, show yB (makeY Y i) = yB Y from rfl, show yC (makeY Y i) = yC Y + 1 from rfl]
  omega
/-- the bolts behind the saw's cut -/
theorem bolts_make {cy : Nat → ClassId} {ad : Nat → Nat} {E u : Nat → va_E} {Y : YT} {i : Nat} (hR : YR cy ad E Y) (hY : WF Y) (hs : shD cy ad (lookK Y) (fun p => nI (ysp Y (lookK Y p))) (fun p => cutPL (mLL Y p) (fun k => mA Y i (offN (mLL Y) p + k))) (lookL Y).length u) (ho : ∀ b, b < yB Y → (∀ p, p < (lookL Y).length → b ≠ lookK Y p) → u (2000 + b) = E (2000 + b) ∧ u (3000 + b) = E (3000 + b) ∧ u (4000 + b) = E (4000 + b)) : ∀ b, b < yB Y → boltAt cy ad u b (nI (ysp Y b)) (yP (makeY Y i) b) := by
  intro b hb
  by_cases q : ∃ p, p < (lookL Y).length ∧ b = lookK Y p
  · obtain ⟨p, hp, rfl⟩ := q
    rw [mk_D hY hp]
    exact hs p hp
  · have q2 : ∀ p, p < (lookL Y).length → b ≠ lookK Y p := fun p hp e => q ⟨p, hp, e⟩
    rw [mk_P0 hY hb q2]
    obtain ⟨e1, e2, e3⟩ := ho b hb q2
    exact boltAt_congr (hR.2.2.2.2.2.1 b hb) e1 e2 e3
/-- the new cask behind the handing out -/
theorem cask_make {cy : Nat → ClassId} {ad : Nat → Nat} {u : Nat → va_E} {Y : YT} {i : Nat} {f : Nat → Int32} (h0 : u (5000 + yC Y) = caskO ad (yC Y) i 0) (h1 : u (6000 + yC Y) = rowI cy 40 f) (h2 : u (7000 + yC Y) = rowI cy 40 (fun _ => 0)) (h3 : u (8000 + yC Y) = rowI cy 40 (fun _ => 0)) (h4 : u (9000 + yC Y) = rowI cy 40 (fun _ => 0)) (h5 : u (10000 + yC Y) = rowI cy 40 (fun _ => 0))
    (hf : ∀ k, k < ys Y i → f k = nI (if isW (ys Y i) (yg Y i) k then (repL (cutH (nrY Y i) (mPP Y) (mo Y i) (mW Y i) (mM Y i)) (fun j => (enD (mC Y) j).2.1) (mPP Y).length).getD (cwN (ys Y i) (yg Y i) k) 0 else (repL (cutM (nrY Y i) (mPP Y) (mo Y i) (mW Y i) (mM Y i)) (fun j => (enD (mC Y) j).2.1) (mPP Y).length).getD (k - cwN (ys Y i) (yg Y i) k) 0)) : caskAt cy ad u (yC Y) i (ys Y i) (newB (planY Y i) (ys Y i) (yg Y i)) (fun _ => 0) [] := by
  refine ⟨f, _, _, _, _, h0, h1, h2, h3, h4, h5, fun k hk => ⟨?_, rfl⟩, fun j q hq => (by simp at hq)⟩
  rw [hf k hk]
  unfold newB
  rw [mk_wd, mk_nr, ← layC_len]
