/-! what the saw cuts for a new cask is what the reference cuts -/
abbrev mPP (Y : YT) : List (Nat × Nat × Nat) := layF Y (lookK Y) (lookL Y).length
abbrev mC (Y : YT) : List (Nat × Nat × Nat) := layC Y (lookK Y) (lookL Y).length
abbrev mo (Y : YT) (i : Nat) : Nat → Nat := bitO (mPP Y) (rv8 (bestY Y i))
abbrev mW (Y : YT) (i : Nat) : Nat := yg Y i % ys Y i
abbrev mM (Y : YT) (i : Nat) : Nat := ys Y i - yg Y i % ys Y i
abbrev mLL (Y : YT) (p : Nat) : List (Nat × Nat) := yP Y (lookK Y p)
abbrev mA (Y : YT) (i j : Nat) : Nat := cutA (nrY Y i) (mPP Y) (mo Y i) (mW Y i) (mM Y i) j
theorem mk_gv {Y : YT} {i : Nat} (h : bestY Y i ≠ 0) : ((mM Y i : Nat) : Int) ≤ dpN (nrY Y i + 1) (nrY Y i) (opnL (mPP Y) (mo Y i) (List.range (mPP Y).length)) (mW Y i) := by
  have h1 := open_eq (Y := Y) (look_len Y) (best_lt Y i)
  rw [h1]
  exact best_giv h
theorem mk_1 {Y : YT} {j : Nat} (hj : j < (mC Y).length) : (enD (mC Y) j).1 < (lookL Y).length := by
  obtain ⟨k, p, hk, hp, rfl⟩ := layC_ex _ j hj
  rw [layC_ix hp _ hk]; exact hk
theorem mk_o {Y : YT} {i j : Nat} (hj : j < (mC Y).length) : (mo Y i j = 1 ↔ bestY Y i / 2 ^ (enD (mC Y) j).1 % 2 = 1) := by
  have h8 := look_len Y
  have h2 := (pow_8 h8).2
  have h3 := best_lt Y i
  have h4 := mk_1 hj
  have e : (enD (mPP Y) j).1 = (enD (mC Y) j).1 := by rw [layC_at hj]
  have h5 := (rv_sp (x := bestY Y i) (by omega)).2.2.2 (enD (mC Y) j).1 (by omega)
  rw [← h5]
  show (if bitP (rv8 (bestY Y i)) (enD (mPP Y) j).1 then 1 else 0) = 1 ↔ _
  rw [e]
  by_cases q : bitP (rv8 (bestY Y i)) (enD (mC Y) j).1
  · rw [if_pos q]; exact ⟨fun _ => q, fun _ => rfl⟩
  · rw [if_neg q]; exact ⟨fun z => absurd z (by decide), fun z => absurd z q⟩
theorem mk_T {Y : YT} {i : Nat} : frmT (mC Y) (mo Y i) 0 = takeS Y (lookK Y) (bestY Y i) 8 := by
  have h8 := look_len Y
  have e8 : takeS Y (lookK Y) (bestY Y i) 8 = takeS Y (lookK Y) (bestY Y i) (lookL Y).length := by
    have := takeS_8 (Y := Y) (K := lookK Y) (best_lt Y i) (8 - (lookL Y).length)
    rwa [show (lookL Y).length + (8 - (lookL Y).length) = 8 by omega] at this
  rw [e8, ← layC_T]
  have h : (mC Y).filter (fun z => decide (bestY Y i / 2 ^ z.1 % 2 = 1)) = ((List.range (mC Y).length).map (enD (mC Y))).filter (fun z => decide (bestY Y i / 2 ^ z.1 % 2 = 1)) := by rw [enD_map]
  show _ = ((mC Y).filter _).map _
  rw [h, List.filter_map, List.map_map]
  unfold frmT
  rw [List.drop_zero]
  have h2 : (List.range (mC Y).length).filter (fun j => decide (mo Y i j = 1)) = (List.range (mC Y).length).filter ((fun z => decide (bestY Y i / 2 ^ z.1 % 2 = 1)) ∘ enD (mC Y)) := by
    apply List.filter_congr
    intro j hj
    show decide _ = decide _
    exact decide_eq_decide.mpr (mk_o (List.mem_range.mp hj))
  rw [h2]
  rfl
theorem mk_ln {Y : YT} {j : Nat} (hj : j < (mC Y).length) : lnP (mPP Y) j = plen Y (enD (mC Y) j).2 := by
  show (enD (mPP Y) j).2.2 = _
  rw [layC_at hj]
theorem mk_plan (Y : YT) (i : Nat) : planY Y i = zL (nrY Y i) (mPP Y) (mC Y) (mo Y i) (mW Y i) (mM Y i) (mC Y).length 0 := by
  have := plan_z (Y := Y) (nr := nrY Y i) (W := mW Y i) (N := mM Y i) (P := mPP Y) (C := mC Y) (o := mo Y i) (layC_len _ _ _) (fun j hj => mk_ln hj) (mC Y).length 0 (by omega)
  rw [mk_T] at this
  exact this
theorem mk_wd (Y : YT) (i : Nat) : wdL (planY Y i) = repL (cutH (nrY Y i) (mPP Y) (mo Y i) (mW Y i) (mM Y i)) (fun j => (enD (mC Y) j).2.1) (mC Y).length := by
  have := z_wd (nr := nrY Y i) (W := mW Y i) (N := mM Y i) (P := mPP Y) (C := mC Y) (o := mo Y i) (mC Y).length 0
  rw [mk_plan]
  rw [Nat.zero_add] at this
  exact this
theorem mk_nr (Y : YT) (i : Nat) : nrL (planY Y i) = repL (cutM (nrY Y i) (mPP Y) (mo Y i) (mW Y i) (mM Y i)) (fun j => (enD (mC Y) j).2.1) (mC Y).length := by
  have := z_nr (nr := nrY Y i) (W := mW Y i) (N := mM Y i) (P := mPP Y) (C := mC Y) (o := mo Y i) (mC Y).length 0
  rw [mk_plan]
  rw [Nat.zero_add] at this
  exact this
theorem mk_off {Y : YT} {p k : Nat} (hp : p < (lookL Y).length) (hk : k < (mLL Y p).length) : offN (mLL Y) p + k < (mC Y).length := by
  have h1 : (mC Y).length = offN (mLL Y) (lookL Y).length := layC_off Y (lookK Y) _
  have h2 : ∀ m, p < m → offN (mLL Y) p + k < offN (mLL Y) m := by
    intro m
    induction m with
    | zero => intro h; omega
    | succ m ih =>
      intro h
      rw [offN]
      by_cases e : p = m
      · subst e; omega
      · have := ih (by omega); omega
  rw [h1]; exact h2 _ hp
theorem mk_am {Y : YT} {i p k : Nat} (hp : p < (lookL Y).length) (hk : k < (mLL Y p).length) : amN (nrY Y i + 1) (nrY Y i) (planY Y i) (lookK Y p) k = mA Y i (offN (mLL Y) p + k) := by
  have h1 := mk_off hp hk
  have e := layC_ix (Y := Y) (K := lookK Y) (k := p) (i := k) hk (lookL Y).length hp
  have h := z_am (nr := nrY Y i) (W := mW Y i) (N := mM Y i) (P := mPP Y) (C := mC Y) (o := mo Y i) (j := offN (mLL Y) p + k) (fun q hq hne => layC_dis (Nat.le_refl _) h1 hq hne) (mC Y).length 0 (Nat.zero_le _) (by omega) (by omega)
  rw [← mk_plan] at h
  rw [show enD (mC Y) (offN (mLL Y) p + k) = (p, lookK Y p, k) from e] at h
  exact h
theorem mk_am0 {Y : YT} {i b k : Nat} (hb : ∀ p, p < (lookL Y).length → b ≠ lookK Y p) : amN (nrY Y i + 1) (nrY Y i) (planY Y i) b k = 0 := by
  rw [mk_plan]
  refine z_am0 _ _ (fun j _ hj => ?_)
  obtain ⟨q, r, hq, hr, rfl⟩ := layC_ex _ j (by simpa using hj)
  rw [layC_ix hr _ hq]
  exact fun z => hb q hq (congrArg Prod.fst z).symm
theorem mk_cut {Y : YT} {i p k : Nat} (hY : WF Y) (hp : p < (lookL Y).length) (hk : k < (mLL Y p).length) : (paD (mLL Y p) k).1 + mA Y i (offN (mLL Y) p + k) ≤ (paD (mLL Y p) k).2 := by
  rw [← mk_am hp hk]
  have a1 := am_pl (Y := Y) (wd := nrY Y i + 1) (nr := nrY Y i) (b := lookK Y p) (p := k) (takeS Y (lookK Y) (bestY Y i) 8) (yg Y i % ys Y i) (ys Y i - yg Y i % ys Y i) (takeS_pw (best_lt Y i) 8).1
  have a2 := ((hY.2.2.2.2.2.1 _ (look_lt hp)).2).2 _ (paD_mem hk)
  have a3 : plen Y (lookK Y p, k) = (paD (mLL Y p) k).2 - (paD (mLL Y p) k).1 := rfl
  have a4 : amN (nrY Y i + 1) (nrY Y i) (planY Y i) (lookK Y p) k ≤ plen Y (lookK Y p, k) := a1
  have a5 : (paD (mLL Y p) k).1 < (paD (mLL Y p) k).2 := a2.1
  omega
theorem mk_tot {Y : YT} {i : Nat} (hi : formOk (yh Y i) (yg Y i) (ye Y i) (ys Y i)) (h : bestY Y i ≠ 0) : (wdL (planY Y i)).length = mW Y i ∧ (nrL (planY Y i)).length = mM Y i := by
  have := cut_all (C := mC Y) (nr := nrY Y i) (P := mPP Y) (Nat.succ_pos _) (mk_gv h)
  rw [mk_wd, mk_nr, ← layC_len]
  exact this
theorem mk_ty {Y : YT} {i : Nat} (hi : formOk (yh Y i) (yg Y i) (ye Y i) (ys Y i)) (h : bestY Y i ≠ 0) : (wdL (planY Y i)).length = pcN (ys Y i) (yg Y i) 1 (ys Y i) ∧ (nrL (planY Y i)).length = pcN (ys Y i) (yg Y i) 0 (ys Y i) := by
  have h1 := mk_tot hi h
  have h2 := cwN_all (n := ys Y i) (g := yg Y i) (by omega)
  refine ⟨?_, ?_⟩
  · rw [h1.1, pcN, if_pos rfl, h2]
  · rw [h1.2, pcN, if_neg (by decide), h2]
theorem cutPL_congr {L : List (Nat × Nat)} {f g : Nat → Nat} (h : ∀ k, k < L.length → f k = g k) : cutPL L f = cutPL L g := by
  unfold cutPL
  apply List.map_congr_left
  intro p hp
  rw [h p (List.mem_range.mp hp)]
theorem cutPL_0 {L : List (Nat × Nat)} {f : Nat → Nat} (h : ∀ k, k < L.length → f k = 0) : cutPL L f = L := by
  apply List.ext_getElem?
  intro p
  by_cases hp : p < L.length
  · rw [cutPL_get hp, h p hp, paD_get hp]; rfl
  · rw [List.getElem?_eq_none (by rw [cutPL_len]; omega), List.getElem?_eq_none (by omega)]
theorem filP_id {L : List (Nat × Nat)} (h : partsOk L) : filP L = L := by
  unfold filP
  exact List.filter_eq_self.mpr (fun q hq => decide_eq_true (Nat.ne_of_lt (h.2 q hq).1))
/-- the parts of a bolt that was looked at, behind the cut -/
theorem mk_P {Y : YT} {i p : Nat} (hp : p < (lookL Y).length) : yP (makeY Y i) (lookK Y p) = filP (cutPL (mLL Y p) (fun k => mA Y i (offN (mLL Y) p + k))) := by
  have e : yP (makeY Y i) (lookK Y p) = filP (cutPL (mLL Y p) (amN (nrY Y i + 1) (nrY Y i) (planY Y i) (lookK Y p))) := if_pos (look_lt hp)
  rw [e, cutPL_congr (fun k hk => mk_am hp hk)]
/-- the other bolts are as they were -/
theorem mk_P0 {Y : YT} {i b : Nat} (hY : WF Y) (hB : b < yB Y) (hb : ∀ p, p < (lookL Y).length → b ≠ lookK Y p) : yP (makeY Y i) b = yP Y b := by
  have e : yP (makeY Y i) b = filP (cutPL (yP Y b) (amN (nrY Y i + 1) (nrY Y i) (planY Y i) b)) := if_pos hB
  rw [e, cutPL_0 (fun k _ => mk_am0 hb), filP_id (hY.2.2.2.2.2.1 b hB).2]
theorem drop_fil {L : List (Nat × Nat)} (h : ∀ q ∈ L, q.1 ≤ q.2) : dropP L = filP L := by
  unfold dropP filP
  apply List.filter_congr
  intro q hq
  have := h q hq
  exact decide_eq_decide.mpr (by omega)
theorem mk_D {Y : YT} {i p : Nat} (hY : WF Y) (hp : p < (lookL Y).length) : yP (makeY Y i) (lookK Y p) = dropP (cutPL (mLL Y p) (fun k => mA Y i (offN (mLL Y) p + k))) := by
  rw [mk_P hp, drop_fil]
  intro q hq
  rw [cutPL, List.mem_map] at hq
  obtain ⟨k, hk, rfl⟩ := hq
  exact mk_cut hY hp (List.mem_range.mp hk)
