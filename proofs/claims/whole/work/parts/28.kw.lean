/-! worlds by key: K the keys, ad k the address, E k the contents -/
def kW (K : List Nat) (ad : Nat → Nat) (E : Nat → va_E) : va_W := K.map (fun k => (ad k, E k))
theorem kW_at {K : List Nat} {ad : Nat → Nat} {E : Nat → va_E} {p k : Nat} (h : K[p]? = some k) : (kW K ad E)[p]? = some (ad k, E k) := by simp [kW, h]
theorem kW_pos {K : List Nat} {k : Nat} (h : k ∈ K) : ∃ p : Nat, K[p]? = some k := List.mem_iff_getElem?.mp h
theorem kW_get {K : List Nat} {ad : Nat → Nat} {E : Nat → va_E} {p k : Nat} {e : va_E} (h : K[p]? = some k) (he : E k = e) : (kW K ad E)[p]? = some (ad k, e) := by rw [kW_at h, he]
theorem kW_nd {A : Nat → Prop} {K : List Nat} {ad : Nat → Nat} {E : Nat → va_E} (hD : va_D A (kW K ad E)) : ∀ (i j k : Nat), K[i]? = some k → K[j]? = some k → i = j :=
  fun i j _ h1 h2 => hD.1 i j _ _ (kW_at h1) (kW_at h2) rfl
theorem kW_inj {A : Nat → Prop} {K : List Nat} {ad : Nat → Nat} {E : Nat → va_E} (hD : va_D A (kW K ad E)) {j k : Nat} (hj : j ∈ K) (hk : k ∈ K) (h : ad j = ad k) : j = k := by
  obtain ⟨p, hp⟩ := kW_pos hj
  obtain ⟨q, hq⟩ := kW_pos hk
  have := hD.1 p q _ _ (kW_at hp) (kW_at hq) h
  subst this
  exact Option.some.inj (hp.symm.trans hq)
theorem kW_set {K : List Nat} {ad : Nat → Nat} {E : Nat → va_E} {p k : Nat} {e : va_E} (hn : ∀ (i j k : Nat), K[i]? = some k → K[j]? = some k → i = j) (h : K[p]? = some k) : (kW K ad E).set p (ad k, e) = kW K ad (va_up E k e) := by
  apply List.ext_getElem?
  intro i
  by_cases q : i = p
  · subst q
    have hl : i < (kW K ad E).length := by simpa [kW] using (List.getElem?_eq_some_iff.mp h).1
    rw [List.getElem?_set_self hl, kW_get h (va_up_self _ _ _)]
  · rw [List.getElem?_set_ne (fun z => q z.symm)]
    cases hi : K[i]? with
    | none => simp [kW, hi]
    | some j =>
      have : j ≠ k := fun z => q (hn i p k (by rw [hi, z]) h)
      rw [kW_at hi, kW_get hi (va_up_ne _ _ this)]
theorem kW_push {K : List Nat} {ad : Nat → Nat} {E : Nat → va_E} {k q : Nat} {e : va_E} (h : k ∉ K) : kW K ad E ++ [(q, e)] = kW (K ++ [k]) (va_up ad k q) (va_up E k e) := by
  have h1 : K.map (fun j => (ad j, E j)) = K.map (fun j => (va_up ad k q j, va_up E k e j)) := by
    apply List.map_congr_left
    intro j hj
    have : j ≠ k := fun z => h (z ▸ hj)
    rw [va_up_ne _ _ this, va_up_ne _ _ this]
  unfold kW
  rw [List.map_append, ← h1]
  simp [va_up_self]
theorem kW_len (K : List Nat) (ad : Nat → Nat) (E : Nat → va_E) : (kW K ad E).length = K.length := by simp [kW]
/-- a row of references holds nothing or some cell of this class -/
theorem rf_some (a : Nat) : va_rf (some a) = .ref a := rfl
theorem rf_none : va_rf none = .null := rfl
theorem z_max_n {a b : Int} {n : Nat} (h : max a b = (n : Int)) : zI (max a b) = nI n := by rw [h]; rfl
theorem n_not0 {n : Nat} (h : n < 2147483648) : ¬ nI n < 0 := fun q => by
  have h1 := (i_lt _ _).mp q
  rw [n_i h, i_0] at h1
  omega
section GN
variable {p : Program} {l : Launch} {e : Env} {R : Room} {s : State} {m : MethodId} {args : Array Value} {below : List Frame} {meth : Method} {c : Code} {H : Heap} {locs : List Loc} {cells slots : Nat} {Q : State → Prop} {cc : ByteArray} {pc : Nat} {ls : Array Slot} {rest : List Value}
variable {D : va_G} {A : Nat → Prop} {H0 : Heap} {ws : va_W}
/-- a new row of ints -/
theorem g_newI {cy : Nat → ClassId} (hx : p.tables.exec = Jvm.exec) (hb : c.code = cc) (harr : (Cond.arrayClass .int).before args s = true) (hK : va_K D vwCl (tyL cy) s) (hP : va_P D vwCl ws H) (hD : va_D A ws) (hS : va_S A H0 H locs) (hA : ∀ q, H0.size ≤ q → A q) {n : Nat} (hn : n < 100000) (hcells : cells + 1 ≤ R.cells) (hslots : slots + n ≤ R.slots) (hd : decode cc pc = .ok (.newarray .int, 2))
    (k : ∀ (q : Nat) (H1 : Heap), va_P D vwCl (ws ++ [(q, .inl (cy 0, n, .inl (fun _ => 0)))]) H1 → va_D A (ws ++ [(q, .inl (cy 0, n, .inl (fun _ => 0)))]) → va_S A H0 H1 locs → W p l e R s m args below meth c H1 locs (cells + 1) (slots + n) Q (F0 m (pc + 2) ls (.ref q :: rest))) : W p l e R s m args below meth c H locs cells slots Q (F0 m pc ls (.int (nI n) :: rest)) := by
  refine va_newa (atype := .int) (a0 := (n, .inl (fun _ => 0))) hx hb (ty := .int) harr rfl hK hP hD hS hA (fun _ => rfl) (n_not0 (by omega)) (nI_clamp (by omega)) (by show n * 4 ≤ _; omega) hcells hslots hd (fun q cA H1 hK1 hP1 hD1 hS1 => ?_)
  have e1 : cA = cy 0 := by
    have h1 := (hK1.2 6 (cA, .int) rfl).2
    have h2 := (hK1.2 0 (cy 0, .int) rfl).2
    exact Option.some.inj (h1.symm.trans h2)
  subst e1
  exact k q H1 hP1 hD1 hS1
/-- a new row of truths -/
theorem g_newZ {cy : Nat → ClassId} (hx : p.tables.exec = Jvm.exec) (hb : c.code = cc) (harr : (Cond.arrayClass .boolean).before args s = true) (hK : va_K D vwCl (tyL cy) s) (hP : va_P D vwCl ws H) (hD : va_D A ws) (hS : va_S A H0 H locs) (hA : ∀ q, H0.size ≤ q → A q) {n : Nat} (hn : n < 100000) (hcells : cells + 1 ≤ R.cells) (hslots : slots + n ≤ R.slots) (hd : decode cc pc = .ok (.newarray .boolean, 2))
    (k : ∀ (q : Nat) (H1 : Heap), va_P D vwCl (ws ++ [(q, .inl (cy 1, n, .inl (fun _ => 0)))]) H1 → va_D A (ws ++ [(q, .inl (cy 1, n, .inl (fun _ => 0)))]) → va_S A H0 H1 locs → W p l e R s m args below meth c H1 locs (cells + 1) (slots + n) Q (F0 m (pc + 2) ls (.ref q :: rest))) : W p l e R s m args below meth c H locs cells slots Q (F0 m pc ls (.int (nI n) :: rest)) := by
  refine va_newa (atype := .boolean) (a0 := (n, .inl (fun _ => 0))) hx hb (ty := .boolean) harr rfl hK hP hD hS hA (fun _ => rfl) (n_not0 (by omega)) (nI_clamp (by omega)) (by show n * 1 ≤ _; omega) hcells hslots hd (fun q cA H1 hK1 hP1 hD1 hS1 => ?_)
  have e1 : cA = cy 1 := by
    have h1 := (hK1.2 6 (cA, .boolean) rfl).2
    have h2 := (hK1.2 1 (cy 1, .boolean) rfl).2
    exact Option.some.inj (h1.symm.trans h2)
  subst e1
  exact k q H1 hP1 hD1 hS1
end GN
