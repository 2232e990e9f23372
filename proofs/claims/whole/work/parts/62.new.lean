/-! new cells in worlds by key -/
section GK
variable {p : Program} {l : Launch} {e : Env} {R : Room} {s : State} {m : MethodId} {args : Array Value} {below : List Frame} {meth : Method} {c : Code} {H : Heap} {locs : List Loc} {cells slots : Nat} {Q : State → Prop} {cc : ByteArray} {pc : Nat} {ls : Array Slot} {rest : List Value}
variable {D : va_G} {A : Nat → Prop} {H0 : Heap} {K : List Nat} {ad : Nat → Nat} {E : Nat → va_E} {cy : Nat → ClassId}
theorem gk_newI (k : Nat) (hk : k ∉ K) (hx : p.tables.exec = Jvm.exec) (hb : c.code = cc) (harr : (Cond.arrayClass .int).before args s = true) (hK : va_K D vwCl (tyL cy) s) (hP : va_P D vwCl (kW K ad E) H) (hD : va_D A (kW K ad E)) (hS : va_S A H0 H locs) (hA : ∀ q, H0.size ≤ q → A q) {n : Nat} (hn : n < 100000) (hcells : cells + 1 ≤ R.cells) (hslots : slots + n ≤ R.slots) (hd : decode cc pc = .ok (.newarray .int, 2))
    (kk : ∀ (ad1 : Nat → Nat) (E1 : Nat → va_E) (H1 : Heap), (∀ j, j ≠ k → ad1 j = ad j) → E1 = va_up E k (rowI cy n (fun _ => 0)) → va_P D vwCl (kW (K ++ [k]) ad1 E1) H1 → va_D A (kW (K ++ [k]) ad1 E1) → va_S A H0 H1 locs → W p l e R s m args below meth c H1 locs (cells + 1) (slots + n) Q (F0 m (pc + 2) ls (.ref (ad1 k) :: rest))) : W p l e R s m args below meth c H locs cells slots Q (F0 m pc ls (.int (nI n) :: rest)) := by
  refine g_newI hx hb harr hK hP hD hS hA hn hcells hslots hd (fun q H1 hP1 hD1 hS1 => ?_)
  rw [kW_push hk] at hP1 hD1
  have h9 := kk (va_up ad k q) _ H1 (fun j hj => va_up_ne _ _ hj) rfl hP1 hD1 hS1
  rw [va_up_self] at h9
  exact h9
theorem gk_newZ (k : Nat) (hk : k ∉ K) (hx : p.tables.exec = Jvm.exec) (hb : c.code = cc) (harr : (Cond.arrayClass .boolean).before args s = true) (hK : va_K D vwCl (tyL cy) s) (hP : va_P D vwCl (kW K ad E) H) (hD : va_D A (kW K ad E)) (hS : va_S A H0 H locs) (hA : ∀ q, H0.size ≤ q → A q) {n : Nat} (hn : n < 100000) (hcells : cells + 1 ≤ R.cells) (hslots : slots + n ≤ R.slots) (hd : decode cc pc = .ok (.newarray .boolean, 2))
    (kk : ∀ (ad1 : Nat → Nat) (E1 : Nat → va_E) (H1 : Heap), (∀ j, j ≠ k → ad1 j = ad j) → E1 = va_up E k (.inl (cy 1, n, .inl (fun _ => 0))) → va_P D vwCl (kW (K ++ [k]) ad1 E1) H1 → va_D A (kW (K ++ [k]) ad1 E1) → va_S A H0 H1 locs → W p l e R s m args below meth c H1 locs (cells + 1) (slots + n) Q (F0 m (pc + 2) ls (.ref (ad1 k) :: rest))) : W p l e R s m args below meth c H locs cells slots Q (F0 m pc ls (.int (nI n) :: rest)) := by
  refine g_newZ hx hb harr hK hP hD hS hA hn hcells hslots hd (fun q H1 hP1 hD1 hS1 => ?_)
  rw [kW_push hk] at hP1 hD1
  have h9 := kk (va_up ad k q) _ H1 (fun j hj => va_up_ne _ _ hj) rfl hP1 hD1 hS1
  rw [va_up_self] at h9
  exact h9
theorem gk_newQ {C : String} {t0 index : Nat} {own : String} (k : Nat) (hk : k ∉ K) (hx : p.tables.exec = Jvm.exec) (hb : c.code = cc) (hown : s.vm.findClass own = some m.cls) (hcl : (Cond.classLink own index C).before args s = true) (hao : va_AO C s) (ht : (tyL cy)[t0]? = some (cy t0, .object C)) (hK : va_K D vwCl (tyL cy) s) (hP : va_P D vwCl (kW K ad E) H) (hD : va_D A (kW K ad E)) (hS : va_S A H0 H locs) (hA : ∀ q, H0.size ≤ q → A q) {n : Nat} (hn : n < 100000) (hcells : cells + 1 ≤ R.cells) (hslots : slots + n ≤ R.slots) (hd : decode cc pc = .ok (.anewarray index, 3))
    (kk : ∀ (ad1 : Nat → Nat) (E1 : Nat → va_E) (H1 : Heap), (∀ j, j ≠ k → ad1 j = ad j) → E1 = va_up E k (rowQ cy t0 n (fun _ => none)) → va_P D vwCl (kW (K ++ [k]) ad1 E1) H1 → va_D A (kW (K ++ [k]) ad1 E1) → va_S A H0 H1 locs → W p l e R s m args below meth c H1 locs (cells + 1) (slots + n) Q (F0 m (pc + 3) ls (.ref (ad1 k) :: rest))) : W p l e R s m args below meth c H locs cells slots Q (F0 m pc ls (.int (nI n) :: rest)) := by
  refine va_newq hx hb hown hcl hao hK hP hD hS hA (n_not0 (by omega)) (nI_clamp (by omega)) (by omega) hcells hslots hd (fun q cA H1 hK1 hP1 hD1 hS1 => ?_)
  have e1 : cA = cy t0 := by
    have h1 := (hK1.2 6 (cA, .object C) rfl).2
    have h2 := (hK.2 t0 (cy t0, .object C) ht).2
    obtain ⟨_, _, _, _, _, h3⟩ := h1
    obtain ⟨_, _, _, _, _, h4⟩ := h2
    exact Option.some.inj (h3.symm.trans h4)
  subst e1
  rw [kW_push hk] at hP1 hD1
  have h9 := kk (va_up ad k q) _ H1 (fun j hj => va_up_ne _ _ hj) rfl hP1 hD1 hS1
  rw [va_up_self] at h9
  exact h9
theorem gk_new {own C : String} {T : u_T} {N ci index : Nat} {Ts : List Cond} (k : Nat) (hk : k ∉ K) (hx : p.tables.exec = Jvm.exec) (hb : c.code = cc) (hts : ∀ w ∈ Ts, w.before args s = true) (hin : ∀ w ∈ u_ws C T N, w ∈ Ts) (ty : Nat → FieldType) (hty : ∀ k, k < N → parseFieldDescriptor (T k).2.2.1 = some (ty k)) (hown : s.vm.findClass own = some m.cls) (hcl : (Cond.classLink own index C).before args s = true) (hinst : (Cond.instantiable C N).before args s = true) (hini : (Cond.initialized C).before args s = true)
    (hK : va_K D vwCl (tyL cy) s) (hP : va_P D vwCl (kW K ad E) H) (hD : va_D A (kW K ad E)) (hS : va_S A H0 H locs) (hA : ∀ q, H0.size ≤ q → A q) (hc : vwCl[ci]? = some (C, T, N)) {fs : List Value} (hfs : ∀ j, j < N → defaultValue (ty j) = vp_V fs j) (hcells : cells + 1 ≤ R.cells) (hslots : slots + N ≤ R.slots) (hdg : decode cc pc = .ok (.new index, 3))
    (kk : ∀ (ad1 : Nat → Nat) (E1 : Nat → va_E) (H1 : Heap), (∀ j, j ≠ k → ad1 j = ad j) → E1 = va_up E k (.inr (ci, fs)) → va_P D vwCl (kW (K ++ [k]) ad1 E1) H1 → va_D A (kW (K ++ [k]) ad1 E1) → va_S A H0 H1 locs → W p l e R s m args below meth c H1 locs (cells + 1) (slots + N) Q (F0 m (pc + 3) ls (.ref (ad1 k) :: rest))) : W p l e R s m args below meth c H locs cells slots Q (F0 m pc ls rest) := by
  refine va_new hx hb hts hin ty hty hown hcl hinst hini hK hP hD hS hA hc hfs hcells hslots hdg (fun q H1 hP1 hD1 hS1 => ?_)
  rw [kW_push hk] at hP1 hD1
  have h9 := kk (va_up ad k q) _ H1 (fun j hj => va_up_ne _ _ hj) rfl hP1 hD1 hS1
  rw [va_up_self] at h9
  exact h9
end GK
