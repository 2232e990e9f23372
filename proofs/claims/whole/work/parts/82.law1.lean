def R_law : String := "CaskYardLaw"
def lw_P (b : Addr) (xs : List Int32) (args : Array Value) (s : State) : Prop := args = #[.ref b] ∧ s.IntsAt b xs ∧ xs.length ≤ 2560 ∧ (Jvm.Cond.and given_1 narrow_1).before args s = true
def lw_Q (_ : Array Value) (s : State) (o : Outcome) (t : State) : Prop := o = .returned (some (.int 1)) ∧ Framed s o t [] 601024 7293034
def lw_Z (below : List Frame) (a : Array Value) (s : State) : State → Prop := fun t => ∃ o, t.status = .running ∧ Ended t below o ∧ lw_Q a s o t
/-- the law's own end, with 1 on the stack, nothing written that was there before, its room as the claim has it -/
theorem lw_ret {p : Program} {l : Launch} {e : Env} {s : State} {m : MethodId} {below : List Frame} {meth : Method} {c : Code} {b : Nat} (hx : p.tables.exec = Jvm.exec) (hb : c.code = code) (hr : meth.sig.returnType = ret) (hlocks : meth.locks = false) {pc : Nat} {H : Heap} {ls : Array Slot} (hdg : decode code pc = .ok (.ireturn, 1)) : W p l e room_1 s m #[Value.ref b] below meth c H [] 601024 7293034 (lw_Z below #[Value.ref b] s) (F0 m pc ls [.int 1]) := by
  intro T hT X
  obtain ⟨fs, hret, hrun, hended, hW, hframe⟩ := X.leave (v := some (.int 1)) (hlocks := hlocks) (fun h => by rw [hr] at h; cases h)
  have hmeth' : T.vm.method? m = some meth := X.method'
  refine ⟨T.setFrames fs, ?_, .returned (some (.int 1)), hrun, hended, rfl, ⟨_, rfl⟩, hW, hframe⟩
  jvm_step X.here [X.here.top, hx, hb, hdg, hmeth', hr, ret, narrow_b1]
  (try refine ⟨rfl, ?_⟩); (try refine ⟨rfl, ?_⟩)
  first | (intro acts; rw [hret _ acts rfl rfl rfl]) | rw [hret _ _ rfl rfl rfl]
  exact Steps.refl _
/-- what holds at the law's entry: the machine, the code, the tables' words (any of lw_tbl by 'hts w (by decide +kernel)'), the script of L ints xs at the cell b, what the Statement gives of the start (any of its parts by flat_of_before) -/
def lw_At (p : Program) (s : State) (m : MethodId) (meth : Method) (c : Code) (b L : Nat) (xs : Nat → Int32) : Prop :=
  p.tables.exec = Jvm.exec ∧ c.code = code ∧ meth.sig.returnType = ret ∧ c.maxLocals = 8 ∧ s.vm.findClass R_law = some m.cls ∧ (∀ w ∈ lw_tbl, w.before #[Value.ref b] s = true) ∧ va_X b L xs s s.heap ∧ b < s.heap.size ∧ meth.locks = false ∧ (Jvm.Cond.and given_1 narrow_1).before #[Value.ref b] s = true

/-- what the law's walk knows all the way -/
def LX (p : Program) (s : State) (m : MethodId) (meth : Method) (c : Code) (b L : Nat) (xs : Nat → Int32) (D : va_G) (cy : Nat → ClassId) (sa : Nat → Nat) : Prop := lw_At p s m meth c b L xs ∧ va_K D vwCl (tyL cy) s ∧ nW s ∧ xE sa s ∧ zW (fun z : Nat => s.heap.size ≤ z) s s.heap ∧ va_Nc "java/lang/IllegalArgumentException" "java/util/NoSuchElementException" s
/-- class and reference hold one state -/
def LI (D : va_G) (cy : Nat → ClassId) (s : State) (q h o : Nat) (adM : Nat → Nat) (H : Heap) (locs : List Loc) : Prop := ∃ (Y : YT) (w : va_W) (f : Nat → Int64) (I : Nat → Int32) (F : Nat → Nat → Int32), YW cy q Y w ∧ WF Y ∧ MR I F Y ∧ va_P D vwCl ((w ++ [(o, oC cy f)]) ++ wM cy h adM I F) H ∧ va_D (fun z : Nat => s.heap.size ≤ z) ((w ++ [(o, oC cy f)]) ++ wM cy h adM I F) ∧ va_S (fun z : Nat => s.heap.size ≤ z) s.heap H locs
theorem c_zero {c k : Nat} {r : Int32} (h : r = nI c) (hc : c ≤ k) (hk : k ≤ 2) (h0 : r = 0) : c = 0 := by
  rcases Nat.eq_zero_or_pos c with h9 | h9
  · exact h9
  · exact absurd (h.symm.trans h0) (n_ne0 h9 (by omega))
section LR2
variable {p : Program} {l : Launch} {e : Env} {R : Room} {s : State} {m : MethodId} {args : Array Value} {below : List Frame} {meth : Method} {c : Code} {H H0 : Heap} {locs : List Loc} {cells slots : Nat} {Q : State → Prop} {cc : ByteArray} {pc : Nat} {ls : Array Slot} {rest : List Value} {A : Nat → Prop}
theorem g_sc (hx : p.tables.exec = Jvm.exec) (hb : c.code = cc) {b L : Nat} {xs : Nat → Int32} (hX : va_X b L xs s H0) (hbl : b < H0.size) (hbA : ¬ A b) (hS : va_S A H0 H locs) {j : Nat} (hj : j < L) (hL : L ≤ 2560) (d : decode cc pc = .ok (.iaload, 1))
    (k : W p l e R s m args below meth c H locs cells slots Q (F0 m (pc + 1) ls (.int (xs j) :: rest))) : W p l e R s m args below meth c H locs cells slots Q (F0 m pc ls (.int (nI j) :: .ref b :: rest)) := by
  refine va_sld hx hb hX hbl hbA hS (vp_in_nI hj (by omega)) d ?_
  rw [nI_clamp (by omega)]; exact k
/-- script[i + n] -/
theorem g_sc5 (hx : p.tables.exec = Jvm.exec) (hb : c.code = cc) {b L : Nat} {xs : Nat → Int32} (hX : va_X b L xs s H0) (hbl : b < H0.size) (hbA : ¬ A b) (hS : va_S A H0 H locs) {i : Nat} (n : Nat) (hn : n < 5) (hi : i + 5 ≤ L) (hL : L ≤ 2560) (h0 : ls[0]? = some (.val (.ref b))) (h4 : ls[4]? = some (.val (.int (nI i)))) (d0 : decode cc pc = .ok (.aload_n 0, 1)) (d1 : decode cc (pc + 1) = .ok (.iload 4, 2)) (d2 : decode cc (pc + 3) = .ok (.iconst (n : Int), 1)) (d3 : decode cc (pc + 4) = .ok (.iadd, 1)) (d4 : decode cc (pc + 5) = .ok (.iaload, 1))
    (k : W p l e R s m args below meth c H locs cells slots Q (F0 m (pc + 6) ls (.int (xs (i + n)) :: rest))) : W p l e R s m args below meth c H locs cells slots Q (F0 m pc ls rest) := by
  refine lv_aload_n hx hb d0 rfl h0 ?_
  refine lv_iload hx hb d1 h4 ?_
  refine lv_iconst (v := nI n) hx hb d2 rfl ?_
  refine g_iadd_n hx hb d3 ?_
  exact g_sc hx hb hX hbl hbA hS (by omega) hL d4 k
end LR2
theorem nz_n (x : Int32) : (nI (if x ≠ 0 then 1 else 0)) = if x = 0 then 0 else 1 := by
  by_cases h : x = 0
  · rw [if_neg (fun h9 => h9 h), if_pos h]; rfl
  · rw [if_pos h, if_neg h]; rfl
theorem nz_b (x : Int32) : bI (x ≠ 0) = if x = 0 then 0 else 1 := by rw [bN]; exact nz_n x
