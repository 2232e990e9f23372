section
-- ===== PART A: goes FIRST, ahead of the names: the tables' words, and 'selects' of the private methods out of them =====
/-- a private method of a class that the tables say can be made, by its rows of tables_1 -/
def lw_okq (q : MethodName × Nat) : Prop := (q.1.cls ≠ "java/lang/invoke/MethodHandle" ∧ q.1.cls ≠ "java/lang/invoke/VarHandle") ∧ Cond.instantiable q.1.cls q.2 ∈ tables_1 ∧ Cond.privateMethod q.1 ∈ tables_1 ∧ Cond.instanceMethod q.1 ∈ tables_1
theorem lw_p0 : lw_okq (⟨"CaskYard", "formAt", "(I)LCaskYard$Form;"⟩, 11) := ⟨⟨by decide +kernel, by decide +kernel⟩, List.mem_of_getElem? (i := 15) (by decide +kernel), List.mem_of_getElem? (i := 182) (by decide +kernel), List.mem_of_getElem? (i := 183) (by decide +kernel)⟩
theorem lw_p1 : lw_okq (⟨"java/lang/Throwable", "fillInStackTrace", "(I)Ljava/lang/Throwable;"⟩, 6) := ⟨⟨by decide +kernel, by decide +kernel⟩, List.mem_of_getElem? (i := 223) (by decide +kernel), List.mem_of_getElem? (i := 221) (by decide +kernel), List.mem_of_getElem? (i := 222) (by decide +kernel)⟩
theorem lw_p2 : lw_okq (⟨"CaskYard$Form", "squareAt", "(I)J"⟩, 4) := ⟨⟨by decide +kernel, by decide +kernel⟩, List.mem_of_getElem? (i := 147) (by decide +kernel), List.mem_of_getElem? (i := 306) (by decide +kernel), List.mem_of_getElem? (i := 307) (by decide +kernel)⟩
theorem lw_p3 : lw_okq (⟨"CaskYard", "boltAt", "(I)LCaskYard$Bolt;"⟩, 11) := ⟨⟨by decide +kernel, by decide +kernel⟩, List.mem_of_getElem? (i := 15) (by decide +kernel), List.mem_of_getElem? (i := 350) (by decide +kernel), List.mem_of_getElem? (i := 351) (by decide +kernel)⟩
theorem lw_p4 : lw_okq (⟨"CaskYard", "isRipe", "(LCaskYard$Bolt;)Z"⟩, 11) := ⟨⟨by decide +kernel, by decide +kernel⟩, List.mem_of_getElem? (i := 15) (by decide +kernel), List.mem_of_getElem? (i := 384) (by decide +kernel), List.mem_of_getElem? (i := 385) (by decide +kernel)⟩
theorem lw_p5 : lw_okq (⟨"CaskYard", "setFor", "(LCaskYard$Form;)I"⟩, 11) := ⟨⟨by decide +kernel, by decide +kernel⟩, List.mem_of_getElem? (i := 15) (by decide +kernel), List.mem_of_getElem? (i := 395) (by decide +kernel), List.mem_of_getElem? (i := 396) (by decide +kernel)⟩
theorem lw_p6 : lw_okq (⟨"CaskYard$Saw", "layPart", "(II)V"⟩, 14) := ⟨⟨by decide +kernel, by decide +kernel⟩, List.mem_of_getElem? (i := 29) (by decide +kernel), List.mem_of_getElem? (i := 411) (by decide +kernel), List.mem_of_getElem? (i := 412) (by decide +kernel)⟩
theorem lw_p7 : lw_okq (⟨"CaskYard$Saw", "sortIn", "(I)V"⟩, 14) := ⟨⟨by decide +kernel, by decide +kernel⟩, List.mem_of_getElem? (i := 29) (by decide +kernel), List.mem_of_getElem? (i := 416) (by decide +kernel), List.mem_of_getElem? (i := 417) (by decide +kernel)⟩
theorem lw_p8 : lw_okq (⟨"CaskYard$Saw", "openSet", "(I)V"⟩, 14) := ⟨⟨by decide +kernel, by decide +kernel⟩, List.mem_of_getElem? (i := 29) (by decide +kernel), List.mem_of_getElem? (i := 433) (by decide +kernel), List.mem_of_getElem? (i := 434) (by decide +kernel)⟩
theorem lw_p9 : lw_okq (⟨"CaskYard$Saw", "canGive", "(II)Z"⟩, 14) := ⟨⟨by decide +kernel, by decide +kernel⟩, List.mem_of_getElem? (i := 29) (by decide +kernel), List.mem_of_getElem? (i := 437) (by decide +kernel), List.mem_of_getElem? (i := 438) (by decide +kernel)⟩
theorem lw_p10 : lw_okq (⟨"CaskYard$Saw", "choose", "(III)V"⟩, 14) := ⟨⟨by decide +kernel, by decide +kernel⟩, List.mem_of_getElem? (i := 29) (by decide +kernel), List.mem_of_getElem? (i := 495) (by decide +kernel), List.mem_of_getElem? (i := 496) (by decide +kernel)⟩
theorem lw_p11 : lw_okq (⟨"CaskYard$Saw", "shorten", "()V"⟩, 14) := ⟨⟨by decide +kernel, by decide +kernel⟩, List.mem_of_getElem? (i := 29) (by decide +kernel), List.mem_of_getElem? (i := 500) (by decide +kernel), List.mem_of_getElem? (i := 501) (by decide +kernel)⟩
theorem lw_p12 : lw_okq (⟨"CaskYard$Saw", "shortenBolt", "(LCaskYard$Bolt;I)I"⟩, 14) := ⟨⟨by decide +kernel, by decide +kernel⟩, List.mem_of_getElem? (i := 29) (by decide +kernel), List.mem_of_getElem? (i := 504) (by decide +kernel), List.mem_of_getElem? (i := 505) (by decide +kernel)⟩
theorem lw_p13 : lw_okq (⟨"CaskYard", "handOut", "(LCaskYard$Cask;)V"⟩, 11) := ⟨⟨by decide +kernel, by decide +kernel⟩, List.mem_of_getElem? (i := 15) (by decide +kernel), List.mem_of_getElem? (i := 513) (by decide +kernel), List.mem_of_getElem? (i := 514) (by decide +kernel)⟩
theorem lw_p14 : lw_okq (⟨"CaskYard", "caskAt", "(I)LCaskYard$Cask;"⟩, 11) := ⟨⟨by decide +kernel, by decide +kernel⟩, List.mem_of_getElem? (i := 15) (by decide +kernel), List.mem_of_getElem? (i := 538) (by decide +kernel), List.mem_of_getElem? (i := 539) (by decide +kernel)⟩
theorem lw_p15 : lw_okq (⟨"CaskYard", "isLet", "(LCaskYard$Cask;I)Z"⟩, 11) := ⟨⟨by decide +kernel, by decide +kernel⟩, List.mem_of_getElem? (i := 15) (by decide +kernel), List.mem_of_getElem? (i := 570) (by decide +kernel), List.mem_of_getElem? (i := 571) (by decide +kernel)⟩
def lw_privs_1 : List (MethodName × Nat) := [(⟨"CaskYard", "formAt", "(I)LCaskYard$Form;"⟩, 11), (⟨"java/lang/Throwable", "fillInStackTrace", "(I)Ljava/lang/Throwable;"⟩, 6), (⟨"CaskYard$Form", "squareAt", "(I)J"⟩, 4), (⟨"CaskYard", "boltAt", "(I)LCaskYard$Bolt;"⟩, 11), (⟨"CaskYard", "isRipe", "(LCaskYard$Bolt;)Z"⟩, 11), (⟨"CaskYard", "setFor", "(LCaskYard$Form;)I"⟩, 11), (⟨"CaskYard$Saw", "layPart", "(II)V"⟩, 14), (⟨"CaskYard$Saw", "sortIn", "(I)V"⟩, 14), (⟨"CaskYard$Saw", "openSet", "(I)V"⟩, 14), (⟨"CaskYard$Saw", "canGive", "(II)Z"⟩, 14), (⟨"CaskYard$Saw", "choose", "(III)V"⟩, 14), (⟨"CaskYard$Saw", "shorten", "()V"⟩, 14), (⟨"CaskYard$Saw", "shortenBolt", "(LCaskYard$Bolt;I)I"⟩, 14), (⟨"CaskYard", "handOut", "(LCaskYard$Cask;)V"⟩, 11), (⟨"CaskYard", "caskAt", "(I)LCaskYard$Cask;"⟩, 11), (⟨"CaskYard", "isLet", "(LCaskYard$Cask;I)Z"⟩, 11)]
theorem lw_r1 : ∀ q ∈ lw_privs_1, lw_okq q := List.forall_mem_cons.mpr ⟨lw_p0, List.forall_mem_cons.mpr ⟨lw_p1, List.forall_mem_cons.mpr ⟨lw_p2, List.forall_mem_cons.mpr ⟨lw_p3, List.forall_mem_cons.mpr ⟨lw_p4, List.forall_mem_cons.mpr ⟨lw_p5, List.forall_mem_cons.mpr ⟨lw_p6, List.forall_mem_cons.mpr ⟨lw_p7, List.forall_mem_cons.mpr ⟨lw_p8, List.forall_mem_cons.mpr ⟨lw_p9, List.forall_mem_cons.mpr ⟨lw_p10, List.forall_mem_cons.mpr ⟨lw_p11, List.forall_mem_cons.mpr ⟨lw_p12, List.forall_mem_cons.mpr ⟨lw_p13, List.forall_mem_cons.mpr ⟨lw_p14, List.forall_mem_cons.mpr ⟨lw_p15, fun _ h => absurd h List.not_mem_nil⟩⟩⟩⟩⟩⟩⟩⟩⟩⟩⟩⟩⟩⟩⟩⟩
theorem lw_p16 : lw_okq (⟨"CaskYardModel", "isForm", "(I)Z"⟩, 34) := ⟨⟨by decide +kernel, by decide +kernel⟩, List.mem_of_getElem? (i := 661) (by decide +kernel), List.mem_of_getElem? (i := 782) (by decide +kernel), List.mem_of_getElem? (i := 783) (by decide +kernel)⟩
theorem lw_p17 : lw_okq (⟨"CaskYardModel", "fail", "(I)I"⟩, 34) := ⟨⟨by decide +kernel, by decide +kernel⟩, List.mem_of_getElem? (i := 661) (by decide +kernel), List.mem_of_getElem? (i := 786) (by decide +kernel), List.mem_of_getElem? (i := 787) (by decide +kernel)⟩
theorem lw_p18 : lw_okq (⟨"CaskYardModel", "isHeight", "(II)Z"⟩, 34) := ⟨⟨by decide +kernel, by decide +kernel⟩, List.mem_of_getElem? (i := 661) (by decide +kernel), List.mem_of_getElem? (i := 790) (by decide +kernel), List.mem_of_getElem? (i := 791) (by decide +kernel)⟩
theorem lw_p19 : lw_okq (⟨"CaskYardModel", "girthOf", "(II)I"⟩, 34) := ⟨⟨by decide +kernel, by decide +kernel⟩, List.mem_of_getElem? (i := 661) (by decide +kernel), List.mem_of_getElem? (i := 794) (by decide +kernel), List.mem_of_getElem? (i := 795) (by decide +kernel)⟩
theorem lw_p20 : lw_okq (⟨"CaskYardModel", "widthOf", "(III)I"⟩, 34) := ⟨⟨by decide +kernel, by decide +kernel⟩, List.mem_of_getElem? (i := 661) (by decide +kernel), List.mem_of_getElem? (i := 802) (by decide +kernel), List.mem_of_getElem? (i := 803) (by decide +kernel)⟩
theorem lw_p21 : lw_okq (⟨"CaskYardModel", "holdsAt", "(II)I"⟩, 34) := ⟨⟨by decide +kernel, by decide +kernel⟩, List.mem_of_getElem? (i := 661) (by decide +kernel), List.mem_of_getElem? (i := 810) (by decide +kernel), List.mem_of_getElem? (i := 811) (by decide +kernel)⟩
theorem lw_p22 : lw_okq (⟨"CaskYardModel", "isBolt", "(I)Z"⟩, 34) := ⟨⟨by decide +kernel, by decide +kernel⟩, List.mem_of_getElem? (i := 661) (by decide +kernel), List.mem_of_getElem? (i := 840) (by decide +kernel), List.mem_of_getElem? (i := 841) (by decide +kernel)⟩
theorem lw_p23 : lw_okq (⟨"CaskYardModel", "isRipe", "(I)Z"⟩, 34) := ⟨⟨by decide +kernel, by decide +kernel⟩, List.mem_of_getElem? (i := 661) (by decide +kernel), List.mem_of_getElem? (i := 854) (by decide +kernel), List.mem_of_getElem? (i := 855) (by decide +kernel)⟩
theorem lw_p24 : lw_okq (⟨"CaskYardModel", "bestSet", "(I)I"⟩, 34) := ⟨⟨by decide +kernel, by decide +kernel⟩, List.mem_of_getElem? (i := 661) (by decide +kernel), List.mem_of_getElem? (i := 862) (by decide +kernel), List.mem_of_getElem? (i := 863) (by decide +kernel)⟩
theorem lw_p25 : lw_okq (⟨"CaskYardModel", "pieces", "(I)V"⟩, 34) := ⟨⟨by decide +kernel, by decide +kernel⟩, List.mem_of_getElem? (i := 661) (by decide +kernel), List.mem_of_getElem? (i := 866) (by decide +kernel), List.mem_of_getElem? (i := 867) (by decide +kernel)⟩
theorem lw_p26 : lw_okq (⟨"CaskYardModel", "take", "(I)V"⟩, 34) := ⟨⟨by decide +kernel, by decide +kernel⟩, List.mem_of_getElem? (i := 661) (by decide +kernel), List.mem_of_getElem? (i := 877) (by decide +kernel), List.mem_of_getElem? (i := 878) (by decide +kernel)⟩
theorem lw_p27 : lw_okq (⟨"CaskYardModel", "reckon", "()V"⟩, 34) := ⟨⟨by decide +kernel, by decide +kernel⟩, List.mem_of_getElem? (i := 661) (by decide +kernel), List.mem_of_getElem? (i := 881) (by decide +kernel), List.mem_of_getElem? (i := 882) (by decide +kernel)⟩
theorem lw_p28 : lw_okq (⟨"CaskYardModel", "length", "(I)I"⟩, 34) := ⟨⟨by decide +kernel, by decide +kernel⟩, List.mem_of_getElem? (i := 661) (by decide +kernel), List.mem_of_getElem? (i := 885) (by decide +kernel), List.mem_of_getElem? (i := 886) (by decide +kernel)⟩
theorem lw_p29 : lw_okq (⟨"CaskYardModel", "gives", "(III)Z"⟩, 34) := ⟨⟨by decide +kernel, by decide +kernel⟩, List.mem_of_getElem? (i := 661) (by decide +kernel), List.mem_of_getElem? (i := 889) (by decide +kernel), List.mem_of_getElem? (i := 890) (by decide +kernel)⟩
theorem lw_p30 : lw_okq (⟨"CaskYardModel", "cut", "(III)V"⟩, 34) := ⟨⟨by decide +kernel, by decide +kernel⟩, List.mem_of_getElem? (i := 661) (by decide +kernel), List.mem_of_getElem? (i := 897) (by decide +kernel), List.mem_of_getElem? (i := 898) (by decide +kernel)⟩
theorem lw_p31 : lw_okq (⟨"CaskYardModel", "tidy", "(I)V"⟩, 34) := ⟨⟨by decide +kernel, by decide +kernel⟩, List.mem_of_getElem? (i := 661) (by decide +kernel), List.mem_of_getElem? (i := 901) (by decide +kernel), List.mem_of_getElem? (i := 902) (by decide +kernel)⟩
def lw_privs_2 : List (MethodName × Nat) := [(⟨"CaskYardModel", "isForm", "(I)Z"⟩, 34), (⟨"CaskYardModel", "fail", "(I)I"⟩, 34), (⟨"CaskYardModel", "isHeight", "(II)Z"⟩, 34), (⟨"CaskYardModel", "girthOf", "(II)I"⟩, 34), (⟨"CaskYardModel", "widthOf", "(III)I"⟩, 34), (⟨"CaskYardModel", "holdsAt", "(II)I"⟩, 34), (⟨"CaskYardModel", "isBolt", "(I)Z"⟩, 34), (⟨"CaskYardModel", "isRipe", "(I)Z"⟩, 34), (⟨"CaskYardModel", "bestSet", "(I)I"⟩, 34), (⟨"CaskYardModel", "pieces", "(I)V"⟩, 34), (⟨"CaskYardModel", "take", "(I)V"⟩, 34), (⟨"CaskYardModel", "reckon", "()V"⟩, 34), (⟨"CaskYardModel", "length", "(I)I"⟩, 34), (⟨"CaskYardModel", "gives", "(III)Z"⟩, 34), (⟨"CaskYardModel", "cut", "(III)V"⟩, 34), (⟨"CaskYardModel", "tidy", "(I)V"⟩, 34)]
theorem lw_r2 : ∀ q ∈ lw_privs_2, lw_okq q := List.forall_mem_cons.mpr ⟨lw_p16, List.forall_mem_cons.mpr ⟨lw_p17, List.forall_mem_cons.mpr ⟨lw_p18, List.forall_mem_cons.mpr ⟨lw_p19, List.forall_mem_cons.mpr ⟨lw_p20, List.forall_mem_cons.mpr ⟨lw_p21, List.forall_mem_cons.mpr ⟨lw_p22, List.forall_mem_cons.mpr ⟨lw_p23, List.forall_mem_cons.mpr ⟨lw_p24, List.forall_mem_cons.mpr ⟨lw_p25, List.forall_mem_cons.mpr ⟨lw_p26, List.forall_mem_cons.mpr ⟨lw_p27, List.forall_mem_cons.mpr ⟨lw_p28, List.forall_mem_cons.mpr ⟨lw_p29, List.forall_mem_cons.mpr ⟨lw_p30, List.forall_mem_cons.mpr ⟨lw_p31, fun _ h => absurd h List.not_mem_nil⟩⟩⟩⟩⟩⟩⟩⟩⟩⟩⟩⟩⟩⟩⟩⟩
theorem lw_p32 : lw_okq (⟨"CaskYardModel", "isStave", "(II)Z"⟩, 34) := ⟨⟨by decide +kernel, by decide +kernel⟩, List.mem_of_getElem? (i := 661) (by decide +kernel), List.mem_of_getElem? (i := 909) (by decide +kernel), List.mem_of_getElem? (i := 910) (by decide +kernel)⟩
theorem lw_p33 : lw_okq (⟨"CaskYardModel", "isCask", "(I)Z"⟩, 34) := ⟨⟨by decide +kernel, by decide +kernel⟩, List.mem_of_getElem? (i := 661) (by decide +kernel), List.mem_of_getElem? (i := 913) (by decide +kernel), List.mem_of_getElem? (i := 914) (by decide +kernel)⟩
theorem lw_p34 : lw_okq (⟨"CaskYardModel", "middle", "(II)I"⟩, 34) := ⟨⟨by decide +kernel, by decide +kernel⟩, List.mem_of_getElem? (i := 661) (by decide +kernel), List.mem_of_getElem? (i := 917) (by decide +kernel), List.mem_of_getElem? (i := 918) (by decide +kernel)⟩
theorem lw_p35 : lw_okq (⟨"CaskYardModel", "mayIn", "(II)Z"⟩, 34) := ⟨⟨by decide +kernel, by decide +kernel⟩, List.mem_of_getElem? (i := 661) (by decide +kernel), List.mem_of_getElem? (i := 936) (by decide +kernel), List.mem_of_getElem? (i := 937) (by decide +kernel)⟩
theorem lw_p36 : lw_okq (⟨"CaskYardModel", "heldOn", "(III)I"⟩, 34) := ⟨⟨by decide +kernel, by decide +kernel⟩, List.mem_of_getElem? (i := 661) (by decide +kernel), List.mem_of_getElem? (i := 948) (by decide +kernel), List.mem_of_getElem? (i := 949) (by decide +kernel)⟩
def lw_privs_3 : List (MethodName × Nat) := [(⟨"CaskYardModel", "isStave", "(II)Z"⟩, 34), (⟨"CaskYardModel", "isCask", "(I)Z"⟩, 34), (⟨"CaskYardModel", "middle", "(II)I"⟩, 34), (⟨"CaskYardModel", "mayIn", "(II)Z"⟩, 34), (⟨"CaskYardModel", "heldOn", "(III)I"⟩, 34)]
theorem lw_r3 : ∀ q ∈ lw_privs_3, lw_okq q := List.forall_mem_cons.mpr ⟨lw_p32, List.forall_mem_cons.mpr ⟨lw_p33, List.forall_mem_cons.mpr ⟨lw_p34, List.forall_mem_cons.mpr ⟨lw_p35, List.forall_mem_cons.mpr ⟨lw_p36, fun _ h => absurd h List.not_mem_nil⟩⟩⟩⟩⟩
def lw_privs : List (MethodName × Nat) := lw_privs_1 ++ (lw_privs_2 ++ (lw_privs_3))
def lw_tbl : List Cond := k2_sels lw_privs ++ tables_1
theorem lw_privs_ok : ∀ q ∈ lw_privs, lw_okq q := by
  show ∀ q ∈ lw_privs_1 ++ (lw_privs_2 ++ (lw_privs_3)), lw_okq q
  exact List.forall_mem_append.mpr ⟨lw_r1, List.forall_mem_append.mpr ⟨lw_r2, lw_r3⟩⟩
end
section
/-! ===== BEGIN words of one list among another's, by their places ===== -/
theorem goodIn_r {big : List Cond} (ws : List Cond) (ps : List Nat) (hp : ws = ps.filterMap (fun i => big[i]?)) (h : ws.all goodWord = true) : GoodIn big ws := by
  intro w hw
  have h1 := List.all_eq_true.mp h w hw
  rw [hp] at hw
  obtain ⟨i, -, hi⟩ := List.mem_filterMap.mp hw
  have hm : w ∈ big := by first | exact List.mem_of_getElem? hi | exact List.getElem?_mem hi
  exact ⟨hm, good_of_word h1⟩
theorem goodIn_app {big a b : List Cond} (ha : GoodIn big a) (hb : GoodIn big b) : GoodIn big (a ++ b) := fun w h => (List.mem_append.mp h).elim (ha w) (hb w)
theorem goodIn_ca {big a b : List Cond} {c : Cond} (ha : GoodIn big (c :: a)) (hb : GoodIn big b) : GoodIn big (c :: (a ++ b)) := fun w h => (List.mem_cons.mp h).elim (fun e => ha w (List.mem_cons.mpr (Or.inl e))) (fun h => (List.mem_append.mp h).elim (fun h => ha w (List.mem_cons.mpr (Or.inr h))) (hb w))
theorem goodIn_sub {big ws : List Cond} (hm : ∀ w ∈ ws, w ∈ big) (h : ws.all goodWord = true) : GoodIn big ws := fun w hw => ⟨hm w hw, good_of_word (List.all_eq_true.mp h w hw)⟩
/-! ===== END ===== -/

/-! ===== BEGIN exceptions that leave a method, and their catching by the caller (launches without stack traces) ===== -/
section VXA
/-! The laws vx_back, vx_callV, vx_callS, vx_callSW, vx_throw0, vx_throwS follow proofs of the library, with one case more: JvmDerived/Free/Laws.lean (Back.of_free), Shelf42/LK1.lean (callV, callS), Shelf/KitTraced.lean (throwNew0V, throwNewS). -/
/-- where a method has thrown q: the class by its name, the cell, what was written, the world -/
def vx_T (XC : String → State → State → Prop) (st : State) (q : Addr) (t : State) (mc ms : Nat) (free : Addr → Prop) : Prop :=
  ∃ (E : String) (ce : Cell) (L : List Loc), XC E st t ∧ t.heap[q]? = some ce ∧ ce.vm = .none ∧ st.vm.findClass E = some ce.cls ∧ st.WarmedH t.vm ∧ st.sameButNew ({ t with vm := st.vm } : State) L mc ms ∧ ∀ z ∈ L, free z.base
def vx_Q (Qc : Array Value → State → Outcome → State → Prop) (XC : String → State → State → Prop) (mc ms : Nat) (free : Addr → Prop) : Array Value → State → Outcome → State → Prop := fun a st o t =>
  (Qc a st o t ∧ ∃ L, FrameEnd st o t L mc ms ∧ ∀ q ∈ L, free q.base) ∨ ∃ q, o = .threw q ∧ vx_T XC st q t mc ms free
/-- a callee that returns or throws -/
def vx_Met (l : Launch) (y : MethodName) (ws : List Cond) (rm : Room) (Pc : Array Value → State → Prop) (Qc : Array Value → State → Outcome → State → Prop) (XC : String → State → State → Prop) (mc ms : Nat) (free : Addr → Prop) : Prop :=
  MetFree l y (headSpec ws rm) Pc (fun _ _ _ _ _ => True) (vx_Q Qc XC mc ms free)
def vx_Post (XC : String → State → State → Prop) (mc ms : Nat) (free : Addr → Prop) : Pt → Array Value → Addr → Pt → Prop := fun A a q B =>
  ∃ (g : JFrame) (mk : MethodId) (t : State) (L : List Loc) (E : String) (ce : Cell), B.U.heap = t.heap ∧ B.U.vm = t.vm ∧ XC E (A.U.calling g mk a) t ∧ t.heap[q]? = some ce ∧ ce.vm = .none ∧ A.U.vm.findClass E = some ce.cls ∧ B.locs = A.locs ++ L ∧ (∀ z ∈ L, free z.base) ∧ B.cells = A.cells + mc ∧ B.slots = A.slots + ms
def vx_Back (l : Launch) (R : Room) (p : Program) (e : Env) (below : List Frame) (s : State) (sargs : Array Value) (y : MethodName) (len W9 : Nat)
    (Pre : Pt → Array Value → Prop) (Post : Pt → Array Value → Option Value → Pt → Prop) (PostX : Pt → Array Value → Addr → Pt → Prop) : Prop :=
  ∀ (m : MethodId) (meth : Method) (c : Code) (A : Pt) (g : JFrame) (ig : Instr) (mk : MethodId) (a : Array Value),
    Stand p l e R s m sargs below meth c A.U A.locs A.cells A.slots → g.method = m → g.locals.size = c.maxLocals → decode c.code g.pc = .ok (ig, len) →
    2 * g.monitorRoom + (g.stack.map fun v => v.category).sum ≤ W9 → A.U.methodNamed? y = some mk → Pre A a →
    (∃ (v : Option Value) (B : Pt), Stand p l e R s m sargs below meth c B.U B.locs B.cells B.slots ∧ Post A a v B ∧
      Steps p.tables e below (doInvoke e (A.U.setTop g) [] mk a).1 (B.U.setTop { g with pc := g.pc + len, stack := v.toList ++ g.stack })) ∨
    (∃ (q : Addr) (B : Pt), Stand p l e R s m sargs below meth c B.U B.locs B.cells B.slots ∧ PostX A a q B ∧
      Steps p.tables e below (doInvoke e (A.U.setTop g) [] mk a).1 ((B.U.setTop g).pushFrame (.throwing q)))
section Payer
variable {l : Launch} {R : Room} {p : Program} {e : Env} {below : List Frame} {s : State} {sargs : Array Value} {y : MethodName} {len W9 : Nat}
theorem vx_back {ws : List Cond} {rm : Room} {Pc : Array Value → State → Prop} {Qc : Array Value → State → Outcome → State → Prop} {XC : String → State → State → Prop} {mc ms : Nat} {free : Addr → Prop} {bytes : ByteArray} {maxL : Nat} {ret : Option FieldType}
    (hM : vx_Met l y ws rm Pc Qc XC mc ms free) (hblind : FrameBlind Pc) (hrc : rm.cells = mc) (hrs : rm.slots = ms)
    (hframes : rm.frames + 1 ≤ R.frames) (hlocals : W9 + (maxL + 11) + rm.locals ≤ R.locals)
    (hws : ∀ w ∈ ws, ∀ a' U, s.WarmedH U.vm → w.before a' U = true) (hcode : Cond.code y bytes maxL ret ∈ ws) (hinit : ∀ a' U, s.WarmedH U.vm → (Cond.initialized y.cls).before a' U = true) :
    vx_Back l R p e below s sargs y len W9 (PreOf R mc ms Pc) (PostOf Qc mc ms free) (vx_Post XC mc ms free) := by
  intro m meth c A g ig mk a X hg hsize hdg hW hn hp
  have h1 : (headSpec ws rm).pre.before a A.U = true := atoms_intro fun w hw => hws w hw _ _ X.warmed
  have h2 : (Cond.code y bytes maxL ret).before a A.U = true := hws _ hcode _ _ X.warmed
  have h3 : (Cond.initialized y.cls).before a A.U = true := hinit _ _ X.warmed
  have h4 : A.cells + (headSpec ws rm).room.cells ≤ R.cells := by rw [show (headSpec ws rm).room.cells = mc from hrc]; exact hp.1
  have h5 : A.slots + (headSpec ws rm).room.slots ≤ R.slots := by rw [show (headSpec ws rm).room.slots = ms from hrs]; exact hp.2.1
  have hPc : Pc a (A.U.calling g mk a) := hblind _ _ _ _ hp.2.2
  obtain ⟨U, Ls, c0, s0⟩ := A
  dsimp only [Pt.U, Pt.locs, Pt.cells, Pt.slots] at h1 h2 h3 h4 h5 X hn hPc ⊢
  obtain ⟨methY, cY, hmY, hcY, -, hlY, -, -, -, -⟩ := Cond.code_spec hn h2
  obtain ⟨kY, hkY, -⟩ := className_of_methodNamed hn
  have hinitY : kY.init = .initialized := Cond.initialized_spec (findClass_of_methodNamed hn) hkY h3
  have h : At U g.method c below := by rw [hg]; exact X.here
  have hlocals9 : W9 + (maxL + 11) + (headSpec ws rm).room.locals ≤ R.locals := hlocals
  have happ : (headSpec ws rm).appliesLoose y e.platform (U.calling g mk a) = true :=
    Spec.appliesLoose_calling (g := g) h hdg hn hkY hinitY
      (X.room_calling (g := g) (R' := (headSpec ws rm).room) hsize hmY hcY hframes (by rw [hlY]; omega) h4 h5) h1
  obtain ⟨mid, hmid⟩ := h.above
  have hfr : (U.setTop g).frames = (.java g :: mid) ++ below := by rw [State.frames_setTop' g h.top, hmid]; rfl
  obtain ⟨o, s₂, hsteps, -, hend, hq⟩ := Steps.callFree hM p X.admits X.cas X.clock (acts := []) hfr happ hPc trivial
  have hq' : vx_Q Qc XC mc ms free a (U.calling g mk a) o s₂ := hq
  rw [State.frames_setTop' g h.top] at hend
  obtain ⟨g₀, hg0⟩ := Option.isSome_iff_exists.mp h.top
  obtain ⟨r, hr⟩ := State.topJava?_eq_some.mp hg0
  have hr' : (({ U with heap := s₂.heap, slotsUsed := s₂.slotsUsed } : State).setVm s₂.vm).frames = .java g₀ :: r := hr
  rcases hq' with ⟨hqc, L, hfe, hL⟩ | ⟨q, rfl, E, ce, L, hx, hce, hcv, hcl, hW₂, hsm, hL⟩
  · obtain ⟨⟨v, rfl⟩, hW₂, e2, q2, q3, q4, q5, q6⟩ := id hfe
    have e3 : s₂ = ({ (U.calling g mk a).setFrames s₂.frames with heap := s₂.heap, slotsUsed := s₂.slotsUsed } : State).setVm s₂.vm := by
      have : s₂ = ({ s₂ with vm := (U.calling g mk a).vm } : State).setVm s₂.vm := rfl
      rw [e2] at this
      exact this
    obtain ⟨c₂, i₂, len₂, hc₂, hd₂, hf₂⟩ := hend
    have hW' : U.WarmedH s₂.vm := hW₂
    have hcc : c₂ = c := by
      have h1 : s₂.code? g.method = U.code? g.method := by
        rw [State.code?_eq, State.code?_eq, hW'.alike.method?]
      exact Option.some.inj (hc₂.symm.trans (h1.trans h.code))
    subst hcc
    have hlen : len₂ = len := by rw [hdg] at hd₂; cases hd₂; rfl
    subst hlen
    have hs₂ : s₂ = (({ U with heap := s₂.heap, slotsUsed := s₂.slotsUsed } : State).setVm s₂.vm).setTop { g with pc := g.pc + len₂, stack := v.toList ++ g.stack } := by
      refine e3.trans ?_
      rw [hf₂, State.calling_eq h.top, State.setFrames_setFrames, State.setTop_of_frames _ hr', hr]
      rfl
    have hsame : U.sameButNew ({ U with heap := s₂.heap, slotsUsed := s₂.slotsUsed } : State) L mc ms := by
      refine ⟨?_, q2, q3, q4, q5, q6⟩
      obtain ⟨t, ht, -⟩ := State.frames_cons hr
      show ({ U with heap := s₂.heap, slotsUsed := s₂.slotsUsed } : State) = { U.setFrames U.frames with heap := s₂.heap, slotsUsed := s₂.slotsUsed }
      rw [State.setFrames_self ht]
    subst hg
    refine Or.inl ⟨v, ⟨(({ U with heap := s₂.heap, slotsUsed := s₂.slotsUsed } : State).setVm s₂.vm), Ls ++ L, c0 + mc, s0 + ms⟩,
      ⟨X.admits, X.cas, X.clock, X.frames, X.room, X.hears, X.method, X.code, (X.here.setHeapUsed s₂.heap s₂.slotsUsed).setVm hW'.alike, X.tail, State.WarmedH.trans X.warmed hW', X.limits, X.bytes, X.same.trans (hsame.setVm s.vm)⟩,
      ⟨g, mk, s₂, L, rfl, rfl, hqc, rfl, hL, rfl, rfl⟩, ?_⟩
    show Steps p.tables e below _ ((({ U with heap := s₂.heap, slotsUsed := s₂.slotsUsed } : State).setVm s₂.vm).setTop { g with pc := g.pc + len₂, stack := v.toList ++ g.stack })
    rw [← hs₂]
    exact hsteps
  · obtain ⟨e2, q2, q3, q4, q5, q6⟩ := id hsm
    have e3 : s₂ = ({ (U.calling g mk a).setFrames s₂.frames with heap := s₂.heap, slotsUsed := s₂.slotsUsed } : State).setVm s₂.vm := by
      have : s₂ = ({ s₂ with vm := (U.calling g mk a).vm } : State).setVm s₂.vm := rfl
      rw [e2] at this
      exact this
    have hf₂ : s₂.frames = .throwing q :: .java g :: U.frames.tail := hend
    have hW' : U.WarmedH s₂.vm := hW₂
    have hs₂ : s₂ = ((({ U with heap := s₂.heap, slotsUsed := s₂.slotsUsed } : State).setVm s₂.vm).setTop g).pushFrame (.throwing q) := by
      refine e3.trans ?_
      rw [hf₂, State.calling_eq h.top, State.setFrames_setFrames, State.pushFrame, State.frames_setTop _ hr', State.setTop_of_frames _ hr', State.setFrames_setFrames, hr]
      rfl
    have hsame : U.sameButNew ({ U with heap := s₂.heap, slotsUsed := s₂.slotsUsed } : State) L mc ms := by
      refine ⟨?_, q2, q3, q4, q5, q6⟩
      obtain ⟨t, ht, -⟩ := State.frames_cons hr
      show ({ U with heap := s₂.heap, slotsUsed := s₂.slotsUsed } : State) = { U.setFrames U.frames with heap := s₂.heap, slotsUsed := s₂.slotsUsed }
      rw [State.setFrames_self ht]
    subst hg
    refine Or.inr ⟨q, ⟨(({ U with heap := s₂.heap, slotsUsed := s₂.slotsUsed } : State).setVm s₂.vm), Ls ++ L, c0 + mc, s0 + ms⟩,
      ⟨X.admits, X.cas, X.clock, X.frames, X.room, X.hears, X.method, X.code, (X.here.setHeapUsed s₂.heap s₂.slotsUsed).setVm hW'.alike, X.tail, State.WarmedH.trans X.warmed hW', X.limits, X.bytes, X.same.trans (hsame.setVm s.vm)⟩,
      ⟨g, mk, s₂, L, E, ce, rfl, rfl, hx, hce, hcv, hcl, rfl, hL, rfl, rfl⟩, ?_⟩
    show Steps p.tables e below _ (((({ U with heap := s₂.heap, slotsUsed := s₂.slotsUsed } : State).setVm s₂.vm).setTop g).pushFrame (.throwing q))
    rw [← hs₂]
    exact hsteps
end Payer
section Calls
variable {p : Program} {l : Launch} {e : Env} {R : Room} {s : State} {m : MethodId} {args : Array Value} {below : List Frame} {meth : Method} {c : Code} {T : State} {locs : List Loc} {cells slots : Nat}
theorem vx_callV (X : Stand p l e R s m args below meth c T locs cells slots) (hexec : p.tables.exec = Jvm.exec) {own C : String} {index : Nat} {y : MethodName} {bytes : ByteArray} {maxL : Nat} {ret : Option FieldType}
    (hown : s.vm.findClass own = some m.cls) (hlink : (Cond.methodLink own index y).before args s = true) (hinst : (Cond.instanceMethod y).before args s = true) (hsel : (Cond.selects C y y).before args s = true)
    (hcode : (Cond.code y bytes maxL ret).before args s = true) (hy : y.cls ≠ "java/lang/invoke/MethodHandle" ∧ y.cls ≠ "java/lang/invoke/VarHandle")
    {W9 : Nat} {Pre : Pt → Array Value → Prop} {Post : Pt → Array Value → Option Value → Pt → Prop} {PostX : Pt → Array Value → Addr → Pt → Prop} (hK : vx_Back l R p e below s args y 3 W9 Pre Post PostX)
    {b : Addr} {cellB : Cell} (hcell : T.heap[b]? = some cellB) (hobj : cellB.vm.isStatics = false) (hcls : s.vm.findClass C = some cellB.cls)
    {g : JFrame} (hg : g.method = m) (hsize : g.locals.size = c.maxLocals) {argsL rest : List Value} (hlen : ∀ sig, parseMethodDescriptor y.desc = some sig → argsL.length = sig.parameters.length)
    (hstack : g.stack = argsL.reverse ++ .ref b :: rest) (hW : 2 * g.monitorRoom + (rest.map fun v => v.category).sum ≤ W9) (hdg : decode c.code g.pc = .ok (.invokevirtual index, 3))
    (hpre : ∀ vm₁, s.WarmedH vm₁ → Pre ⟨T.setVm vm₁, locs, cells, slots⟩ (Value.ref b :: argsL).toArray) :
    (∃ (v : Option Value) (vm₁ : Vm) (B : Pt), s.WarmedH vm₁ ∧ Stand p l e R s m args below meth c B.U B.locs B.cells B.slots ∧ Post ⟨T.setVm vm₁, locs, cells, slots⟩ (Value.ref b :: argsL).toArray v B ∧
      ∀ target, Steps p.tables e below (B.U.setTop { g with pc := g.pc + 3, stack := v.toList ++ rest }) target → Steps p.tables e below (T.setTop g) target) ∨
    (∃ (q : Addr) (vm₁ : Vm) (B : Pt), s.WarmedH vm₁ ∧ Stand p l e R s m args below meth c B.U B.locs B.cells B.slots ∧ PostX ⟨T.setVm vm₁, locs, cells, slots⟩ (Value.ref b :: argsL).toArray q B ∧
      Steps p.tables e below (T.setTop g) ((B.U.setTop { g with stack := rest }).pushFrame (.throwing q))) := by
  obtain ⟨mk, methM, hnamed, hmethM, hstM, habM⟩ := Cond.instanceMethod_spec hinst
  obtain ⟨methM', cM, hmethM', -, -, -, -, -, -, hsigM⟩ := Cond.code_spec hnamed hcode
  cases hmethM.symm.trans hmethM'
  obtain ⟨c2, r2, m2, q1, q2, q3, q4, kP, hkP, hkPi⟩ := Cond.selects_spec hsel
  cases hcls.symm.trans q1
  cases (State.methodFound?_of_named hnamed hy).symm.trans q2
  cases hnamed.symm.trans q3
  have hselP : selectMethod e.platform s.vm cellB.cls mk = .method mk := by rw [Launch.admits_selectMethod X.admits]; exact q4
  obtain ⟨vm₁, X₁, hstep₁⟩ := X.invokevirtual hexec hown hlink hnamed hmethM hstM hkP hkPi hy (a := b) (cell := cellB) hcell
    (fun z h => by rw [h] at hobj; cases hobj) hselP hmethM habM hkP hkPi (g := g) hg (argsL := argsL) (rest := rest) (hlen _ hsigM) hstack hdg
  rcases hK m meth c ⟨T.setVm vm₁, locs, cells, slots⟩ { g with stack := rest } (.invokevirtual index) mk (Value.ref b :: argsL).toArray X₁ hg hsize hdg hW (X₁.named hnamed) (hpre vm₁ X₁.warmed) with ⟨v, B, X', hpost, hsteps⟩ | ⟨q, B, X', hpost, hsteps⟩
  · exact Or.inl ⟨v, vm₁, B, X₁.warmed, X', hpost, fun target h => hstep₁ _ fun acts => by rw [doInvoke_state]; exact hsteps.trans h⟩
  · exact Or.inr ⟨q, vm₁, B, X₁.warmed, X', hpost, hstep₁ _ fun acts => by rw [doInvoke_state]; exact hsteps⟩
theorem vx_callS (X : Stand p l e R s m args below meth c T locs cells slots) (hexec : p.tables.exec = Jvm.exec) {own : String} {index : Nat} {y : MethodName} {bytes : ByteArray} {maxL : Nat} {ret : Option FieldType}
    (hown : s.vm.findClass own = some m.cls) (hlink : (Cond.methodLink own index y).before args s = true) (hstat : (Cond.static y).before args s = true) (hinit : (Cond.initialized y.cls).before args s = true)
    (hcode : (Cond.code y bytes maxL ret).before args s = true) (hy : y.cls ≠ "java/lang/invoke/MethodHandle" ∧ y.cls ≠ "java/lang/invoke/VarHandle")
    {W9 : Nat} {Pre : Pt → Array Value → Prop} {Post : Pt → Array Value → Option Value → Pt → Prop} {PostX : Pt → Array Value → Addr → Pt → Prop} (hK : vx_Back l R p e below s args y 3 W9 Pre Post PostX)
    {g : JFrame} (hg : g.method = m) (hsize : g.locals.size = c.maxLocals) {argsL rest : List Value} (hlen : ∀ sig, parseMethodDescriptor y.desc = some sig → argsL.length = sig.parameters.length)
    (hstack : g.stack = argsL.reverse ++ rest) (hW : 2 * g.monitorRoom + (rest.map fun v => v.category).sum ≤ W9) (hdg : decode c.code g.pc = .ok (.invokestatic index, 3))
    (hpre : ∀ vm₁, s.WarmedH vm₁ → Pre ⟨T.setVm vm₁, locs, cells, slots⟩ argsL.toArray) :
    (∃ (v : Option Value) (vm₁ : Vm) (B : Pt), s.WarmedH vm₁ ∧ Stand p l e R s m args below meth c B.U B.locs B.cells B.slots ∧ Post ⟨T.setVm vm₁, locs, cells, slots⟩ argsL.toArray v B ∧
      ∀ target, Steps p.tables e below (B.U.setTop { g with pc := g.pc + 3, stack := v.toList ++ rest }) target → Steps p.tables e below (T.setTop g) target) ∨
    (∃ (q : Addr) (vm₁ : Vm) (B : Pt), s.WarmedH vm₁ ∧ Stand p l e R s m args below meth c B.U B.locs B.cells B.slots ∧ PostX ⟨T.setVm vm₁, locs, cells, slots⟩ argsL.toArray q B ∧
      Steps p.tables e below (T.setTop g) ((B.U.setTop { g with stack := rest }).pushFrame (.throwing q))) := by
  obtain ⟨mk, hnamed⟩ := Cond.code_named hcode
  obtain ⟨methM, cM, hmethM, -, -, -, -, -, -, hsigM⟩ := Cond.code_spec hnamed hcode
  have hstatic : methM.isStatic = true := Cond.static_spec hnamed hmethM hstat
  obtain ⟨kP, hkP, -⟩ := className_of_methodNamed hnamed
  have hinitP : kP.init = .initialized := Cond.initialized_spec (findClass_of_methodNamed hnamed) hkP hinit
  obtain ⟨vm₁, X₁, hstep₁⟩ := X.invokestatic hexec hown hlink hnamed hmethM hstatic hkP hinitP hy (g := g) hg (argsL := argsL) (rest := rest) (hlen _ hsigM) hstack hdg
  rcases hK m meth c ⟨T.setVm vm₁, locs, cells, slots⟩ { g with stack := rest } (.invokestatic index) mk argsL.toArray X₁ hg hsize hdg hW (X₁.named hnamed) (hpre vm₁ X₁.warmed) with ⟨v, B, X', hpost, hsteps⟩ | ⟨q, B, X', hpost, hsteps⟩
  · exact Or.inl ⟨v, vm₁, B, X₁.warmed, X', hpost, fun target h => hstep₁ _ fun acts => by rw [doInvoke_state]; exact hsteps.trans h⟩
  · exact Or.inr ⟨q, vm₁, B, X₁.warmed, X', hpost, hstep₁ _ fun acts => by rw [doInvoke_state]; exact hsteps⟩
end Calls
theorem vx_cls {s : State} {T : State} {vm₁ : Vm} {E : String} {k : ClassId} (hW : s.WarmedH vm₁) (h : (T.setVm vm₁).vm.findClass E = some k) : s.vm.findClass E = some k := by
  have h1 : vm₁.findClass E = some k := h
  rw [hW.alike.findClass] at h1
  exact h1
/-- the method's frame g, with q thrown over it -/
def vx_W (p : Program) (l : Launch) (e : Env) (R : Room) (s : State) (m : MethodId) (args : Array Value) (below : List Frame) (meth : Method) (c : Code) (H : Heap) (locs : List Loc) (cells slots : Nat) (Q : State → Prop) (g : JFrame) (q : Addr) : Prop :=
  ∀ T : State, T.heap = H → Stand p l e R s m args below meth c T locs cells slots → ∃ t, Steps p.tables e below ((T.setTop g).pushFrame (.throwing q)) t ∧ Q t
def vx_Run (p : Program) (l : Launch) (e : Env) (R : Room) (s : State) (m : MethodId) (args : Array Value) (below : List Frame) (meth : Method) (c : Code) (H : Heap) (locs : List Loc) (cells slots mc ms : Nat) (g : JFrame) (rest : List Value) (Qa : State → Outcome → State → Prop) (XC : String → State → State → Prop) (free : Addr → Prop) : Prop :=
  ∀ T : State, T.heap = H → Stand p l e R s m args below meth c T locs cells slots →
    (∃ (v : Option Value) (st₀ t T' : State) (L : List Loc), st₀.heap = H ∧ Stand p l e R s m args below meth c T' (locs ++ L) (cells + mc) (slots + ms) ∧ (∀ q ∈ L, free q.base) ∧ T'.heap = t.heap ∧ T'.vm = t.vm ∧ Qa st₀ (.returned v) t ∧
      Goes p e below T g T' { g with pc := g.pc + 3, stack := v.toList ++ rest }) ∨
    (∃ (q : Addr) (st₀ t T' : State) (L : List Loc) (E : String) (ce : Cell), st₀.heap = H ∧ Stand p l e R s m args below meth c T' (locs ++ L) (cells + mc) (slots + ms) ∧ (∀ z ∈ L, free z.base) ∧ T'.heap = t.heap ∧ T'.vm = t.vm ∧ XC E st₀ t ∧ t.heap[q]? = some ce ∧ ce.vm = .none ∧ s.vm.findClass E = some ce.cls ∧
      Steps p.tables e below (T.setTop g) ((T'.setTop { g with stack := rest }).pushFrame (.throwing q)))
def vx_X {S : Type} (px : S → Prop) (B : String → S → State → Prop) (A : Nat → Prop) : String → State → State → Prop := fun E st t => ∃ u : S, px u ∧ B E u t ∧ va_F A st t
section Runs
variable {p : Program} {l : Launch} {e : Env} {R : Room} {s : State} {m : MethodId} {args : Array Value} {below : List Frame} {meth : Method} {c : Code} {H : Heap} {locs : List Loc} {cells slots : Nat}
variable {y : MethodName} {bytes cc : ByteArray} {maxL nL mc ms n index : Nat} {ret : Option FieldType} {ws : List Cond} {rm : Room} {Pc : Array Value → State → Prop} {Qc : Array Value → State → Outcome → State → Prop} {XC : String → State → State → Prop} {free : Addr → Prop} {Ts : List Cond} {own C : String} {b : Addr} {As rest : List Value} {g : JFrame}
theorem vx_callBack (cb : CallB R s args own index y bytes maxL ret ws rm mc ms n) (hM : vx_Met l y ws rm Pc Qc XC mc ms free) (hbl : FrameBlind Pc) : vx_Back l R p e below s args y 3 8 (PreOf R mc ms Pc) (PostOf Qc mc ms free) (vx_Post XC mc ms free) := by
  obtain ⟨hrc, hrs, hfr, hlo, hws, hcw, -, hini, -⟩ := cb
  exact vx_back (bytes := bytes) (maxL := maxL) (ret := ret) hM hbl hrc hrs hfr hlo hws hcw (fun a' U hW => word_at hW (Or.inl (by first | rfl | simp [Cond.onTables, Cond.keeps, Cond.steady])) hini)
theorem vx_runV (S : CallFix p m c cc nL s args Ts own) (hM : vx_Met l y ws rm Pc Qc XC mc ms free) (cw : CallW R s args own C index y bytes maxL ret ws rm mc ms n) (hp : PreV s H C b Pc As)
    (hg : g.method = m) (hn : As.length = n) (hsize : g.locals.size = nL) (hstack : g.stack = As.reverse ++ .ref b :: rest) (hW : 2 * g.monitorRoom + (rest.map fun v => v.category).sum ≤ 8) (hdg : decode cc g.pc = .ok (.invokevirtual index, 3)) (hf : cells + mc ≤ R.cells ∧ slots + ms ≤ R.slots) :
    vx_Run p l e R s m args below meth c H locs cells slots mc ms g rest (Qc (Value.ref b :: As).toArray) XC free := by
  have hK : vx_Back l R p e below s args y 3 8 (PreOf R mc ms Pc) (PostOf Qc mc ms free) (vx_Post XC mc ms free) := vx_callBack cw.1 hM hp.1
  obtain ⟨⟨-, -, -, -, -, -, hcode, -, hy, hlen, hl⟩, hin, hse⟩ := cw
  obtain ⟨hx, hb, hml, ho, -⟩ := S
  obtain ⟨-, ⟨cellB, hcB, hoB, hclB⟩, hPc⟩ := hp
  intro T hT X
  rcases vx_callV X hx (C := C) (bytes := bytes) (maxL := maxL) (ret := ret) ho hl hin hse hcode hy hK (by rw [hT]; exact hcB) hoB hclB hg (hsize.trans hml.symm) (argsL := As) (rest := rest) (fun sig h => hn.trans (hlen sig h)) hstack hW (by rw [hb]; exact hdg)
    (fun vm₁ hW₁ => ⟨hf.1, hf.2, hPc (T.setVm vm₁) hT hW₁⟩) with ⟨v, vm₁, ⟨U', l2, c2, s2⟩, hW₁, X', ⟨g', mk, t, L, e1, e2, hq, h1, hL, h2, h3⟩, st⟩ | ⟨q, vm₁, ⟨U', l2, c2, s2⟩, hW₁, X', ⟨g', mk, t, L, E, ce, e1, e2, hq, hce, hcv, hcl, h1, hL, h2, h3⟩, st⟩
  · dsimp only [Pt.U, Pt.locs, Pt.cells, Pt.slots] at X' e1 e2 h1 h2 h3 st
    subst h1; subst h2; subst h3
    exact Or.inl ⟨v, (T.setVm vm₁).calling g' mk (Value.ref b :: As).toArray, t, U', L, hT, X', hL, e1, e2, hq, st⟩
  · dsimp only [Pt.U, Pt.locs, Pt.cells, Pt.slots] at X' e1 e2 h1 h2 h3 st hcl
    subst h1; subst h2; subst h3
    exact Or.inr ⟨q, (T.setVm vm₁).calling g' mk (Value.ref b :: As).toArray, t, U', L, E, ce, hT, X', hL, e1, e2, hq, hce, hcv, vx_cls hW₁ hcl, st⟩
theorem vx_runS (S : CallFix p m c cc nL s args Ts own) (hM : vx_Met l y ws rm Pc Qc XC mc ms free) (cw : CallB R s args own index y bytes maxL ret ws rm mc ms n ∧ (Cond.static y).before args s = true) (hp : PreS s H Pc As)
    (hg : g.method = m) (hn : As.length = n) (hsize : g.locals.size = nL) (hstack : g.stack = As.reverse ++ rest) (hW : 2 * g.monitorRoom + (rest.map fun v => v.category).sum ≤ 8) (hdg : decode cc g.pc = .ok (.invokestatic index, 3)) (hf : cells + mc ≤ R.cells ∧ slots + ms ≤ R.slots) :
    vx_Run p l e R s m args below meth c H locs cells slots mc ms g rest (Qc As.toArray) XC free := by
  have hK : vx_Back l R p e below s args y 3 8 (PreOf R mc ms Pc) (PostOf Qc mc ms free) (vx_Post XC mc ms free) := vx_callBack cw.1 hM hp.1
  obtain ⟨⟨-, -, -, -, -, -, hcode, hini, hy, hlen, hl⟩, hstt⟩ := cw
  obtain ⟨hx, hb, hml, ho, -⟩ := S
  intro T hT X
  rcases vx_callS X hx (bytes := bytes) (maxL := maxL) (ret := ret) ho hl hstt hini hcode hy hK hg (hsize.trans hml.symm) (argsL := As) (rest := rest) (fun sig h => hn.trans (hlen sig h)) hstack hW (by rw [hb]; exact hdg)
    (fun vm₁ hW₁ => ⟨hf.1, hf.2, hp.2 (T.setVm vm₁) hT hW₁⟩) with ⟨v, vm₁, ⟨U', l2, c2, s2⟩, hW₁, X', ⟨g', mk, t, L, e1, e2, hq, h1, hL, h2, h3⟩, st⟩ | ⟨q, vm₁, ⟨U', l2, c2, s2⟩, hW₁, X', ⟨g', mk, t, L, E, ce, e1, e2, hq, hce, hcv, hcl, h1, hL, h2, h3⟩, st⟩
  · dsimp only [Pt.U, Pt.locs, Pt.cells, Pt.slots] at X' e1 e2 h1 h2 h3 st
    subst h1; subst h2; subst h3
    exact Or.inl ⟨v, (T.setVm vm₁).calling g' mk As.toArray, t, U', L, hT, X', hL, e1, e2, hq, st⟩
  · dsimp only [Pt.U, Pt.locs, Pt.cells, Pt.slots] at X' e1 e2 h1 h2 h3 st hcl
    subst h1; subst h2; subst h3
    exact Or.inr ⟨q, (T.setVm vm₁).calling g' mk As.toArray, t, U', L, E, ce, hT, X', hL, e1, e2, hq, hce, hcv, vx_cls hW₁ hcl, st⟩
end Runs
section Rows
variable {p : Program} {l : Launch} {e : Env} {R : Room} {s : State} {m : MethodId} {args : Array Value} {below : List Frame} {meth : Method} {c : Code} {H : Heap} {locs : List Loc} {cells slots : Nat} {Q : State → Prop}
variable {mc ms : Nat} {free : Addr → Prop} {A0 A1 : Nat → Prop} {H0 : Heap} {a : Array Value} {pc : Nat} {ls : Array Slot} {st0 rest : List Value}
theorem vx_keep {st₀ t T' : State} {L : List Loc} (h0 : st₀.heap = H) (e1 : T'.heap = t.heap) (hS : va_S A0 H0 H locs) (hA : ∀ q, q < H.size → A1 q → A0 q) (hf : ∀ q, free q → A0 q) (hL : ∀ q ∈ L, free q.base) (hF : va_F A1 st₀ t) :
    H.size ≤ T'.heap.size ∧ (∀ q : Nat, q < H.size → ¬ A1 q → T'.heap[q]? = H[q]?) ∧ va_S A0 H0 T'.heap (locs ++ L) := by
  obtain ⟨hz, hk⟩ := hF
  rw [h0] at hz hk
  exact ⟨by rw [e1]; exact hz, fun q h1 h2 => by rw [e1]; exact hk q h1 h2,
    ⟨Nat.le_trans hS.1 (by rw [e1]; exact hz), fun q h1 h2 => by rw [e1, hk q (Nat.lt_of_lt_of_le h1 hS.1) (fun z => h2 (hA q (Nat.lt_of_lt_of_le h1 hS.1) z))]; exact hS.2.1 q h1 h2, fun q hq => by
      rcases List.mem_append.mp hq with h | h
      · exact hS.2.2 q h
      · exact hf _ (hL q h)⟩⟩
theorem vx_calli {S SX : Type} {post : Int32 → S → Prop} {px : SX → Prop} {B : S → State → Prop} {BX : String → SX → State → Prop} {AX : Nat → Prop} (hr : vx_Run p l e R s m args below meth c H locs cells slots mc ms (F0 m pc ls st0) rest (va_Qi post B A1 a) (vx_X px BX AX) free) (hS : va_S A0 H0 H locs) (hA : ∀ q, q < H.size → A1 q → A0 q) (hf : ∀ q, free q → A0 q) (hAX : ∀ q, q < H.size → AX q → A0 q)
    (kx : ∀ (E : String) (ce : Cell) (q9 : Addr) (u : SX) (t : State) (H1 : Heap) (locs1 : List Loc), t.heap = H1 → s.vm.Alike t.vm → px u → BX E u t → H.size ≤ H1.size → (∀ q : Nat, q < H.size → ¬ AX q → H1[q]? = H[q]?) → va_S A0 H0 H1 locs1 → H1[q9]? = some ce → ce.vm = .none → s.vm.findClass E = some ce.cls → vx_W p l e R s m args below meth c H1 locs1 (cells + mc) (slots + ms) Q (F0 m pc ls rest) q9)
    (kk : ∀ (r : Int32) (u : S) (t : State) (H1 : Heap) (locs1 : List Loc), t.heap = H1 → s.vm.Alike t.vm → post r u → B u t → H.size ≤ H1.size → (∀ q : Nat, q < H.size → ¬ A1 q → H1[q]? = H[q]?) → va_S A0 H0 H1 locs1 → W p l e R s m args below meth c H1 locs1 (cells + mc) (slots + ms) Q (F0 m (pc + 3) ls (.int r :: rest))) : W p l e R s m args below meth c H locs cells slots Q (F0 m pc ls st0) := by
  intro T hT X
  rcases hr T hT X with ⟨v, st₀, t, T', L, h0, X', hL, e1, e2, ⟨⟨r, u, hv, hp, hb⟩, hF⟩, st⟩ | ⟨q, st₀, t, T', L, E, ce, h0, X', hL, e1, e2, ⟨u, hp, hb, hF⟩, hce, hcv, hcl, st⟩
  · cases hv
    obtain ⟨k1, k2, k3⟩ := vx_keep h0 e1 hS hA hf hL hF
    obtain ⟨t2, a1, b1⟩ := kk r u t T'.heap (locs ++ L) e1.symm (by rw [← e2]; exact X'.warmed.alike) hp hb k1 k2 k3 T' rfl X'
    exact ⟨t2, st t2 a1, b1⟩
  · obtain ⟨k1, k2, k3⟩ := vx_keep h0 e1 hS hAX hf hL hF
    obtain ⟨t2, a1, b1⟩ := kx E ce q u t T'.heap (locs ++ L) e1.symm (by rw [← e2]; exact X'.warmed.alike) hp hb k1 k2 k3 (by rw [e1]; exact hce) hcv hcl T' rfl X'
    exact ⟨t2, st.trans a1, b1⟩
theorem vx_calll {S SX : Type} {post : Int64 → S → Prop} {px : SX → Prop} {B : S → State → Prop} {BX : String → SX → State → Prop} {AX : Nat → Prop} (hr : vx_Run p l e R s m args below meth c H locs cells slots mc ms (F0 m pc ls st0) rest (va_Ql post B A1 a) (vx_X px BX AX) free) (hS : va_S A0 H0 H locs) (hA : ∀ q, q < H.size → A1 q → A0 q) (hf : ∀ q, free q → A0 q) (hAX : ∀ q, q < H.size → AX q → A0 q)
    (kx : ∀ (E : String) (ce : Cell) (q9 : Addr) (u : SX) (t : State) (H1 : Heap) (locs1 : List Loc), t.heap = H1 → s.vm.Alike t.vm → px u → BX E u t → H.size ≤ H1.size → (∀ q : Nat, q < H.size → ¬ AX q → H1[q]? = H[q]?) → va_S A0 H0 H1 locs1 → H1[q9]? = some ce → ce.vm = .none → s.vm.findClass E = some ce.cls → vx_W p l e R s m args below meth c H1 locs1 (cells + mc) (slots + ms) Q (F0 m pc ls rest) q9)
    (kk : ∀ (r : Int64) (u : S) (t : State) (H1 : Heap) (locs1 : List Loc), t.heap = H1 → s.vm.Alike t.vm → post r u → B u t → H.size ≤ H1.size → (∀ q : Nat, q < H.size → ¬ A1 q → H1[q]? = H[q]?) → va_S A0 H0 H1 locs1 → W p l e R s m args below meth c H1 locs1 (cells + mc) (slots + ms) Q (F0 m (pc + 3) ls (.long r :: rest))) : W p l e R s m args below meth c H locs cells slots Q (F0 m pc ls st0) := by
  intro T hT X
  rcases hr T hT X with ⟨v, st₀, t, T', L, h0, X', hL, e1, e2, ⟨⟨r, u, hv, hp, hb⟩, hF⟩, st⟩ | ⟨q, st₀, t, T', L, E, ce, h0, X', hL, e1, e2, ⟨u, hp, hb, hF⟩, hce, hcv, hcl, st⟩
  · cases hv
    obtain ⟨k1, k2, k3⟩ := vx_keep h0 e1 hS hA hf hL hF
    obtain ⟨t2, a1, b1⟩ := kk r u t T'.heap (locs ++ L) e1.symm (by rw [← e2]; exact X'.warmed.alike) hp hb k1 k2 k3 T' rfl X'
    exact ⟨t2, st t2 a1, b1⟩
  · obtain ⟨k1, k2, k3⟩ := vx_keep h0 e1 hS hAX hf hL hF
    obtain ⟨t2, a1, b1⟩ := kx E ce q u t T'.heap (locs ++ L) e1.symm (by rw [← e2]; exact X'.warmed.alike) hp hb k1 k2 k3 (by rw [e1]; exact hce) hcv hcl T' rfl X'
    exact ⟨t2, st.trans a1, b1⟩
theorem vx_callf {S SX : Type} {post : UInt32 → S → Prop} {px : SX → Prop} {B : S → State → Prop} {BX : String → SX → State → Prop} {AX : Nat → Prop} (hr : vx_Run p l e R s m args below meth c H locs cells slots mc ms (F0 m pc ls st0) rest (va_Qf post B A1 a) (vx_X px BX AX) free) (hS : va_S A0 H0 H locs) (hA : ∀ q, q < H.size → A1 q → A0 q) (hf : ∀ q, free q → A0 q) (hAX : ∀ q, q < H.size → AX q → A0 q)
    (kx : ∀ (E : String) (ce : Cell) (q9 : Addr) (u : SX) (t : State) (H1 : Heap) (locs1 : List Loc), t.heap = H1 → s.vm.Alike t.vm → px u → BX E u t → H.size ≤ H1.size → (∀ q : Nat, q < H.size → ¬ AX q → H1[q]? = H[q]?) → va_S A0 H0 H1 locs1 → H1[q9]? = some ce → ce.vm = .none → s.vm.findClass E = some ce.cls → vx_W p l e R s m args below meth c H1 locs1 (cells + mc) (slots + ms) Q (F0 m pc ls rest) q9)
    (kk : ∀ (r : UInt32) (u : S) (t : State) (H1 : Heap) (locs1 : List Loc), t.heap = H1 → s.vm.Alike t.vm → post r u → B u t → H.size ≤ H1.size → (∀ q : Nat, q < H.size → ¬ A1 q → H1[q]? = H[q]?) → va_S A0 H0 H1 locs1 → W p l e R s m args below meth c H1 locs1 (cells + mc) (slots + ms) Q (F0 m (pc + 3) ls (.float r :: rest))) : W p l e R s m args below meth c H locs cells slots Q (F0 m pc ls st0) := by
  intro T hT X
  rcases hr T hT X with ⟨v, st₀, t, T', L, h0, X', hL, e1, e2, ⟨⟨r, u, hv, hp, hb⟩, hF⟩, st⟩ | ⟨q, st₀, t, T', L, E, ce, h0, X', hL, e1, e2, ⟨u, hp, hb, hF⟩, hce, hcv, hcl, st⟩
  · cases hv
    obtain ⟨k1, k2, k3⟩ := vx_keep h0 e1 hS hA hf hL hF
    obtain ⟨t2, a1, b1⟩ := kk r u t T'.heap (locs ++ L) e1.symm (by rw [← e2]; exact X'.warmed.alike) hp hb k1 k2 k3 T' rfl X'
    exact ⟨t2, st t2 a1, b1⟩
  · obtain ⟨k1, k2, k3⟩ := vx_keep h0 e1 hS hAX hf hL hF
    obtain ⟨t2, a1, b1⟩ := kx E ce q u t T'.heap (locs ++ L) e1.symm (by rw [← e2]; exact X'.warmed.alike) hp hb k1 k2 k3 (by rw [e1]; exact hce) hcv hcl T' rfl X'
    exact ⟨t2, st.trans a1, b1⟩
theorem vx_calld {S SX : Type} {post : UInt64 → S → Prop} {px : SX → Prop} {B : S → State → Prop} {BX : String → SX → State → Prop} {AX : Nat → Prop} (hr : vx_Run p l e R s m args below meth c H locs cells slots mc ms (F0 m pc ls st0) rest (va_Qd post B A1 a) (vx_X px BX AX) free) (hS : va_S A0 H0 H locs) (hA : ∀ q, q < H.size → A1 q → A0 q) (hf : ∀ q, free q → A0 q) (hAX : ∀ q, q < H.size → AX q → A0 q)
    (kx : ∀ (E : String) (ce : Cell) (q9 : Addr) (u : SX) (t : State) (H1 : Heap) (locs1 : List Loc), t.heap = H1 → s.vm.Alike t.vm → px u → BX E u t → H.size ≤ H1.size → (∀ q : Nat, q < H.size → ¬ AX q → H1[q]? = H[q]?) → va_S A0 H0 H1 locs1 → H1[q9]? = some ce → ce.vm = .none → s.vm.findClass E = some ce.cls → vx_W p l e R s m args below meth c H1 locs1 (cells + mc) (slots + ms) Q (F0 m pc ls rest) q9)
    (kk : ∀ (r : UInt64) (u : S) (t : State) (H1 : Heap) (locs1 : List Loc), t.heap = H1 → s.vm.Alike t.vm → post r u → B u t → H.size ≤ H1.size → (∀ q : Nat, q < H.size → ¬ A1 q → H1[q]? = H[q]?) → va_S A0 H0 H1 locs1 → W p l e R s m args below meth c H1 locs1 (cells + mc) (slots + ms) Q (F0 m (pc + 3) ls (.double r :: rest))) : W p l e R s m args below meth c H locs cells slots Q (F0 m pc ls st0) := by
  intro T hT X
  rcases hr T hT X with ⟨v, st₀, t, T', L, h0, X', hL, e1, e2, ⟨⟨r, u, hv, hp, hb⟩, hF⟩, st⟩ | ⟨q, st₀, t, T', L, E, ce, h0, X', hL, e1, e2, ⟨u, hp, hb, hF⟩, hce, hcv, hcl, st⟩
  · cases hv
    obtain ⟨k1, k2, k3⟩ := vx_keep h0 e1 hS hA hf hL hF
    obtain ⟨t2, a1, b1⟩ := kk r u t T'.heap (locs ++ L) e1.symm (by rw [← e2]; exact X'.warmed.alike) hp hb k1 k2 k3 T' rfl X'
    exact ⟨t2, st t2 a1, b1⟩
  · obtain ⟨k1, k2, k3⟩ := vx_keep h0 e1 hS hAX hf hL hF
    obtain ⟨t2, a1, b1⟩ := kx E ce q u t T'.heap (locs ++ L) e1.symm (by rw [← e2]; exact X'.warmed.alike) hp hb k1 k2 k3 (by rw [e1]; exact hce) hcv hcl T' rfl X'
    exact ⟨t2, st.trans a1, b1⟩
theorem vx_callv {S SX : Type} {post : S → Prop} {px : SX → Prop} {B : S → State → Prop} {BX : String → SX → State → Prop} {AX : Nat → Prop} (hr : vx_Run p l e R s m args below meth c H locs cells slots mc ms (F0 m pc ls st0) rest (va_Qv post B A1 a) (vx_X px BX AX) free) (hS : va_S A0 H0 H locs) (hA : ∀ q, q < H.size → A1 q → A0 q) (hf : ∀ q, free q → A0 q) (hAX : ∀ q, q < H.size → AX q → A0 q)
    (kx : ∀ (E : String) (ce : Cell) (q9 : Addr) (u : SX) (t : State) (H1 : Heap) (locs1 : List Loc), t.heap = H1 → s.vm.Alike t.vm → px u → BX E u t → H.size ≤ H1.size → (∀ q : Nat, q < H.size → ¬ AX q → H1[q]? = H[q]?) → va_S A0 H0 H1 locs1 → H1[q9]? = some ce → ce.vm = .none → s.vm.findClass E = some ce.cls → vx_W p l e R s m args below meth c H1 locs1 (cells + mc) (slots + ms) Q (F0 m pc ls rest) q9)
    (kk : ∀ (u : S) (t : State) (H1 : Heap) (locs1 : List Loc), t.heap = H1 → s.vm.Alike t.vm → post u → B u t → H.size ≤ H1.size → (∀ q : Nat, q < H.size → ¬ A1 q → H1[q]? = H[q]?) → va_S A0 H0 H1 locs1 → W p l e R s m args below meth c H1 locs1 (cells + mc) (slots + ms) Q (F0 m (pc + 3) ls (rest))) : W p l e R s m args below meth c H locs cells slots Q (F0 m pc ls st0) := by
  intro T hT X
  rcases hr T hT X with ⟨v, st₀, t, T', L, h0, X', hL, e1, e2, ⟨⟨u, hv, hp, hb⟩, hF⟩, st⟩ | ⟨q, st₀, t, T', L, E, ce, h0, X', hL, e1, e2, ⟨u, hp, hb, hF⟩, hce, hcv, hcl, st⟩
  · cases hv
    obtain ⟨k1, k2, k3⟩ := vx_keep h0 e1 hS hA hf hL hF
    obtain ⟨t2, a1, b1⟩ := kk u t T'.heap (locs ++ L) e1.symm (by rw [← e2]; exact X'.warmed.alike) hp hb k1 k2 k3 T' rfl X'
    exact ⟨t2, st t2 a1, b1⟩
  · obtain ⟨k1, k2, k3⟩ := vx_keep h0 e1 hS hAX hf hL hF
    obtain ⟨t2, a1, b1⟩ := kx E ce q u t T'.heap (locs ++ L) e1.symm (by rw [← e2]; exact X'.warmed.alike) hp hb k1 k2 k3 (by rw [e1]; exact hce) hcv hcl T' rfl X'
    exact ⟨t2, st.trans a1, b1⟩
end Rows
section Ends
variable {p : Program} {l : Launch} {e : Env} {R : Room} {s : State} {m : MethodId} {args : Array Value} {below : List Frame} {meth : Method} {c : Code} {H : Heap} {locs : List Loc} {cells slots : Nat} {Q : State → Prop}
variable {mc ms : Nat} {free : Addr → Prop} {A0 A1 : Nat → Prop} {H0 : Heap} {a : Array Value} {ls : Array Slot} {st0 rest : List Value}
variable {Qc : Array Value → State → Outcome → State → Prop} {XC : String → State → State → Prop}
/-- what a body that may throw owes at its end -/
def vx_MQ (below : List Frame) (Qc : Array Value → State → Outcome → State → Prop) (XC : String → State → State → Prop) (a : Array Value) (s : State) (mc ms : Nat) (free : Addr → Prop) : State → Prop := fun t =>
  ∃ o, t.status = .running ∧ Ended t below o ∧ vx_Q Qc XC mc ms free a s o t
theorem vx_ret {g : JFrame} {mc ms : Nat} (k : W p l e R s m args below meth c H locs cells slots (MQ below Qc args s mc ms free) g) : W p l e R s m args below meth c H locs cells slots (vx_MQ below Qc XC args s mc ms free) g := by
  intro T hT X
  obtain ⟨t, a1, o, b1, b2, b3, b4⟩ := k T hT X
  exact ⟨t, a1, o, b1, b2, Or.inl ⟨b3, b4⟩⟩
/-- not caught here: it goes on to the caller -/
theorem vx_widen {g : JFrame} {q : Addr} {k n : Nat} (h1 : cells ≤ k) (h2 : slots ≤ n) (kk : vx_W p l e R s m args below meth c H locs k n Q g q) : vx_W p l e R s m args below meth c H locs cells slots Q g q := fun T hT X => kk T hT (stand_widen X h1 h2)
theorem vx_out {pc : Nat} {E : String} {ce : Cell} {q : Addr} {mc ms : Nat} (hout : ∀ x ∈ c.exceptionTable.toList, covers x pc = false) (hlocks : meth.locks = false) (hcell : H[q]? = some ce) (hv : ce.vm = .none) (hcl : s.vm.findClass E = some ce.cls)
    (hx : ∀ t : State, t.heap = H → s.vm.Alike t.vm → XC E s t) (hf : ∀ z ∈ locs, free z.base) (hc : cells ≤ mc) (hs : slots ≤ ms) :
    vx_W p l e R s m args below meth c H locs cells slots (vx_MQ below Qc XC args s mc ms free) (F0 m pc ls rest) q := by
  intro T hT X
  obtain ⟨st1, hrun, hend, hW, hsm⟩ := X.leaveThrown q (g := F0 m pc ls rest) rfl rfl rfl hout hlocks
  have hcell9 : (T.setFrames (.throwing q :: below)).heap[q]? = some ce := by
    show T.heap[q]? = some ce
    rw [hT]; exact hcell
  exact ⟨_, st1, .threw q, hrun, hend, Or.inr ⟨q, rfl, E, ce, locs, hx _ hT hW.alike, hcell9, hv, hcl, hW, hsm.mono hc hs, hf⟩⟩
theorem vx_frame {U : State} {k n : Nat} (h : s.sameButNew ({ U with vm := s.vm } : State) locs k n) : s.heap.size ≤ U.heap.size ∧ ∀ q : Nat, q < s.heap.size → (∀ z ∈ locs, z.base ≠ q) → U.heap[q]? = s.heap[q]? := by
  obtain ⟨-, h2, -, -, -, h6⟩ := h
  refine ⟨h2, fun q hq hz => ?_⟩
  obtain ⟨c9, e1, e2, e3, e4⟩ := h6 q _ (Array.getElem?_eq_getElem hq)
  have hs : c9.slots = (s.heap[q]).slots := Array.ext_getElem? fun i => e4 i fun hm => hz _ hm rfl
  have h9 : c9 = s.heap[q] := by
    rw [hs] at e2
    exact e2
  have e5 : U.heap[q]? = some c9 := e1
  rw [e5, h9, Array.getElem?_eq_getElem hq]
/-- the words of a throw but the four that speak of the heap -/
def vx_no (w : Cond) : Bool := decide (w ≠ .isRef (.static Bundle.tN "UNASSIGNED_STACK" Bundle.steD)) && decide (w ≠ .isRef (.static Bundle.tN "SUPPRESSED_SENTINEL" Bundle.listD)) && decide (w ≠ .laysStatic Bundle.tN "UNASSIGNED_STACK" Bundle.steD) && decide (w ≠ .laysStatic Bundle.tN "SUPPRESSED_SENTINEL" Bundle.listD)
def vx_at0 (own : String) (ic : Nat) (X : String) (names : List String) : List Cond := (Bundle.ownAtoms0 own ic X names).filter vx_no
def vx_atS (own : String) (ic : Nat) (X : String) (names : List String) : List Cond := (Bundle.ownAtoms own ic X names).filter vx_no
/-- a word that the tables alone decide, or a good one -/
def vx_ot (w : Cond) : Bool := w.onTables || goodWord w
theorem vx_ot_at {args a' : Array Value} {s U : State} {w : Cond} (hW : s.WarmedH U.vm) (hvm : s.vm = U.vm) (hg : vx_ot w = true) (h : w.before args s = true) : w.before a' U = true := by
  simp only [vx_ot, Bool.or_eq_true] at hg
  rcases hg with hg | hg
  · exact va_tabs hg hvm h
  · exact word_at hW (good_of_word hg) h
/-- a list's words: the good ones out of the method's own list, the others by premises of their own -/
theorem vx_hat {args : Array Value} {s : State} {L B : List Cond} (h1 : ∀ w ∈ L.filter goodWord, w.before args s = true) (h2 : ∀ w ∈ L.filter (fun w => !goodWord w), w ∈ B) (h3 : ∀ w ∈ B, w.before args s = true) : ∀ w ∈ L, w.before args s = true := by
  intro w hw
  by_cases g : goodWord w = true
  · exact h1 w (List.mem_filter.mpr ⟨hw, g⟩)
  · refine h3 w (h2 w (List.mem_filter.mpr ⟨hw, ?_⟩))
    show (!goodWord w) = true
    cases hgw : goodWord w
    · rfl
    · exact absurd hgw g
theorem vx_c {args : Array Value} {s : State} {w : Cond} {B : List Cond} (h : w.before args s = true) (t : ∀ w ∈ B, w.before args s = true) : ∀ w' ∈ w :: B, w'.before args s = true := fun w' h' => (List.mem_cons.mp h').elim (fun e => by rw [e]; exact h) (t w')
theorem vx_n {args : Array Value} {s : State} : ∀ w ∈ ([] : List Cond), w.before args s = true := fun _ h => nomatch h
theorem vx_own {args : Array Value} {s : State} {L : List Cond} (h1 : ∀ w ∈ L.filter vx_no, w.before args s = true)
    (hU : (Cond.isRef (.static Bundle.tN "UNASSIGNED_STACK" Bundle.steD)).before args s = true) (hN : (Cond.isRef (.static Bundle.tN "SUPPRESSED_SENTINEL" Bundle.listD)).before args s = true)
    (lU : (Cond.laysStatic Bundle.tN "UNASSIGNED_STACK" Bundle.steD).before args s = true) (lN : (Cond.laysStatic Bundle.tN "SUPPRESSED_SENTINEL" Bundle.listD).before args s = true) : ∀ w ∈ L, w.before args s = true := by
  intro w hw
  by_cases e1 : w = .isRef (.static Bundle.tN "UNASSIGNED_STACK" Bundle.steD)
  · rw [e1]; exact hU
  · by_cases e2 : w = .isRef (.static Bundle.tN "SUPPRESSED_SENTINEL" Bundle.listD)
    · rw [e2]; exact hN
    · by_cases e3 : w = .laysStatic Bundle.tN "UNASSIGNED_STACK" Bundle.steD
      · rw [e3]; exact lU
      · by_cases e4 : w = .laysStatic Bundle.tN "SUPPRESSED_SENTINEL" Bundle.listD
        · rw [e4]; exact lN
        · exact h1 w (List.mem_filter.mpr ⟨hw, by unfold vx_no; rw [decide_eq_true e1, decide_eq_true e2, decide_eq_true e3, decide_eq_true e4]; rfl⟩)
/-- where a static field lies, its class's statics cell in H -/
def vx_L (C n d : String) (A : Nat → Prop) (U : State) (H : Heap) : Prop := ∃ (c : ClassId) (k : Class) (i : Nat) (f : Field) (a : Nat) (cell : Cell), U.vm.findClass C = some c ∧ U.fieldFound? C n d = some (c, k, i, f) ∧ f.isStatic = true ∧ k.statics = some a ∧ H[a]? = some cell ∧ cell.vm.isStatics = true ∧ cell.cls = c ∧ f.slot < cell.slots.size ∧ k.staticTypes[f.slot]? = some f.type ∧ ¬ A a
theorem vx_L.moved {C n d : String} {A : Nat → Prop} {u U : State} {H : Heap} (hvm : u.vm.Alike U.vm) (h : vx_L C n d A u H) : vx_L C n d A U H := by
  obtain ⟨c, k, i, f, a, cell, h1, h2, h3, h4, h5, h6, h7, h8, h9, h10⟩ := h
  obtain ⟨k', hi', he⟩ := State.fieldFound?_setVm hvm h2
  exact ⟨c, k', i, f, a, cell, by rw [hvm.findClass]; exact h1, hi', h3, by rw [he]; exact h4, h5, h6, h7, h8, by rw [he]; exact h9, h10⟩
theorem vx_L.kept {C n d : String} {A : Nat → Prop} {U : State} {H H1 : Heap} (h : vx_L C n d A U H) (hq : ∀ a : Nat, a < H.size → ¬ A a → H1[a]? = H[a]?) : vx_L C n d A U H1 := by
  obtain ⟨c, k, i, f, a, cell, h1, h2, h3, h4, h5, h6, h7, h8, h9, h10⟩ := h
  exact ⟨c, k, i, f, a, cell, h1, h2, h3, h4, by rw [hq a (Array.getElem?_eq_some_iff.mp h5).1 h10]; exact h5, h6, h7, h8, h9, h10⟩
theorem vx_L.narrow {C n d : String} {A B : Nat → Prop} {U : State} {H : Heap} (h : vx_L C n d A U H) (hAB : ∀ q, B q → A q) : vx_L C n d B U H := by
  obtain ⟨c, k, i, f, a, cell, h1, h2, h3, h4, h5, h6, h7, h8, h9, h10⟩ := h
  exact ⟨c, k, i, f, a, cell, h1, h2, h3, h4, h5, h6, h7, h8, h9, fun z => h10 (hAB _ z)⟩
theorem vx_L.word {C n d : String} {A : Nat → Prop} {s : State} {args : Array Value} (h : vx_L C n d A s s.heap) : (Cond.laysStatic C n d).before args s = true := by
  obtain ⟨c, k, i, f, a, cell, h1, h2, h3, h4, h5, h6, h7, h8, h9, -⟩ := h
  show (Cond.laysStatic C n d).holds args s none s [] = true
  exact Cond.laysStatic_of h1 h2 h3 h4 h5 h6 h7 h8 h9
/-- .. and what it holds: null or some reference -/
def vx_Zq (C n d : String) (A : Nat → Prop) (U : State) (H : Heap) : Prop := va_Zq C n d A U H ∧ vx_L C n d A U H
theorem vx_Zq.moved {C n d : String} {A : Nat → Prop} {u U : State} {H : Heap} (hvm : u.vm.Alike U.vm) (h : vx_Zq C n d A u H) : vx_Zq C n d A U H := ⟨va_Zq.moved hvm h.1, vx_L.moved hvm h.2⟩
theorem vx_Zq.kept {C n d : String} {A : Nat → Prop} {U : State} {H H1 : Heap} (h : vx_Zq C n d A U H) (hq : ∀ a : Nat, a < H.size → ¬ A a → H1[a]? = H[a]?) : vx_Zq C n d A U H1 := ⟨va_Zq.kept h.1 hq, vx_L.kept h.2 hq⟩
theorem vx_Zq.narrow {C n d : String} {A B : Nat → Prop} {U : State} {H : Heap} (h : vx_Zq C n d A U H) (hAB : ∀ q, B q → A q) : vx_Zq C n d B U H := ⟨va_Zq.narrow h.1 hAB, vx_L.narrow h.2 hAB⟩
theorem vx_Zqof {args : Array Value} {s : State} {C n d : String} {A : Nat → Prop} (hl : (Cond.laysStatic C n d).before args s = true) (hini : (Cond.initialized C).before args s = true) (h : (Cond.isRef (.static C n d)).before args s = true) (hA : ∀ a : Nat, a < s.heap.size → ¬ A a) : vx_Zq C n d A s s.heap := by
  refine ⟨va_Zqof hl hini h hA, ?_⟩
  obtain ⟨c, k, i, f, a, cell, h1, h2, h3, h4, h5, h6, h7, h8, h9⟩ := Cond.laysStatic_spec hl
  exact ⟨c, k, i, f, a, cell, h1, h2, h3, h4, h5, h6, h7, h8, h9, hA a (Array.getElem?_eq_some_iff.mp h5).1⟩
theorem vx_isRef {C n d : String} {v : Value} {A : Nat → Prop} {s : State} {args : Array Value} (h : va_Z C n d v A s s.heap) (hv : v.isRef = true) : (Cond.isRef (.static C n d)).before args s = true := by
  obtain ⟨cf, kf, fi, f, a, cell, h1, h2, h3, h4, h5, h6, h7, -⟩ := h
  have he : (Term.static C n d).eval args s none [] s = some v := by
    simp [Term.eval, State.fieldNamed?, h1, h2, h4, h5, h6, h7]
  simp only [Cond.before, Cond.holds, Cond.value, he]
  cases v <;> simp_all [Value.isRef]
theorem vx_isRefq {C n d : String} {A : Nat → Prop} {s : State} {args : Array Value} (h : va_Zq C n d A s s.heap) : (Cond.isRef (.static C n d)).before args s = true := by
  rcases h with h | ⟨t, h⟩
  · exact vx_isRef h rfl
  · exact vx_isRef h rfl
/-- the same frame, seen from here: as if the method were called anew in this heap -/
theorem vx_rebase {T : State} (X : Stand p l e R s m args below meth c T locs cells slots) {R' : Room} (hf : R'.frames ≤ R.frames) (hl : R'.locals ≤ R.locals) (hc : cells + R'.cells ≤ R.cells) (hs : slots + R'.slots ≤ R.slots) :
    Stand p l e R' ((T.setVm s.vm).setFrames (.invoking m args :: below)) m args below meth c T [] 0 0 := by
  have htop : (T.setVm s.vm).topJava?.isSome := X.here.top
  have hF : ((T.setVm s.vm).setFrames (.invoking m args :: below)).frames = .invoking m args :: below := State.frames_setFrames _ (State.cur_lt_of_top htop)
  obtain ⟨g₀, hg0⟩ := Option.isSome_iff_exists.mp htop
  obtain ⟨r, hr⟩ := State.topJava?_eq_some.mp hg0
  have hl9 : e.platform.stackLimits (T.setVm s.vm).me = e.platform.stackLimits s.me := X.limits
  have hb9 : (T.setVm s.vm).me.stackBytes = s.me.stackBytes := X.bytes
  refine ⟨X.admits, X.cas, X.clock, hF, ?_, X.hears, X.method, X.code, X.here, X.tail, X.warmed, ?_, ?_, ?_⟩
  · have h := X.room
    have hU : ((T.setVm s.vm).setFrames (.invoking m args :: below)).localsInUse = s.localsInUse := by
      rw [State.localsInUse_invoking hF (meth := meth) (c := c) X.method X.code, State.localsInUse_invoking X.frames X.method X.code]
    simp only [State.hasRoom, Bool.and_eq_true, decide_eq_true_eq] at h ⊢
    obtain ⟨⟨⟨⟨h1, h2, h3, h4, h5, h6⟩, h7⟩, h8⟩, h9⟩ := h
    rw [X.frames, List.length_cons] at h2 h3
    have q1 := X.heapSize
    have q2 := X.used
    simp only [hF, hU, List.length_cons, State.stackLimits_setFrames, State.stackBytes_setFrames, hl9, hb9]
    refine ⟨⟨⟨⟨by omega, by omega, by omega, by omega, by omega, h6⟩, ?_⟩, ?_⟩, X.book⟩
    · show T.heap.size + R'.cells ≤ e.platform.maxCells
      omega
    · show T.slotsUsed + R'.slots ≤ e.platform.maxSlots
      omega
  · rw [State.stackLimits_setFrames]; rfl
  · rw [State.stackBytes_setFrames]; rfl
  · refine ⟨?_, Nat.le_refl _, Nat.le_refl _, ?_, ?_, fun a c9 h9 => ⟨c9, h9, rfl, rfl, fun _ _ => rfl⟩⟩
    · obtain ⟨t, ht, -⟩ := State.frames_cons hr
      show T.setVm s.vm = { ((T.setVm s.vm).setFrames (.invoking m args :: below)).setFrames (T.setVm s.vm).frames with heap := T.heap, slotsUsed := T.slotsUsed }
      rw [State.setFrames_setFrames, State.setFrames_self ht]
      rfl
    · show T.slotsUsed = T.slotsUsed + ((T.heap.toList.drop T.heap.size).map (·.slots.size)).sum
      rw [List.drop_eq_nil_of_le (Nat.le_of_eq Array.length_toList)]
      rfl
    · show ((T.heap.toList.drop T.heap.size).map (·.slots.size)).sum ≤ 0
      rw [List.drop_eq_nil_of_le (Nat.le_of_eq Array.length_toList)]
      exact Nat.le_refl _
/-- 'throw new E()': new; dup; invokespecial; athrow -/
theorem vx_throw0 {cc : ByteArray} {pc : Nat} (hexec : p.tables.exec = Jvm.exec) (hb : c.code = cc) (hl : l.stackTraces = false) {own cls : String} {names : List String} {ik ic mc ms : Nat} {A : Nat → Prop}
    (hown : s.vm.findClass own = some m.cls) (hcls : Bundle.fit cls = true) (hnames : ∀ n ∈ names, Bundle.fit n = true)
    (hk : (Cond.classLink own ik cls).before args s = true) (hini : (Cond.initialized cls).before args s = true) (hat : ∀ w ∈ vx_at0 own ic cls names, w.before args s = true)
    (hgood : ∀ w ∈ Cond.classLink own ik cls :: Cond.initialized cls :: vx_at0 own ic cls names, vx_ot w = true)
    (hU : vx_Zq Bundle.tN "UNASSIGNED_STACK" Bundle.steD A s s.heap) (hN : vx_Zq Bundle.tN "SUPPRESSED_SENTINEL" Bundle.listD A s s.heap) (hS : va_S A s.heap H locs) (hsize : ls.size = c.maxLocals)
    (d0 : decode cc pc = .ok (.new ik, 3)) (d3 : decode cc (pc + 3) = .ok (.dup, 1)) (d4 : decode cc (pc + 4) = .ok (.invokespecial ic, 3)) (d7 : decode cc (pc + 7) = .ok (.athrow, 1))
    (hout : ∀ x ∈ c.exceptionTable.toList, covers x (pc + 7) = false)
    (hRframes : names.length + 3 < R.frames) (hRlocals : (rest.map fun v => v.category).sum + (13 * (names.length + 1) + 42) ≤ R.locals) (hRcells : cells + 1 ≤ R.cells) (hRslots : slots + 6 ≤ R.slots) (hlocks : meth.locks = false)
    (hx : ∀ t : State, s.vm.Alike t.vm → H.size ≤ t.heap.size → (∀ q : Nat, q < H.size → t.heap[q]? = H[q]?) → XC cls s t)
    (hf : ∀ z ∈ locs, free z.base) (hc : cells + 1 ≤ mc) (hs : slots + 6 ≤ ms) :
    W p l e R s m args below meth c H locs cells slots (vx_MQ below Qc XC args s mc ms free) (F0 m pc ls rest) := by
  intro T hT X
  have htr : e.platform.stackTraces = false := (show e.platform.stackTraces = l.stackTraces by rw [X.admits.platform]).trans hl
  have Y := vx_rebase X (R' := { frames := R.frames, locals := R.locals, cells := 1, slots := 6 }) (Nat.le_refl _) (Nat.le_refl _) hRcells hRslots
  obtain ⟨s', hA⟩ : ∃ z, z = (T.setVm s.vm).setFrames (.invoking m args :: below) := ⟨_, rfl⟩
  rw [← hA] at Y
  have hvm : s'.vm = s.vm := by rw [hA]; rfl
  have hhp : s'.heap = H := by rw [hA]; exact hT
  have hW0 : s.WarmedH s'.vm := by rw [hvm]; exact State.WarmedH.refl s
  have hat' : ∀ w ∈ vx_at0 own ic cls names, w.before args s' = true := fun w hw => vx_ot_at hW0 hvm.symm (hgood w (List.mem_cons_of_mem _ (List.mem_cons_of_mem _ hw))) (hat w hw)
  have hk' : (Cond.classLink own ik cls).before args s' = true := vx_ot_at hW0 hvm.symm (hgood _ List.mem_cons_self) hk
  have hini' : (Cond.initialized cls).before args s' = true := vx_ot_at hW0 hvm.symm (hgood _ (List.mem_cons_of_mem _ List.mem_cons_self)) hini
  have hU' : vx_Zq Bundle.tN "UNASSIGNED_STACK" Bundle.steD A s' s'.heap := by rw [hhp]; exact vx_Zq.moved hW0.alike (hU.kept hS.2.1)
  have hN' : vx_Zq Bundle.tN "SUPPRESSED_SENTINEL" Bundle.listD A s' s'.heap := by rw [hhp]; exact vx_Zq.moved hW0.alike (hN.kept hS.2.1)
  have h : ∀ w ∈ Bundle.ownAtoms0 own ic cls names, w.before args s' = true := vx_own hat' (vx_isRefq hU'.1) (vx_isRefq hN'.1) hU'.2.word hN'.2.word
  have hown' : s'.vm.findClass own = some m.cls := by rw [hvm]; exact hown
  have hins : (Cond.instantiable cls 6).before args s' = true := h _ (by simp [Bundle.ownAtoms0])
  obtain ⟨vm₁, cX, kX, hfX, hkX, -, -, X₁, st1⟩ := Y.newCold hexec (own := own) (C := cls) (index := ik) (n := 6) hown' hk' hins hini'
    (g := F0 m pc ls rest) rfl (by rw [hb]; exact d0) (Nat.le_refl _) (Nat.le_refl _)
  generalize hT1 : (T.setVm vm₁).pushCell { cls := cX, slots := kX.instanceTypes.map defaultValue, vm := .none } = T1 at X₁ st1
  have hcat : (Value.ref T.heap.size).category = 1 := rfl
  have hcellA : T1.heap[T.heap.size]? = some (freshCell cX kX) := by rw [← hT1]; exact State.heap_pushCell_size _ _
  have d3' : decode c.code (pc + 3) = .ok (.dup, 1) := by rw [hb]; exact d3
  obtain ⟨U, hsteps, hrun, hend, hW, hsame, ce, hce, hO⟩ := X₁.ctorThrow0 hexec htr (own := own) (cls := cls) (names := names) (ic := ic) hown' hcls hnames h (fun x hx => nomatch hx) hfX hkX hcellA (by rw [hhp, hT]; exact Nat.le_refl _)
    (g := { method := m, pc := pc + 4, locals := ls, stack := .ref T.heap.size :: .ref T.heap.size :: rest, locked := none }) rfl hsize rfl rfl (rest := rest) rfl
    (by rw [hb]; exact d4) (by rw [hb]; exact d7) hout hRframes (by simp only [List.map_cons, List.sum_cons, hcat]; omega) hlocks
  obtain ⟨f1, f2⟩ := vx_frame hsame
  rw [hhp] at f1 f2
  have hWs : s.WarmedH U.vm := State.WarmedH.trans hW0 hW
  have hcl : s.vm.findClass cls = some ce.cls := by
    have h9 := hO.cls
    rw [hvm] at h9
    exact h9
  have hall : s.sameButNew ({ U with vm := s.vm } : State) locs mc ms := by
    subst hA
    obtain ⟨e1, e2⟩ := hsame
    rw [State.setFrames_setFrames] at e1
    have h2 : (T.setVm s.vm).sameButNew ({ U with vm := s.vm } : State) [] (0 + 1) (0 + 6) := ⟨e1, e2⟩
    have h3 := X.same.trans h2
    rw [List.append_nil] at h3
    exact h3.mono hc hs
  refine ⟨U, ?_, .threw T.heap.size, hrun, hend, Or.inr ⟨T.heap.size, rfl, cls, ce, locs, hx U hWs.alike f1 (fun q hq => f2 q hq (fun z hz => nomatch hz)), hce, hO.vm, hcl, hWs, hall, hf⟩⟩
  refine st1 _ ?_
  show Steps p.tables e below (T1.setTop { method := m, pc := pc + 3, locals := ls, stack := .ref T.heap.size :: rest, locked := none }) _
  jvm_step X₁.here [X₁.here.top, hexec, d3', Value.category]
  exact hsteps
/-- 'throw new E("text")': new; dup; ldc; invokespecial; athrow -/
theorem vx_throwS {cc : ByteArray} {pc : Nat} (hexec : p.tables.exec = Jvm.exec) (hb : c.code = cc) (hl : l.stackTraces = false) {own cls text : String} {names : List String} {ik is ic mc ms sa : Nat} {A : Nat → Prop}
    (hown : s.vm.findClass own = some m.cls) (hcls : Bundle.fit cls = true) (hnames : ∀ n ∈ names, Bundle.fit n = true)
    (hk : (Cond.classLink own ik cls).before args s = true) (hini : (Cond.initialized cls).before args s = true) (hstr : vk_R own is text sa s) (hat : ∀ w ∈ vx_atS own ic cls names, w.before args s = true)
    (hgood : ∀ w ∈ Cond.classLink own ik cls :: Cond.initialized cls :: vx_atS own ic cls names, vx_ot w = true)
    (hU : vx_Zq Bundle.tN "UNASSIGNED_STACK" Bundle.steD A s s.heap) (hN : vx_Zq Bundle.tN "SUPPRESSED_SENTINEL" Bundle.listD A s s.heap) (hS : va_S A s.heap H locs) (hsize : ls.size = c.maxLocals)
    (d0 : decode cc pc = .ok (.new ik, 3)) (d3 : decode cc (pc + 3) = .ok (.dup, 1)) (d4 : decode cc (pc + 4) = .ok (.ldc is, 2)) (d6 : decode cc (pc + 6) = .ok (.invokespecial ic, 3)) (d9 : decode cc (pc + 9) = .ok (.athrow, 1))
    (hout : ∀ x ∈ c.exceptionTable.toList, covers x (pc + 9) = false)
    (hRframes : names.length + 3 < R.frames) (hRlocals : (rest.map fun v => v.category).sum + (13 * (names.length + 1) + 43) ≤ R.locals) (hRcells : cells + 1 ≤ R.cells) (hRslots : slots + 6 ≤ R.slots) (hlocks : meth.locks = false)
    (hx : ∀ t : State, s.vm.Alike t.vm → H.size ≤ t.heap.size → (∀ q : Nat, q < H.size → t.heap[q]? = H[q]?) → XC cls s t)
    (hf : ∀ z ∈ locs, free z.base) (hc : cells + 1 ≤ mc) (hs : slots + 6 ≤ ms) :
    W p l e R s m args below meth c H locs cells slots (vx_MQ below Qc XC args s mc ms free) (F0 m pc ls rest) := by
  intro T hT X
  have htr : e.platform.stackTraces = false := (show e.platform.stackTraces = l.stackTraces by rw [X.admits.platform]).trans hl
  have Y := vx_rebase X (R' := { frames := R.frames, locals := R.locals, cells := 1, slots := 6 }) (Nat.le_refl _) (Nat.le_refl _) hRcells hRslots
  obtain ⟨s', hA⟩ : ∃ z, z = (T.setVm s.vm).setFrames (.invoking m args :: below) := ⟨_, rfl⟩
  rw [← hA] at Y
  have hvm : s'.vm = s.vm := by rw [hA]; rfl
  have hhp : s'.heap = H := by rw [hA]; exact hT
  have hW0 : s.WarmedH s'.vm := by rw [hvm]; exact State.WarmedH.refl s
  have hat' : ∀ w ∈ vx_atS own ic cls names, w.before args s' = true := fun w hw => vx_ot_at hW0 hvm.symm (hgood w (List.mem_cons_of_mem _ (List.mem_cons_of_mem _ hw))) (hat w hw)
  have hk' : (Cond.classLink own ik cls).before args s' = true := vx_ot_at hW0 hvm.symm (hgood _ List.mem_cons_self) hk
  have hini' : (Cond.initialized cls).before args s' = true := vx_ot_at hW0 hvm.symm (hgood _ (List.mem_cons_of_mem _ List.mem_cons_self)) hini
  have hU' : vx_Zq Bundle.tN "UNASSIGNED_STACK" Bundle.steD A s' s'.heap := by rw [hhp]; exact vx_Zq.moved hW0.alike (hU.kept hS.2.1)
  have hN' : vx_Zq Bundle.tN "SUPPRESSED_SENTINEL" Bundle.listD A s' s'.heap := by rw [hhp]; exact vx_Zq.moved hW0.alike (hN.kept hS.2.1)
  have h : ∀ w ∈ Bundle.ownAtoms own ic cls names, w.before args s' = true := vx_own hat' (vx_isRefq hU'.1) (vx_isRefq hN'.1) hU'.2.word hN'.2.word
  have hown' : s'.vm.findClass own = some m.cls := by rw [hvm]; exact hown
  have hins : (Cond.instantiable cls 6).before args s' = true := h _ (by simp [Bundle.ownAtoms])
  obtain ⟨vm₁, cX, kX, hfX, hkX, -, -, X₁, st1⟩ := Y.newCold hexec (own := own) (C := cls) (index := ik) (n := 6) hown' hk' hins hini'
    (g := F0 m pc ls rest) rfl (by rw [hb]; exact d0) (Nat.le_refl _) (Nat.le_refl _)
  generalize hT1 : (T.setVm vm₁).pushCell { cls := cX, slots := kX.instanceTypes.map defaultValue, vm := .none } = T1 at X₁ st1
  have hcat : (Value.ref T.heap.size).category = 1 := rfl
  have hcellA : T1.heap[T.heap.size]? = some (freshCell cX kX) := by rw [← hT1]; exact State.heap_pushCell_size _ _
  have d3' : decode c.code (pc + 3) = .ok (.dup, 1) := by rw [hb]; exact d3
  have d4' : decode c.code (pc + 4) = .ok (.ldc is, 2) := by rw [hb]; exact d4
  have hstr' : vk_R own is text sa s' := vk_R.warm hW0 hstr
  obtain ⟨U, hsteps, hrun, hend, hW, hsame, ce, hce, hO⟩ := X₁.ctorThrowS hexec htr (own := own) (cls := cls) (names := names) (ic := ic) hown' hcls hnames h (fun x hx => nomatch hx) hfX hkX hcellA (by rw [hhp, hT]; exact Nat.le_refl _) (msg := .ref sa) rfl
    (g := { method := m, pc := pc + 6, locals := ls, stack := .ref sa :: .ref T.heap.size :: .ref T.heap.size :: rest, locked := none }) rfl hsize rfl rfl (rest := rest) rfl
    (by rw [hb]; exact d6) (by rw [hb]; exact d9) hout hRframes (by simp only [List.map_cons, List.sum_cons, hcat]; omega) hlocks
  obtain ⟨f1, f2⟩ := vx_frame hsame
  rw [hhp] at f1 f2
  have hWs : s.WarmedH U.vm := State.WarmedH.trans hW0 hW
  have hcl : s.vm.findClass cls = some ce.cls := by
    have h9 := hO.cls
    rw [hvm] at h9
    exact h9
  have hall : s.sameButNew ({ U with vm := s.vm } : State) locs mc ms := by
    subst hA
    obtain ⟨e1, e2⟩ := hsame
    rw [State.setFrames_setFrames] at e1
    have h2 : (T.setVm s.vm).sameButNew ({ U with vm := s.vm } : State) [] (0 + 1) (0 + 6) := ⟨e1, e2⟩
    have h3 := X.same.trans h2
    rw [List.append_nil] at h3
    exact h3.mono hc hs
  refine ⟨U, ?_, .threw T.heap.size, hrun, hend, Or.inr ⟨T.heap.size, rfl, cls, ce, locs, hx U hWs.alike f1 (fun q hq => f2 q hq (fun z hz => nomatch hz)), hce, hO.vm, hcl, hWs, hall, hf⟩⟩
  refine st1 _ ?_
  show Steps p.tables e below (T1.setTop { method := m, pc := pc + 3, locals := ls, stack := .ref T.heap.size :: rest, locked := none }) _
  jvm_step X₁.here [X₁.here.top, hexec, d3', Value.category]
  exact X₁.ldcString hexec (own := own) (text := text) (index := is) (a := sa) hown' hstr'.1 hstr'.2
    (g := { method := m, pc := pc + 4, locals := ls, stack := .ref T.heap.size :: .ref T.heap.size :: rest, locked := none }) rfl d4' _ hsteps
/-- 'throw new E("text")', the text by a wide index -/
theorem vx_throwSW {cc : ByteArray} {pc : Nat} (hexec : p.tables.exec = Jvm.exec) (hb : c.code = cc) (hl : l.stackTraces = false) {own cls text : String} {names : List String} {ik is ic mc ms sa : Nat} {A : Nat → Prop}
    (hown : s.vm.findClass own = some m.cls) (hcls : Bundle.fit cls = true) (hnames : ∀ n ∈ names, Bundle.fit n = true)
    (hk : (Cond.classLink own ik cls).before args s = true) (hini : (Cond.initialized cls).before args s = true) (hstr : vk_R own is text sa s) (hat : ∀ w ∈ vx_atS own ic cls names, w.before args s = true)
    (hgood : ∀ w ∈ Cond.classLink own ik cls :: Cond.initialized cls :: vx_atS own ic cls names, vx_ot w = true)
    (hU : vx_Zq Bundle.tN "UNASSIGNED_STACK" Bundle.steD A s s.heap) (hN : vx_Zq Bundle.tN "SUPPRESSED_SENTINEL" Bundle.listD A s s.heap) (hS : va_S A s.heap H locs) (hsize : ls.size = c.maxLocals)
    (d0 : decode cc pc = .ok (.new ik, 3)) (d3 : decode cc (pc + 3) = .ok (.dup, 1)) (d4 : decode cc (pc + 4) = .ok (.ldc_w is, 3)) (d7 : decode cc (pc + 7) = .ok (.invokespecial ic, 3)) (d10 : decode cc (pc + 10) = .ok (.athrow, 1))
    (hout : ∀ x ∈ c.exceptionTable.toList, covers x (pc + 10) = false)
    (hRframes : names.length + 3 < R.frames) (hRlocals : (rest.map fun v => v.category).sum + (13 * (names.length + 1) + 43) ≤ R.locals) (hRcells : cells + 1 ≤ R.cells) (hRslots : slots + 6 ≤ R.slots) (hlocks : meth.locks = false)
    (hx : ∀ t : State, s.vm.Alike t.vm → H.size ≤ t.heap.size → (∀ q : Nat, q < H.size → t.heap[q]? = H[q]?) → XC cls s t)
    (hf : ∀ z ∈ locs, free z.base) (hc : cells + 1 ≤ mc) (hs : slots + 6 ≤ ms) :
    W p l e R s m args below meth c H locs cells slots (vx_MQ below Qc XC args s mc ms free) (F0 m pc ls rest) := by
  intro T hT X
  have htr : e.platform.stackTraces = false := (show e.platform.stackTraces = l.stackTraces by rw [X.admits.platform]).trans hl
  have Y := vx_rebase X (R' := { frames := R.frames, locals := R.locals, cells := 1, slots := 6 }) (Nat.le_refl _) (Nat.le_refl _) hRcells hRslots
  obtain ⟨s', hA⟩ : ∃ z, z = (T.setVm s.vm).setFrames (.invoking m args :: below) := ⟨_, rfl⟩
  rw [← hA] at Y
  have hvm : s'.vm = s.vm := by rw [hA]; rfl
  have hhp : s'.heap = H := by rw [hA]; exact hT
  have hW0 : s.WarmedH s'.vm := by rw [hvm]; exact State.WarmedH.refl s
  have hat' : ∀ w ∈ vx_atS own ic cls names, w.before args s' = true := fun w hw => vx_ot_at hW0 hvm.symm (hgood w (List.mem_cons_of_mem _ (List.mem_cons_of_mem _ hw))) (hat w hw)
  have hk' : (Cond.classLink own ik cls).before args s' = true := vx_ot_at hW0 hvm.symm (hgood _ List.mem_cons_self) hk
  have hini' : (Cond.initialized cls).before args s' = true := vx_ot_at hW0 hvm.symm (hgood _ (List.mem_cons_of_mem _ List.mem_cons_self)) hini
  have hU' : vx_Zq Bundle.tN "UNASSIGNED_STACK" Bundle.steD A s' s'.heap := by rw [hhp]; exact vx_Zq.moved hW0.alike (hU.kept hS.2.1)
  have hN' : vx_Zq Bundle.tN "SUPPRESSED_SENTINEL" Bundle.listD A s' s'.heap := by rw [hhp]; exact vx_Zq.moved hW0.alike (hN.kept hS.2.1)
  have h : ∀ w ∈ Bundle.ownAtoms own ic cls names, w.before args s' = true := vx_own hat' (vx_isRefq hU'.1) (vx_isRefq hN'.1) hU'.2.word hN'.2.word
  have hown' : s'.vm.findClass own = some m.cls := by rw [hvm]; exact hown
  have hins : (Cond.instantiable cls 6).before args s' = true := h _ (by simp [Bundle.ownAtoms])
  obtain ⟨vm₁, cX, kX, hfX, hkX, -, -, X₁, st1⟩ := Y.newCold hexec (own := own) (C := cls) (index := ik) (n := 6) hown' hk' hins hini'
    (g := F0 m pc ls rest) rfl (by rw [hb]; exact d0) (Nat.le_refl _) (Nat.le_refl _)
  generalize hT1 : (T.setVm vm₁).pushCell { cls := cX, slots := kX.instanceTypes.map defaultValue, vm := .none } = T1 at X₁ st1
  have hcat : (Value.ref T.heap.size).category = 1 := rfl
  have hcellA : T1.heap[T.heap.size]? = some (freshCell cX kX) := by rw [← hT1]; exact State.heap_pushCell_size _ _
  have d3' : decode c.code (pc + 3) = .ok (.dup, 1) := by rw [hb]; exact d3
  have d4' : decode c.code (pc + 4) = .ok (.ldc_w is, 3) := by rw [hb]; exact d4
  have hstr' : vk_R own is text sa s' := vk_R.warm hW0 hstr
  obtain ⟨U, hsteps, hrun, hend, hW, hsame, ce, hce, hO⟩ := X₁.ctorThrowS hexec htr (own := own) (cls := cls) (names := names) (ic := ic) hown' hcls hnames h (fun x hx => nomatch hx) hfX hkX hcellA (by rw [hhp, hT]; exact Nat.le_refl _) (msg := .ref sa) rfl
    (g := { method := m, pc := pc + 7, locals := ls, stack := .ref sa :: .ref T.heap.size :: .ref T.heap.size :: rest, locked := none }) rfl hsize rfl rfl (rest := rest) rfl
    (by rw [hb]; exact d7) (by rw [hb]; exact d10) hout hRframes (by simp only [List.map_cons, List.sum_cons, hcat]; omega) hlocks
  obtain ⟨f1, f2⟩ := vx_frame hsame
  rw [hhp] at f1 f2
  have hWs : s.WarmedH U.vm := State.WarmedH.trans hW0 hW
  have hcl : s.vm.findClass cls = some ce.cls := by
    have h9 := hO.cls
    rw [hvm] at h9
    exact h9
  have hall : s.sameButNew ({ U with vm := s.vm } : State) locs mc ms := by
    subst hA
    obtain ⟨e1, e2⟩ := hsame
    rw [State.setFrames_setFrames] at e1
    have h2 : (T.setVm s.vm).sameButNew ({ U with vm := s.vm } : State) [] (0 + 1) (0 + 6) := ⟨e1, e2⟩
    have h3 := X.same.trans h2
    rw [List.append_nil] at h3
    exact h3.mono hc hs
  refine ⟨U, ?_, .threw T.heap.size, hrun, hend, Or.inr ⟨T.heap.size, rfl, cls, ce, locs, hx U hWs.alike f1 (fun q hq => f2 q hq (fun z hz => nomatch hz)), hce, hO.vm, hcl, hWs, hall, hf⟩⟩
  refine st1 _ ?_
  show Steps p.tables e below (T1.setTop { method := m, pc := pc + 3, locals := ls, stack := .ref T.heap.size :: rest, locked := none }) _
  jvm_step X₁.here [X₁.here.top, hexec, d3', Value.category]
  exact X₁.ldcStringW hexec (own := own) (text := text) (index := is) (a := sa) hown' hstr'.1 hstr'.2
    (g := { method := m, pc := pc + 4, locals := ls, stack := .ref T.heap.size :: .ref T.heap.size :: rest, locked := none }) rfl d4' _ hsteps
end Ends
section Bodies
variable {l : Launch}
theorem vx_ofW {y : MethodName} {ws ws' : List Cond} {rm : Room} {Pc : Array Value → State → Prop} {Qc : Array Value → State → Outcome → State → Prop} {XC : String → State → State → Prop} {mc ms : Nat} {free : Addr → Prop} {cc : ByteArray} {maxL : Nat} {ret : Option FieldType}
    (hy : plainName y.cls = true) (hw : ws = Cond.code y cc maxL ret :: ws')
    (body : ∀ p e s m args below meth c s₁, BodyLoose p l y (headSpec ws rm) cc maxL ret e s m args below meth c s₁ → c.maxLocals = maxL → (∀ x ∈ c.exceptionTable.toList, False) → Pc args s →
      W p l e (headSpec ws rm).room s m args below meth c s.heap [] 0 0 (vx_MQ below Qc XC args s mc ms free) (entryFrame m args maxL)) : vx_Met l y ws rm Pc Qc XC mc ms free := by
  refine MetFree.of_bodyS (code := cc) (maxLocals := maxL) (ret := ret) hy ?_ ?_
  · intro args s m h hn
    obtain ⟨meth, c, h1, h2, h3, h4, h5, h6, -, -⟩ := Cond.code_spec hn (atoms_spec (ws := ws) h _ (by rw [hw]; exact List.mem_cons_self))
    exact ⟨meth, c, h1, h2, h3, h4, h5, h6⟩
  · intro p e s m args below meth c s₁ B hml hP _
    have hh0 : s₁.heap = s.heap := by rw [B.state]; rfl
    have ht : ∀ x ∈ c.exceptionTable.toList, False := by
      obtain ⟨meth9, c9, h1, h2, -, -, -, -, h7, -⟩ := Cond.code_spec B.named (atoms_spec (ws := ws) B.pre _ (by rw [hw]; exact List.mem_cons_self))
      cases Option.some.inj (h1.symm.trans B.method)
      cases Option.some.inj (h2.symm.trans (Stand.of_body B).code)
      intro x hx
      rw [Array.isEmpty_iff.mp h7] at hx
      cases hx
    obtain ⟨t, a1, o, b1, b2, b3⟩ := body p e s m args below meth c s₁ B hml ht hP s₁ hh0 (Stand.of_body B)
    exact ⟨t, o, a1, b1, b2, b3⟩
/-- the table of a body with handlers -/
theorem vx_table {p : Program} {x y : MethodName} {S : Spec} {cc bytes : ByteArray} {maxL maxL' : Nat} {ret ret' : Option FieldType} {e : Env} {s s₁ : State} {m : MethodId} {args : Array Value} {below : List Frame} {meth : Method} {c : Code} {hh : List (Nat × Nat × Nat × Nat)}
    (B : BodyLoose p l y S cc maxL ret e s m args below meth c s₁) (h : (Cond.codeWith y bytes maxL' ret' hh).before args s = true) : c.exceptionTable.toList = tableOf hh := by
  obtain ⟨m9, meth9, c9, hn9, h1, h2, -, -, h6, -⟩ := Cond.codeWith_spec h
  cases Option.some.inj (hn9.symm.trans B.named)
  cases Option.some.inj (h1.symm.trans B.method)
  cases Option.some.inj (h2.symm.trans (Stand.of_body B).code)
  rw [← h6, table_eq]
end Bodies
end VXA
/-! ===== END ===== -/
/-! ===== BEGIN a static call of a method with an exception table ===== -/
section VXS
variable {p : Program} {l : Launch} {e : Env} {R : Room} {s : State} {m : MethodId} {args : Array Value} {below : List Frame} {meth : Method} {c : Code} {T : State} {H : Heap} {locs : List Loc} {cells slots : Nat}
abbrev vx_CSW (R : Room) (s : State) (args : Array Value) (own : String) (index : Nat) (y : MethodName) (bytes : ByteArray) (maxL : Nat) (ret : Option FieldType) (hh : List (Nat × Nat × Nat × Nat)) (ws : List Cond) (rm : Room) (mc ms n : Nat) : Prop :=
  (rm.cells = mc ∧ rm.slots = ms ∧ rm.frames + 1 ≤ R.frames ∧ 8 + (maxL + 11) + rm.locals ≤ R.locals ∧ (∀ w ∈ ws, ∀ (a' : Array Value) (U : State), s.WarmedH U.vm → w.before a' U = true) ∧ Cond.codeWith y bytes maxL ret hh ∈ ws) ∧
  (Cond.codeWith y bytes maxL ret hh).before args s = true ∧ (Cond.initialized y.cls).before args s = true ∧ (y.cls ≠ "java/lang/invoke/MethodHandle" ∧ y.cls ≠ "java/lang/invoke/VarHandle") ∧
  (∀ sig, parseMethodDescriptor y.desc = some sig → n = sig.parameters.length) ∧ (Cond.methodLink own index y).before args s = true ∧ (Cond.static y).before args s = true
theorem vx_cwSW {own : String} {index maxL mc ms : Nat} {y : MethodName} {bytes : ByteArray} {ret : Option FieldType} {hh : List (Nat × Nat × Nat × Nat)} {Ts ws ws' : List Cond} {rm : Room} (n : Nat) (ht : ∀ w ∈ Ts, w.before args s = true) (hT : GoodIn Ts (va_wsS own index y ws)) (hw : ws = Cond.codeWith y bytes maxL ret hh :: ws') (hrc : rm.cells = mc) (hrs : rm.slots = ms)
    (hd : y.cls ≠ "java/lang/invoke/MethodHandle" ∧ y.cls ≠ "java/lang/invoke/VarHandle" ∧ (parseMethodDescriptor y.desc).map (fun d => d.parameters.length) = some n) (hR : rm.frames + 1 ≤ R.frames ∧ 8 + (maxL + 11) + rm.locals ≤ R.locals) :
    vx_CSW R s args own index y bytes maxL ret hh ws rm mc ms n := by
  have ok : ∀ w ∈ va_wsS own index y ws, w.before args s = true := fun w h => ht w (hT w h).1
  have hG : GoodIn Ts ws := fun w h => hT w (by unfold va_wsS; exact List.mem_append_right _ h)
  have hc : Cond.codeWith y bytes maxL ret hh ∈ ws := by rw [hw]; exact List.mem_cons_self
  refine ⟨⟨hrc, hrs, hR.1, hR.2, pay_in ht hG, hc⟩, ht _ (hG _ hc).1, ok _ (by simp [va_wsS]), ⟨hd.1, hd.2.1⟩, fun sig h => ?_, ok _ (by simp [va_wsS]), ok _ (by simp [va_wsS])⟩
  have h2 := hd.2.2
  rw [h] at h2
  exact (Option.some.inj h2).symm
theorem vx_callSW (X : Stand p l e R s m args below meth c T locs cells slots) (hexec : p.tables.exec = Jvm.exec) {own : String} {index : Nat} {y : MethodName} {bytes : ByteArray} {maxL : Nat} {ret : Option FieldType} {hh : List (Nat × Nat × Nat × Nat)}
    (hown : s.vm.findClass own = some m.cls) (hlink : (Cond.methodLink own index y).before args s = true) (hstat : (Cond.static y).before args s = true) (hinit : (Cond.initialized y.cls).before args s = true)
    (hcode : (Cond.codeWith y bytes maxL ret hh).before args s = true) (hy : y.cls ≠ "java/lang/invoke/MethodHandle" ∧ y.cls ≠ "java/lang/invoke/VarHandle")
    {W9 : Nat} {Pre : Pt → Array Value → Prop} {Post : Pt → Array Value → Option Value → Pt → Prop} (hK : Back l R p e below s args y 3 W9 Pre Post)
    {g : JFrame} (hg : g.method = m) (hsize : g.locals.size = c.maxLocals) {argsL rest : List Value} (hlen : ∀ sig, parseMethodDescriptor y.desc = some sig → argsL.length = sig.parameters.length)
    (hstack : g.stack = argsL.reverse ++ rest) (hW : 2 * g.monitorRoom + (rest.map fun v => v.category).sum ≤ W9) (hdg : decode c.code g.pc = .ok (.invokestatic index, 3))
    (hpre : ∀ vm₁, s.WarmedH vm₁ → Pre ⟨T.setVm vm₁, locs, cells, slots⟩ argsL.toArray) :
    ∃ (v : Option Value) (vm₁ : Vm) (B : Pt), s.WarmedH vm₁ ∧ Stand p l e R s m args below meth c B.U B.locs B.cells B.slots ∧ Post ⟨T.setVm vm₁, locs, cells, slots⟩ argsL.toArray v B ∧
      ∀ target, Steps p.tables e below (B.U.setTop { g with pc := g.pc + 3, stack := v.toList ++ rest }) target → Steps p.tables e below (T.setTop g) target := by
  obtain ⟨mk, methM, cM, hnamed, hmethM, -, -, -, -, -, -, hsigM⟩ := Cond.codeWith_spec hcode
  have hstatic : methM.isStatic = true := Cond.static_spec hnamed hmethM hstat
  obtain ⟨kP, hkP, -⟩ := className_of_methodNamed hnamed
  have hinitP : kP.init = .initialized := Cond.initialized_spec (findClass_of_methodNamed hnamed) hkP hinit
  obtain ⟨vm₁, X₁, hstep₁⟩ := X.invokestatic hexec hown hlink hnamed hmethM hstatic hkP hinitP hy (g := g) hg (argsL := argsL) (rest := rest) (hlen _ hsigM) hstack hdg
  obtain ⟨v, B, X', hpost, hsteps⟩ := hK m meth c ⟨T.setVm vm₁, locs, cells, slots⟩ { g with stack := rest } (.invokestatic index) mk argsL.toArray X₁ hg hsize hdg hW (X₁.named hnamed) (hpre vm₁ X₁.warmed)
  exact ⟨v, vm₁, B, X₁.warmed, X', hpost, fun target h => hstep₁ _ fun acts => by rw [doInvoke_state]; exact hsteps.trans h⟩
theorem vx_runSW {y : MethodName} {bytes cc : ByteArray} {maxL nL mc ms n index : Nat} {ret : Option FieldType} {hh : List (Nat × Nat × Nat × Nat)} {ws : List Cond} {rm : Room} {Pc : Array Value → State → Prop} {Qc : Array Value → State → Outcome → State → Prop} {free : Addr → Prop} {Ts : List Cond} {own : String} {As rest : List Value} {g : JFrame}
    (S : CallFix p m c cc nL s args Ts own) (hM : Met l y ws rm Pc Qc mc ms free) (cw : vx_CSW R s args own index y bytes maxL ret hh ws rm mc ms n) (hp : PreS s H Pc As)
    (hg : g.method = m) (hn : As.length = n) (hsize : g.locals.size = nL) (hstack : g.stack = As.reverse ++ rest) (hW : 2 * g.monitorRoom + (rest.map fun v => v.category).sum ≤ 8) (hdg : decode cc g.pc = .ok (.invokestatic index, 3)) (hf : cells + mc ≤ R.cells ∧ slots + ms ≤ R.slots) :
    va_Run p l e R s m args below meth c H locs cells slots mc ms g rest (Qc As.toArray) (free) := by
  obtain ⟨⟨hrc, hrs, hfr, hlo, hws, hcw⟩, hcode, hini, hy, hlen, hl, hstt⟩ := cw
  have hK : Back l R p e below s args y 3 8 (PreOf R mc ms Pc) (PostOf Qc mc ms free) := va_backW (hh := hh) (bytes := bytes) (maxL := maxL) (ret := ret) hM hp.1 hrc hrs hfr hlo hws hcw (fun a' U hW => word_at hW (Or.inl (by first | rfl | simp [Cond.onTables, Cond.keeps, Cond.steady])) hini)
  obtain ⟨hx, hb, hml, ho, -⟩ := S
  intro T hT X
  obtain ⟨v, vm₁, ⟨U', l2, c2, s2⟩, hW₁, X', ⟨g', mk, t, L, e1, e2, hq, h1, hL, h2, h3⟩, st⟩ := vx_callSW X hx (hh := hh) (bytes := bytes) (maxL := maxL) (ret := ret) ho hl hstt hini hcode hy hK hg (hsize.trans hml.symm) (argsL := As) (rest := rest) (fun sig h => hn.trans (hlen sig h)) hstack hW (by rw [hb]; exact hdg)
    (fun vm₁ hW₁ => ⟨hf.1, hf.2, hp.2 (T.setVm vm₁) hT hW₁⟩)
  dsimp only [Pt.U, Pt.locs, Pt.cells, Pt.slots] at X' e1 e2 h1 h2 h3 st
  subst h1; subst h2; subst h3
  exact ⟨v, (T.setVm vm₁).calling g' mk As.toArray, t, U', L, hT, X', hL, e1, e2, hq, st⟩
/-- a thing of a world lies in the heap -/
theorem vx_lt {D : va_G} {cl : List vw_C} {ws : va_W} {H1 : Heap} (h : va_P D cl ws H1) {k : Nat} {q : Nat × va_E} (hk : ws[k]? = some q) : q.1 < H1.size := (h k q hk).lt
end VXS
/-! ===== END ===== -/
/-! ===== BEGIN methods with a table of their own: called by a name, returning or throwing ===== -/
section VXH
/-! vx_backW, vx_callVX, vx_callSX, vx_callVW, vx_runVW, vx_runVX, vx_runSX, vx_ofWH follow the same proofs as their sisters above (Free/Laws.lean, Shelf42/LK1.lean); vx_outP calls Shelf42/NT130.lean (outThrough). -/
section
variable {l : Launch} {R : Room} {p : Program} {e : Env} {below : List Frame} {s : State} {sargs : Array Value} {y : MethodName} {len W9 : Nat}
theorem vx_backW {ws : List Cond} {rm : Room} {Pc : Array Value → State → Prop} {Qc : Array Value → State → Outcome → State → Prop} {XC : String → State → State → Prop} {mc ms : Nat} {free : Addr → Prop} {bytes : ByteArray} {maxL : Nat} {ret : Option FieldType} {hh : List (Nat × Nat × Nat × Nat)}
    (hM : vx_Met l y ws rm Pc Qc XC mc ms free) (hblind : FrameBlind Pc) (hrc : rm.cells = mc) (hrs : rm.slots = ms)
    (hframes : rm.frames + 1 ≤ R.frames) (hlocals : W9 + (maxL + 11) + rm.locals ≤ R.locals)
    (hws : ∀ w ∈ ws, ∀ a' U, s.WarmedH U.vm → w.before a' U = true) (hcode : Cond.codeWith y bytes maxL ret hh ∈ ws) (hinit : ∀ a' U, s.WarmedH U.vm → (Cond.initialized y.cls).before a' U = true) :
    vx_Back l R p e below s sargs y len W9 (PreOf R mc ms Pc) (PostOf Qc mc ms free) (vx_Post XC mc ms free) := by
  intro m meth c A g ig mk a X hg hsize hdg hW hn hp
  have h1 : (headSpec ws rm).pre.before a A.U = true := atoms_intro fun w hw => hws w hw _ _ X.warmed
  have h2 : (Cond.codeWith y bytes maxL ret hh).before a A.U = true := hws _ hcode _ _ X.warmed
  have h3 : (Cond.initialized y.cls).before a A.U = true := hinit _ _ X.warmed
  have h4 : A.cells + (headSpec ws rm).room.cells ≤ R.cells := by rw [show (headSpec ws rm).room.cells = mc from hrc]; exact hp.1
  have h5 : A.slots + (headSpec ws rm).room.slots ≤ R.slots := by rw [show (headSpec ws rm).room.slots = ms from hrs]; exact hp.2.1
  have hPc : Pc a (A.U.calling g mk a) := hblind _ _ _ _ hp.2.2
  obtain ⟨U, Ls, c0, s0⟩ := A
  dsimp only [Pt.U, Pt.locs, Pt.cells, Pt.slots] at h1 h2 h3 h4 h5 X hn hPc ⊢
  obtain ⟨m9, methY, cY, hn9, hmY, hcY, -, hlY, -⟩ := Cond.codeWith_spec h2
  cases Option.some.inj (hn9.symm.trans hn)
  obtain ⟨kY, hkY, -⟩ := className_of_methodNamed hn
  have hinitY : kY.init = .initialized := Cond.initialized_spec (findClass_of_methodNamed hn) hkY h3
  have h : At U g.method c below := by rw [hg]; exact X.here
  have hlocals9 : W9 + (maxL + 11) + (headSpec ws rm).room.locals ≤ R.locals := hlocals
  have happ : (headSpec ws rm).appliesLoose y e.platform (U.calling g mk a) = true :=
    Spec.appliesLoose_calling (g := g) h hdg hn hkY hinitY
      (X.room_calling (g := g) (R' := (headSpec ws rm).room) hsize hmY hcY hframes (by rw [hlY]; omega) h4 h5) h1
  obtain ⟨mid, hmid⟩ := h.above
  have hfr : (U.setTop g).frames = (.java g :: mid) ++ below := by rw [State.frames_setTop' g h.top, hmid]; rfl
  obtain ⟨o, s₂, hsteps, -, hend, hq⟩ := Steps.callFree hM p X.admits X.cas X.clock (acts := []) hfr happ hPc trivial
  have hq' : vx_Q Qc XC mc ms free a (U.calling g mk a) o s₂ := hq
  rw [State.frames_setTop' g h.top] at hend
  obtain ⟨g₀, hg0⟩ := Option.isSome_iff_exists.mp h.top
  obtain ⟨r, hr⟩ := State.topJava?_eq_some.mp hg0
  have hr' : (({ U with heap := s₂.heap, slotsUsed := s₂.slotsUsed } : State).setVm s₂.vm).frames = .java g₀ :: r := hr
  rcases hq' with ⟨hqc, L, hfe, hL⟩ | ⟨q, rfl, E, ce, L, hx, hce, hcv, hcl, hW₂, hsm, hL⟩
  · obtain ⟨⟨v, rfl⟩, hW₂, e2, q2, q3, q4, q5, q6⟩ := id hfe
    have e3 : s₂ = ({ (U.calling g mk a).setFrames s₂.frames with heap := s₂.heap, slotsUsed := s₂.slotsUsed } : State).setVm s₂.vm := by
      have : s₂ = ({ s₂ with vm := (U.calling g mk a).vm } : State).setVm s₂.vm := rfl
      rw [e2] at this
      exact this
    obtain ⟨c₂, i₂, len₂, hc₂, hd₂, hf₂⟩ := hend
    have hW' : U.WarmedH s₂.vm := hW₂
    have hcc : c₂ = c := by
      have h1 : s₂.code? g.method = U.code? g.method := by
        rw [State.code?_eq, State.code?_eq, hW'.alike.method?]
      exact Option.some.inj (hc₂.symm.trans (h1.trans h.code))
    subst hcc
    have hlen : len₂ = len := by rw [hdg] at hd₂; cases hd₂; rfl
    subst hlen
    have hs₂ : s₂ = (({ U with heap := s₂.heap, slotsUsed := s₂.slotsUsed } : State).setVm s₂.vm).setTop { g with pc := g.pc + len₂, stack := v.toList ++ g.stack } := by
      refine e3.trans ?_
      rw [hf₂, State.calling_eq h.top, State.setFrames_setFrames, State.setTop_of_frames _ hr', hr]
      rfl
    have hsame : U.sameButNew ({ U with heap := s₂.heap, slotsUsed := s₂.slotsUsed } : State) L mc ms := by
      refine ⟨?_, q2, q3, q4, q5, q6⟩
      obtain ⟨t, ht, -⟩ := State.frames_cons hr
      show ({ U with heap := s₂.heap, slotsUsed := s₂.slotsUsed } : State) = { U.setFrames U.frames with heap := s₂.heap, slotsUsed := s₂.slotsUsed }
      rw [State.setFrames_self ht]
    subst hg
    refine Or.inl ⟨v, ⟨(({ U with heap := s₂.heap, slotsUsed := s₂.slotsUsed } : State).setVm s₂.vm), Ls ++ L, c0 + mc, s0 + ms⟩,
      ⟨X.admits, X.cas, X.clock, X.frames, X.room, X.hears, X.method, X.code, (X.here.setHeapUsed s₂.heap s₂.slotsUsed).setVm hW'.alike, X.tail, State.WarmedH.trans X.warmed hW', X.limits, X.bytes, X.same.trans (hsame.setVm s.vm)⟩,
      ⟨g, mk, s₂, L, rfl, rfl, hqc, rfl, hL, rfl, rfl⟩, ?_⟩
    show Steps p.tables e below _ ((({ U with heap := s₂.heap, slotsUsed := s₂.slotsUsed } : State).setVm s₂.vm).setTop { g with pc := g.pc + len₂, stack := v.toList ++ g.stack })
    rw [← hs₂]
    exact hsteps
  · obtain ⟨e2, q2, q3, q4, q5, q6⟩ := id hsm
    have e3 : s₂ = ({ (U.calling g mk a).setFrames s₂.frames with heap := s₂.heap, slotsUsed := s₂.slotsUsed } : State).setVm s₂.vm := by
      have : s₂ = ({ s₂ with vm := (U.calling g mk a).vm } : State).setVm s₂.vm := rfl
      rw [e2] at this
      exact this
    have hf₂ : s₂.frames = .throwing q :: .java g :: U.frames.tail := hend
    have hW' : U.WarmedH s₂.vm := hW₂
    have hs₂ : s₂ = ((({ U with heap := s₂.heap, slotsUsed := s₂.slotsUsed } : State).setVm s₂.vm).setTop g).pushFrame (.throwing q) := by
      refine e3.trans ?_
      rw [hf₂, State.calling_eq h.top, State.setFrames_setFrames, State.pushFrame, State.frames_setTop _ hr', State.setTop_of_frames _ hr', State.setFrames_setFrames, hr]
      rfl
    have hsame : U.sameButNew ({ U with heap := s₂.heap, slotsUsed := s₂.slotsUsed } : State) L mc ms := by
      refine ⟨?_, q2, q3, q4, q5, q6⟩
      obtain ⟨t, ht, -⟩ := State.frames_cons hr
      show ({ U with heap := s₂.heap, slotsUsed := s₂.slotsUsed } : State) = { U.setFrames U.frames with heap := s₂.heap, slotsUsed := s₂.slotsUsed }
      rw [State.setFrames_self ht]
    subst hg
    refine Or.inr ⟨q, ⟨(({ U with heap := s₂.heap, slotsUsed := s₂.slotsUsed } : State).setVm s₂.vm), Ls ++ L, c0 + mc, s0 + ms⟩,
      ⟨X.admits, X.cas, X.clock, X.frames, X.room, X.hears, X.method, X.code, (X.here.setHeapUsed s₂.heap s₂.slotsUsed).setVm hW'.alike, X.tail, State.WarmedH.trans X.warmed hW', X.limits, X.bytes, X.same.trans (hsame.setVm s.vm)⟩,
      ⟨g, mk, s₂, L, E, ce, rfl, rfl, hx, hce, hcv, hcl, rfl, hL, rfl, rfl⟩, ?_⟩
    show Steps p.tables e below _ (((({ U with heap := s₂.heap, slotsUsed := s₂.slotsUsed } : State).setVm s₂.vm).setTop g).pushFrame (.throwing q))
    rw [← hs₂]
    exact hsteps
end
variable {p : Program} {l : Launch} {e : Env} {R : Room} {s : State} {m : MethodId} {args : Array Value} {below : List Frame} {meth : Method} {c : Code} {T : State} {H : Heap} {locs : List Loc} {cells slots : Nat}
theorem vx_callVX (X : Stand p l e R s m args below meth c T locs cells slots) (hexec : p.tables.exec = Jvm.exec) {own C : String} {index : Nat} {y : MethodName} {bytes : ByteArray} {maxL : Nat} {ret : Option FieldType} {hh : List (Nat × Nat × Nat × Nat)}
    (hown : s.vm.findClass own = some m.cls) (hlink : (Cond.methodLink own index y).before args s = true) (hinst : (Cond.instanceMethod y).before args s = true) (hsel : (Cond.selects C y y).before args s = true)
    (hcode : (Cond.codeWith y bytes maxL ret hh).before args s = true) (hy : y.cls ≠ "java/lang/invoke/MethodHandle" ∧ y.cls ≠ "java/lang/invoke/VarHandle")
    {W9 : Nat} {Pre : Pt → Array Value → Prop} {Post : Pt → Array Value → Option Value → Pt → Prop} {PostX : Pt → Array Value → Addr → Pt → Prop} (hK : vx_Back l R p e below s args y 3 W9 Pre Post PostX)
    {b : Addr} {cellB : Cell} (hcell : T.heap[b]? = some cellB) (hobj : cellB.vm.isStatics = false) (hcls : s.vm.findClass C = some cellB.cls)
    {g : JFrame} (hg : g.method = m) (hsize : g.locals.size = c.maxLocals) {argsL rest : List Value} (hlen : ∀ sig, parseMethodDescriptor y.desc = some sig → argsL.length = sig.parameters.length)
    (hstack : g.stack = argsL.reverse ++ .ref b :: rest) (hW : 2 * g.monitorRoom + (rest.map fun v => v.category).sum ≤ W9) (hdg : decode c.code g.pc = .ok (.invokevirtual index, 3))
    (hpre : ∀ vm₁, s.WarmedH vm₁ → Pre ⟨T.setVm vm₁, locs, cells, slots⟩ (Value.ref b :: argsL).toArray) :
    (∃ (v : Option Value) (vm₁ : Vm) (B : Pt), s.WarmedH vm₁ ∧ Stand p l e R s m args below meth c B.U B.locs B.cells B.slots ∧ Post ⟨T.setVm vm₁, locs, cells, slots⟩ (Value.ref b :: argsL).toArray v B ∧
      ∀ target, Steps p.tables e below (B.U.setTop { g with pc := g.pc + 3, stack := v.toList ++ rest }) target → Steps p.tables e below (T.setTop g) target) ∨
    (∃ (q : Addr) (vm₁ : Vm) (B : Pt), s.WarmedH vm₁ ∧ Stand p l e R s m args below meth c B.U B.locs B.cells B.slots ∧ PostX ⟨T.setVm vm₁, locs, cells, slots⟩ (Value.ref b :: argsL).toArray q B ∧
      Steps p.tables e below (T.setTop g) ((B.U.setTop { g with stack := rest }).pushFrame (.throwing q))) := by
  obtain ⟨mk, methM, hnamed, hmethM, hstM, habM⟩ := Cond.instanceMethod_spec hinst
  obtain ⟨m8, methM', cM, hn8, hmethM', -, -, -, -, -, -, hsigM⟩ := Cond.codeWith_spec hcode
  cases Option.some.inj (hn8.symm.trans hnamed)
  cases hmethM.symm.trans hmethM'
  obtain ⟨c2, r2, m2, q1, q2, q3, q4, kP, hkP, hkPi⟩ := Cond.selects_spec hsel
  cases hcls.symm.trans q1
  cases (State.methodFound?_of_named hnamed hy).symm.trans q2
  cases hnamed.symm.trans q3
  have hselP : selectMethod e.platform s.vm cellB.cls mk = .method mk := by rw [Launch.admits_selectMethod X.admits]; exact q4
  obtain ⟨vm₁, X₁, hstep₁⟩ := X.invokevirtual hexec hown hlink hnamed hmethM hstM hkP hkPi hy (a := b) (cell := cellB) hcell
    (fun z h => by rw [h] at hobj; cases hobj) hselP hmethM habM hkP hkPi (g := g) hg (argsL := argsL) (rest := rest) (hlen _ hsigM) hstack hdg
  rcases hK m meth c ⟨T.setVm vm₁, locs, cells, slots⟩ { g with stack := rest } (.invokevirtual index) mk (Value.ref b :: argsL).toArray X₁ hg hsize hdg hW (X₁.named hnamed) (hpre vm₁ X₁.warmed) with ⟨v, B, X', hpost, hsteps⟩ | ⟨q, B, X', hpost, hsteps⟩
  · exact Or.inl ⟨v, vm₁, B, X₁.warmed, X', hpost, fun target h => hstep₁ _ fun acts => by rw [doInvoke_state]; exact hsteps.trans h⟩
  · exact Or.inr ⟨q, vm₁, B, X₁.warmed, X', hpost, hstep₁ _ fun acts => by rw [doInvoke_state]; exact hsteps⟩
theorem vx_callSX (X : Stand p l e R s m args below meth c T locs cells slots) (hexec : p.tables.exec = Jvm.exec) {own : String} {index : Nat} {y : MethodName} {bytes : ByteArray} {maxL : Nat} {ret : Option FieldType} {hh : List (Nat × Nat × Nat × Nat)}
    (hown : s.vm.findClass own = some m.cls) (hlink : (Cond.methodLink own index y).before args s = true) (hstat : (Cond.static y).before args s = true) (hinit : (Cond.initialized y.cls).before args s = true)
    (hcode : (Cond.codeWith y bytes maxL ret hh).before args s = true) (hy : y.cls ≠ "java/lang/invoke/MethodHandle" ∧ y.cls ≠ "java/lang/invoke/VarHandle")
    {W9 : Nat} {Pre : Pt → Array Value → Prop} {Post : Pt → Array Value → Option Value → Pt → Prop} {PostX : Pt → Array Value → Addr → Pt → Prop} (hK : vx_Back l R p e below s args y 3 W9 Pre Post PostX)
    {g : JFrame} (hg : g.method = m) (hsize : g.locals.size = c.maxLocals) {argsL rest : List Value} (hlen : ∀ sig, parseMethodDescriptor y.desc = some sig → argsL.length = sig.parameters.length)
    (hstack : g.stack = argsL.reverse ++ rest) (hW : 2 * g.monitorRoom + (rest.map fun v => v.category).sum ≤ W9) (hdg : decode c.code g.pc = .ok (.invokestatic index, 3))
    (hpre : ∀ vm₁, s.WarmedH vm₁ → Pre ⟨T.setVm vm₁, locs, cells, slots⟩ argsL.toArray) :
    (∃ (v : Option Value) (vm₁ : Vm) (B : Pt), s.WarmedH vm₁ ∧ Stand p l e R s m args below meth c B.U B.locs B.cells B.slots ∧ Post ⟨T.setVm vm₁, locs, cells, slots⟩ argsL.toArray v B ∧
      ∀ target, Steps p.tables e below (B.U.setTop { g with pc := g.pc + 3, stack := v.toList ++ rest }) target → Steps p.tables e below (T.setTop g) target) ∨
    (∃ (q : Addr) (vm₁ : Vm) (B : Pt), s.WarmedH vm₁ ∧ Stand p l e R s m args below meth c B.U B.locs B.cells B.slots ∧ PostX ⟨T.setVm vm₁, locs, cells, slots⟩ argsL.toArray q B ∧
      Steps p.tables e below (T.setTop g) ((B.U.setTop { g with stack := rest }).pushFrame (.throwing q))) := by
  obtain ⟨mk, methM, cM, hnamed, hmethM, -, -, -, -, -, -, hsigM⟩ := Cond.codeWith_spec hcode
  have hstatic : methM.isStatic = true := Cond.static_spec hnamed hmethM hstat
  obtain ⟨kP, hkP, -⟩ := className_of_methodNamed hnamed
  have hinitP : kP.init = .initialized := Cond.initialized_spec (findClass_of_methodNamed hnamed) hkP hinit
  obtain ⟨vm₁, X₁, hstep₁⟩ := X.invokestatic hexec hown hlink hnamed hmethM hstatic hkP hinitP hy (g := g) hg (argsL := argsL) (rest := rest) (hlen _ hsigM) hstack hdg
  rcases hK m meth c ⟨T.setVm vm₁, locs, cells, slots⟩ { g with stack := rest } (.invokestatic index) mk argsL.toArray X₁ hg hsize hdg hW (X₁.named hnamed) (hpre vm₁ X₁.warmed) with ⟨v, B, X', hpost, hsteps⟩ | ⟨q, B, X', hpost, hsteps⟩
  · exact Or.inl ⟨v, vm₁, B, X₁.warmed, X', hpost, fun target h => hstep₁ _ fun acts => by rw [doInvoke_state]; exact hsteps.trans h⟩
  · exact Or.inr ⟨q, vm₁, B, X₁.warmed, X', hpost, hstep₁ _ fun acts => by rw [doInvoke_state]; exact hsteps⟩
theorem vx_callVW (X : Stand p l e R s m args below meth c T locs cells slots) (hexec : p.tables.exec = Jvm.exec) {own C : String} {index : Nat} {y : MethodName} {bytes : ByteArray} {maxL : Nat} {ret : Option FieldType} {hh : List (Nat × Nat × Nat × Nat)}
    (hown : s.vm.findClass own = some m.cls) (hlink : (Cond.methodLink own index y).before args s = true) (hinst : (Cond.instanceMethod y).before args s = true) (hsel : (Cond.selects C y y).before args s = true)
    (hcode : (Cond.codeWith y bytes maxL ret hh).before args s = true) (hy : y.cls ≠ "java/lang/invoke/MethodHandle" ∧ y.cls ≠ "java/lang/invoke/VarHandle")
    {W9 : Nat} {Pre : Pt → Array Value → Prop} {Post : Pt → Array Value → Option Value → Pt → Prop} (hK : Back l R p e below s args y 3 W9 Pre Post)
    {b : Addr} {cellB : Cell} (hcell : T.heap[b]? = some cellB) (hobj : cellB.vm.isStatics = false) (hcls : s.vm.findClass C = some cellB.cls)
    {g : JFrame} (hg : g.method = m) (hsize : g.locals.size = c.maxLocals) {argsL rest : List Value} (hlen : ∀ sig, parseMethodDescriptor y.desc = some sig → argsL.length = sig.parameters.length)
    (hstack : g.stack = argsL.reverse ++ .ref b :: rest) (hW : 2 * g.monitorRoom + (rest.map fun v => v.category).sum ≤ W9) (hdg : decode c.code g.pc = .ok (.invokevirtual index, 3))
    (hpre : ∀ vm₁, s.WarmedH vm₁ → Pre ⟨T.setVm vm₁, locs, cells, slots⟩ (Value.ref b :: argsL).toArray) :
    ∃ (v : Option Value) (vm₁ : Vm) (B : Pt), s.WarmedH vm₁ ∧ Stand p l e R s m args below meth c B.U B.locs B.cells B.slots ∧ Post ⟨T.setVm vm₁, locs, cells, slots⟩ (Value.ref b :: argsL).toArray v B ∧
      ∀ target, Steps p.tables e below (B.U.setTop { g with pc := g.pc + 3, stack := v.toList ++ rest }) target → Steps p.tables e below (T.setTop g) target := by
  obtain ⟨mk, methM, hnamed, hmethM, hstM, habM⟩ := Cond.instanceMethod_spec hinst
  obtain ⟨m8, methM', cM, hn8, hmethM', -, -, -, -, -, -, hsigM⟩ := Cond.codeWith_spec hcode
  cases Option.some.inj (hn8.symm.trans hnamed)
  cases hmethM.symm.trans hmethM'
  obtain ⟨c2, r2, m2, q1, q2, q3, q4, kP, hkP, hkPi⟩ := Cond.selects_spec hsel
  cases hcls.symm.trans q1
  cases (State.methodFound?_of_named hnamed hy).symm.trans q2
  cases hnamed.symm.trans q3
  have hselP : selectMethod e.platform s.vm cellB.cls mk = .method mk := by rw [Launch.admits_selectMethod X.admits]; exact q4
  obtain ⟨vm₁, X₁, hstep₁⟩ := X.invokevirtual hexec hown hlink hnamed hmethM hstM hkP hkPi hy (a := b) (cell := cellB) hcell
    (fun z h => by rw [h] at hobj; cases hobj) hselP hmethM habM hkP hkPi (g := g) hg (argsL := argsL) (rest := rest) (hlen _ hsigM) hstack hdg
  obtain ⟨v, B, X', hpost, hsteps⟩ := hK m meth c ⟨T.setVm vm₁, locs, cells, slots⟩ { g with stack := rest } (.invokevirtual index) mk (Value.ref b :: argsL).toArray X₁ hg hsize hdg hW (X₁.named hnamed) (hpre vm₁ X₁.warmed)
  exact ⟨v, vm₁, B, X₁.warmed, X', hpost, fun target h => hstep₁ _ fun acts => by rw [doInvoke_state]; exact hsteps.trans h⟩
abbrev vx_CVW (R : Room) (s : State) (args : Array Value) (own C : String) (index : Nat) (y : MethodName) (bytes : ByteArray) (maxL : Nat) (ret : Option FieldType) (hh : List (Nat × Nat × Nat × Nat)) (ws : List Cond) (rm : Room) (mc ms n : Nat) : Prop :=
  (rm.cells = mc ∧ rm.slots = ms ∧ rm.frames + 1 ≤ R.frames ∧ 8 + (maxL + 11) + rm.locals ≤ R.locals ∧ (∀ w ∈ ws, ∀ (a' : Array Value) (U : State), s.WarmedH U.vm → w.before a' U = true) ∧ Cond.codeWith y bytes maxL ret hh ∈ ws) ∧
  (Cond.codeWith y bytes maxL ret hh).before args s = true ∧ (Cond.initialized y.cls).before args s = true ∧ (y.cls ≠ "java/lang/invoke/MethodHandle" ∧ y.cls ≠ "java/lang/invoke/VarHandle") ∧
  (∀ sig, parseMethodDescriptor y.desc = some sig → n = sig.parameters.length) ∧ (Cond.methodLink own index y).before args s = true ∧ (Cond.instanceMethod y).before args s = true ∧ (Cond.selects C y y).before args s = true
theorem vx_cwVW {own C : String} {index maxL mc ms : Nat} {y : MethodName} {bytes : ByteArray} {ret : Option FieldType} {hh : List (Nat × Nat × Nat × Nat)} {Ts ws ws' : List Cond} {rm : Room} (n : Nat) (ht : ∀ w ∈ Ts, w.before args s = true) (hT : GoodIn Ts (wsV own index C y ws)) (hw : ws = Cond.codeWith y bytes maxL ret hh :: ws') (hrc : rm.cells = mc) (hrs : rm.slots = ms)
    (hd : y.cls = C ∧ y.cls ≠ "java/lang/invoke/MethodHandle" ∧ y.cls ≠ "java/lang/invoke/VarHandle" ∧ (parseMethodDescriptor y.desc).map (fun d => d.parameters.length) = some n) (hR : rm.frames + 1 ≤ R.frames ∧ 8 + (maxL + 11) + rm.locals ≤ R.locals) :
    vx_CVW R s args own C index y bytes maxL ret hh ws rm mc ms n := by
  obtain ⟨hC, hd⟩ := hd
  subst hC
  have ok : ∀ w ∈ wsV own index y.cls y ws, w.before args s = true := fun w h => ht w (hT w h).1
  have hG : GoodIn Ts ws := fun w h => hT w (by unfold wsV; exact List.mem_append_right _ h)
  have hc : Cond.codeWith y bytes maxL ret hh ∈ ws := by rw [hw]; exact List.mem_cons_self
  refine ⟨⟨hrc, hrs, hR.1, hR.2, pay_in ht hG, hc⟩, ht _ (hG _ hc).1, ok _ (by simp [wsV]), ⟨hd.1, hd.2.1⟩, fun sig h => ?_, ok _ (by simp [wsV]), ok _ (by simp [wsV]), ok _ (by simp [wsV])⟩
  have h2 := hd.2.2
  rw [h] at h2
  exact (Option.some.inj h2).symm
theorem vx_runVW {y : MethodName} {bytes cc : ByteArray} {maxL nL mc ms n index : Nat} {ret : Option FieldType} {hh : List (Nat × Nat × Nat × Nat)} {ws : List Cond} {rm : Room} {Pc : Array Value → State → Prop} {Qc : Array Value → State → Outcome → State → Prop} {free : Addr → Prop} {Ts : List Cond} {own C : String} {b : Addr} {As rest : List Value} {g : JFrame}
    (S : CallFix p m c cc nL s args Ts own) (hM : Met l y ws rm Pc Qc mc ms free) (cw : vx_CVW R s args own C index y bytes maxL ret hh ws rm mc ms n) (hp : PreV s H C b Pc As)
    (hg : g.method = m) (hn : As.length = n) (hsize : g.locals.size = nL) (hstack : g.stack = As.reverse ++ .ref b :: rest) (hW : 2 * g.monitorRoom + (rest.map fun v => v.category).sum ≤ 8) (hdg : decode cc g.pc = .ok (.invokevirtual index, 3)) (hf : cells + mc ≤ R.cells ∧ slots + ms ≤ R.slots) :
    va_Run p l e R s m args below meth c H locs cells slots mc ms g rest (Qc (Value.ref b :: As).toArray) free := by
  obtain ⟨⟨hrc, hrs, hfr, hlo, hws, hcw⟩, hcode, hini, hy, hlen, hl, hin, hse⟩ := cw
  have hK : Back l R p e below s args y 3 8 (PreOf R mc ms Pc) (PostOf Qc mc ms free) := va_backW (hh := hh) (bytes := bytes) (maxL := maxL) (ret := ret) hM hp.1 hrc hrs hfr hlo hws hcw (fun a' U hW => word_at hW (Or.inl (by first | rfl | simp [Cond.onTables, Cond.keeps, Cond.steady])) hini)
  obtain ⟨hx, hb, hml, ho, -⟩ := S
  obtain ⟨-, ⟨cellB, hcB, hoB, hclB⟩, hPc⟩ := hp
  intro T hT X
  obtain ⟨v, vm₁, ⟨U', l2, c2, s2⟩, hW₁, X', ⟨g', mk, t, L, e1, e2, hq, h1, hL, h2, h3⟩, st⟩ := vx_callVW X hx (C := C) (hh := hh) (bytes := bytes) (maxL := maxL) (ret := ret) ho hl hin hse hcode hy hK (by rw [hT]; exact hcB) hoB hclB hg (hsize.trans hml.symm) (argsL := As) (rest := rest) (fun sig h => hn.trans (hlen sig h)) hstack hW (by rw [hb]; exact hdg)
    (fun vm₁ hW₁ => ⟨hf.1, hf.2, hPc (T.setVm vm₁) hT hW₁⟩)
  dsimp only [Pt.U, Pt.locs, Pt.cells, Pt.slots] at X' e1 e2 h1 h2 h3 st
  subst h1; subst h2; subst h3
  exact ⟨v, (T.setVm vm₁).calling g' mk (Value.ref b :: As).toArray, t, U', L, hT, X', hL, e1, e2, hq, st⟩
section
variable {y : MethodName} {bytes cc : ByteArray} {maxL nL mc ms n index : Nat} {ret : Option FieldType} {ws : List Cond} {rm : Room} {Pc : Array Value → State → Prop} {Qc : Array Value → State → Outcome → State → Prop} {XC : String → State → State → Prop} {free : Addr → Prop} {Ts : List Cond} {own C : String} {b : Addr} {As rest : List Value} {g : JFrame}
theorem vx_runVX {hh : List (Nat × Nat × Nat × Nat)} (S : CallFix p m c cc nL s args Ts own) (hM : vx_Met l y ws rm Pc Qc XC mc ms free) (cw : vx_CVW R s args own C index y bytes maxL ret hh ws rm mc ms n) (hp : PreV s H C b Pc As)
    (hg : g.method = m) (hn : As.length = n) (hsize : g.locals.size = nL) (hstack : g.stack = As.reverse ++ .ref b :: rest) (hW : 2 * g.monitorRoom + (rest.map fun v => v.category).sum ≤ 8) (hdg : decode cc g.pc = .ok (.invokevirtual index, 3)) (hf : cells + mc ≤ R.cells ∧ slots + ms ≤ R.slots) :
    vx_Run p l e R s m args below meth c H locs cells slots mc ms g rest (Qc (Value.ref b :: As).toArray) XC free := by
  obtain ⟨⟨hrc, hrs, hfr, hlo, hws, hcw⟩, hcode, hini, hy, hlen, hl, hin, hse⟩ := cw
  have hK : vx_Back l R p e below s args y 3 8 (PreOf R mc ms Pc) (PostOf Qc mc ms free) (vx_Post XC mc ms free) := vx_backW (hh := hh) (bytes := bytes) (maxL := maxL) (ret := ret) hM hp.1 hrc hrs hfr hlo hws hcw (fun a' U hW => word_at hW (Or.inl (by first | rfl | simp [Cond.onTables, Cond.keeps, Cond.steady])) hini)
  obtain ⟨hx, hb, hml, ho, -⟩ := S
  obtain ⟨-, ⟨cellB, hcB, hoB, hclB⟩, hPc⟩ := hp
  intro T hT X
  rcases vx_callVX X hx (C := C) (hh := hh) (bytes := bytes) (maxL := maxL) (ret := ret) ho hl hin hse hcode hy hK (by rw [hT]; exact hcB) hoB hclB hg (hsize.trans hml.symm) (argsL := As) (rest := rest) (fun sig h => hn.trans (hlen sig h)) hstack hW (by rw [hb]; exact hdg)
    (fun vm₁ hW₁ => ⟨hf.1, hf.2, hPc (T.setVm vm₁) hT hW₁⟩) with ⟨v, vm₁, ⟨U', l2, c2, s2⟩, hW₁, X', ⟨g', mk, t, L, e1, e2, hq, h1, hL, h2, h3⟩, st⟩ | ⟨q, vm₁, ⟨U', l2, c2, s2⟩, hW₁, X', ⟨g', mk, t, L, E, ce, e1, e2, hq, hce, hcv, hcl, h1, hL, h2, h3⟩, st⟩
  · dsimp only [Pt.U, Pt.locs, Pt.cells, Pt.slots] at X' e1 e2 h1 h2 h3 st
    subst h1; subst h2; subst h3
    exact Or.inl ⟨v, (T.setVm vm₁).calling g' mk (Value.ref b :: As).toArray, t, U', L, hT, X', hL, e1, e2, hq, st⟩
  · dsimp only [Pt.U, Pt.locs, Pt.cells, Pt.slots] at X' e1 e2 h1 h2 h3 st hcl
    subst h1; subst h2; subst h3
    exact Or.inr ⟨q, (T.setVm vm₁).calling g' mk (Value.ref b :: As).toArray, t, U', L, E, ce, hT, X', hL, e1, e2, hq, hce, hcv, vx_cls hW₁ hcl, st⟩
theorem vx_runSX {hh : List (Nat × Nat × Nat × Nat)} (S : CallFix p m c cc nL s args Ts own) (hM : vx_Met l y ws rm Pc Qc XC mc ms free) (cw : vx_CSW R s args own index y bytes maxL ret hh ws rm mc ms n) (hp : PreS s H Pc As)
    (hg : g.method = m) (hn : As.length = n) (hsize : g.locals.size = nL) (hstack : g.stack = As.reverse ++ rest) (hW : 2 * g.monitorRoom + (rest.map fun v => v.category).sum ≤ 8) (hdg : decode cc g.pc = .ok (.invokestatic index, 3)) (hf : cells + mc ≤ R.cells ∧ slots + ms ≤ R.slots) :
    vx_Run p l e R s m args below meth c H locs cells slots mc ms g rest (Qc As.toArray) XC free := by
  obtain ⟨⟨hrc, hrs, hfr, hlo, hws, hcw⟩, hcode, hini, hy, hlen, hl, hstt⟩ := cw
  have hK : vx_Back l R p e below s args y 3 8 (PreOf R mc ms Pc) (PostOf Qc mc ms free) (vx_Post XC mc ms free) := vx_backW (hh := hh) (bytes := bytes) (maxL := maxL) (ret := ret) hM hp.1 hrc hrs hfr hlo hws hcw (fun a' U hW => word_at hW (Or.inl (by first | rfl | simp [Cond.onTables, Cond.keeps, Cond.steady])) hini)
  obtain ⟨hx, hb, hml, ho, -⟩ := S
  intro T hT X
  rcases vx_callSX X hx (hh := hh) (bytes := bytes) (maxL := maxL) (ret := ret) ho hl hstt hini hcode hy hK hg (hsize.trans hml.symm) (argsL := As) (rest := rest) (fun sig h => hn.trans (hlen sig h)) hstack hW (by rw [hb]; exact hdg)
    (fun vm₁ hW₁ => ⟨hf.1, hf.2, hp.2 (T.setVm vm₁) hT hW₁⟩) with ⟨v, vm₁, ⟨U', l2, c2, s2⟩, hW₁, X', ⟨g', mk, t, L, e1, e2, hq, h1, hL, h2, h3⟩, st⟩ | ⟨q, vm₁, ⟨U', l2, c2, s2⟩, hW₁, X', ⟨g', mk, t, L, E, ce, e1, e2, hq, hce, hcv, hcl, h1, hL, h2, h3⟩, st⟩
  · dsimp only [Pt.U, Pt.locs, Pt.cells, Pt.slots] at X' e1 e2 h1 h2 h3 st
    subst h1; subst h2; subst h3
    exact Or.inl ⟨v, (T.setVm vm₁).calling g' mk As.toArray, t, U', L, hT, X', hL, e1, e2, hq, st⟩
  · dsimp only [Pt.U, Pt.locs, Pt.cells, Pt.slots] at X' e1 e2 h1 h2 h3 st hcl
    subst h1; subst h2; subst h3
    exact Or.inr ⟨q, (T.setVm vm₁).calling g' mk As.toArray, t, U', L, E, ce, hT, X', hL, e1, e2, hq, hce, hcv, vx_cls hW₁ hcl, st⟩
end
end VXH
theorem vx_ofWH {l : Launch} {y : MethodName} {ws ws' : List Cond} {rm : Room} {Pc : Array Value → State → Prop} {Qc : Array Value → State → Outcome → State → Prop} {XC : String → State → State → Prop} {mc ms : Nat} {free : Addr → Prop} {cc : ByteArray} {maxL : Nat} {ret : Option FieldType} {hh : List (Nat × Nat × Nat × Nat)}
    (hy : plainName y.cls = true) (hw : ws = Cond.codeWith y cc maxL ret hh :: ws')
    (body : ∀ p e s m args below meth c s₁, BodyLoose p l y (headSpec ws rm) cc maxL ret e s m args below meth c s₁ → c.maxLocals = maxL → Pc args s →
      W p l e (headSpec ws rm).room s m args below meth c s.heap [] 0 0 (vx_MQ below Qc XC args s mc ms free) (entryFrame m args maxL)) : vx_Met l y ws rm Pc Qc XC mc ms free := by
  refine MetFree.of_bodyS (code := cc) (maxLocals := maxL) (ret := ret) hy ?_ ?_
  · intro args s m h hn
    obtain ⟨m9, meth, c, hn9, h1, h2, h3, h4, -, h5, h6, -⟩ := Cond.codeWith_spec (atoms_spec (ws := ws) h _ (by rw [hw]; exact List.mem_cons_self))
    cases hn.symm.trans hn9
    exact ⟨meth, c, h1, h2, h3, h4, h5, h6⟩
  · intro p e s m args below meth c s₁ B hml hP _
    have hh0 : s₁.heap = s.heap := by rw [B.state]; rfl
    obtain ⟨t, a1, o, b1, b2, b3⟩ := body p e s m args below meth c s₁ B hml hP s₁ hh0 (Stand.of_body B)
    exact ⟨t, o, a1, b1, b2, b3⟩
/-! ===== END ===== -/
end
section
/-! ===== BEGIN printed: names, fields, word lists, decode rows ===== -/
def RX0 : String := "CaskYard$Bolt"
def TX0 : u_T := fun k => match k with
  | 0 => ("CaskYard$Bolt", "split", "I", true)
  | 1 => ("CaskYard$Bolt", "begin", "[I", true)
  | 2 => ("CaskYard$Bolt", "end", "[I", true)
  | _ => ("CaskYard$Bolt", "parts", "I", false)
def tyX0 : Nat → FieldType := fun k => match k with
  | 0 => .int
  | 1 => .array .int
  | 2 => .array .int
  | _ => .int
abbrev wsX00 : List Cond := u_ws RX0 TX0 4
theorem nmX0 : ∀ a, a < 4 → ∀ b, b < 4 → a ≠ b → (TX0 a).2.1 ≠ (TX0 b).2.1 := by decide +kernel
theorem tyX0_ok : ∀ k, k < 4 → parseFieldDescriptor (TX0 k).2.2.1 = some (tyX0 k) := by decide +kernel
abbrev cX0_init : ByteArray := prog_2_method_1_code
def yX0_init : MethodName := ⟨RX0, "<init>", "(II)V"⟩
abbrev cX0_addPart : ByteArray := prog_2_method_2_code
def yX0_addPart : MethodName := ⟨RX0, "addPart", "(II)Z"⟩
abbrev cX0_takePartsOf : ByteArray := prog_2_method_3_code
def yX0_takePartsOf : MethodName := ⟨RX0, "takePartsOf", "(LCaskYard$Bolt;)V"⟩
abbrev cX0_cutFirst : ByteArray := prog_2_method_4_code
def yX0_cutFirst : MethodName := ⟨RX0, "cutFirst", "(I)Z"⟩
abbrev cX0_dropEmptyParts : ByteArray := prog_2_method_5_code
def yX0_dropEmptyParts : MethodName := ⟨RX0, "dropEmptyParts", "()V"⟩
def RX1 : String := "CaskYard$Cask"
def TX1 : u_T := fun k => match k with
  | 0 => ("CaskYard$Cask", "formNumber", "I", true)
  | 1 => ("CaskYard$Cask", "shape", "LCaskYard$Form;", true)
  | 2 => ("CaskYard$Cask", "boltOf", "[I", true)
  | 3 => ("CaskYard$Cask", "past", "[I", true)
  | 4 => ("CaskYard$Cask", "entryDay", "[I", true)
  | 5 => ("CaskYard$Cask", "entryTold", "[I", true)
  | 6 => ("CaskYard$Cask", "entryKind", "[I", true)
  | _ => ("CaskYard$Cask", "entries", "I", false)
def tyX1 : Nat → FieldType := fun k => match k with
  | 0 => .int
  | 1 => .object "CaskYard$Form"
  | 2 => .array .int
  | 3 => .array .int
  | 4 => .array .int
  | 5 => .array .int
  | 6 => .array .int
  | _ => .int
abbrev wsX10 : List Cond := u_ws RX1 TX1 8
theorem nmX1 : ∀ a, a < 8 → ∀ b, b < 8 → a ≠ b → (TX1 a).2.1 ≠ (TX1 b).2.1 := by decide +kernel
theorem tyX1_ok : ∀ k, k < 8 → parseFieldDescriptor (TX1 k).2.2.1 = some (tyX1 k) := by decide +kernel
abbrev cX1_init : ByteArray := prog_3_method_1_code
def yX1_init : MethodName := ⟨RX1, "<init>", "(ILCaskYard$Form;)V"⟩
abbrev cX1_takePieces : ByteArray := prog_3_method_2_code
def yX1_takePieces : MethodName := ⟨RX1, "takePieces", "(IZII)I"⟩
abbrev cX1_wholePast : ByteArray := prog_3_method_3_code
def yX1_wholePast : MethodName := ⟨RX1, "wholePast", "()I"⟩
abbrev cX1_meet : ByteArray := prog_3_method_4_code
def yX1_meet : MethodName := ⟨RX1, "meet", "(I)V"⟩
abbrev cX1_addEntry : ByteArray := prog_3_method_5_code
def yX1_addEntry : MethodName := ⟨RX1, "addEntry", "(III)V"⟩
abbrev cX1_heldOn : ByteArray := prog_3_method_6_code
def yX1_heldOn : MethodName := ⟨RX1, "heldOn", "(II)I"⟩
abbrev cX1_nextEntryDay : ByteArray := prog_3_method_7_code
def yX1_nextEntryDay : MethodName := ⟨RX1, "nextEntryDay", "(I)I"⟩
def RX2 : String := "CaskYard$Form"
def TX2 : u_T := fun k => match k with
  | 0 => ("CaskYard$Form", "height", "I", true)
  | 1 => ("CaskYard$Form", "bilge", "I", true)
  | 2 => ("CaskYard$Form", "headGirth", "I", true)
  | _ => ("CaskYard$Form", "staves", "I", true)
def tyX2 : Nat → FieldType := fun k => match k with
  | 0 => .int
  | 1 => .int
  | 2 => .int
  | _ => .int
abbrev wsX20 : List Cond := u_ws RX2 TX2 4
theorem nmX2 : ∀ a, a < 4 → ∀ b, b < 4 → a ≠ b → (TX2 a).2.1 ≠ (TX2 b).2.1 := by decide +kernel
theorem tyX2_ok : ∀ k, k < 4 → parseFieldDescriptor (TX2 k).2.2.1 = some (tyX2 k) := by decide +kernel
abbrev cX2_init : ByteArray := prog_4_method_1_code
def yX2_init : MethodName := ⟨RX2, "<init>", "(IIII)V"⟩
abbrev cX2_girthAt : ByteArray := prog_4_method_2_code
def yX2_girthAt : MethodName := ⟨RX2, "girthAt", "(I)I"⟩
abbrev cX2_widthAt : ByteArray := prog_4_method_3_code
def yX2_widthAt : MethodName := ⟨RX2, "widthAt", "(II)I"⟩
abbrev cX2_bilgeWidth : ByteArray := prog_4_method_4_code
def yX2_bilgeWidth : MethodName := ⟨RX2, "bilgeWidth", "(I)I"⟩
abbrev cX2_contentTo : ByteArray := prog_4_method_5_code
def yX2_contentTo : MethodName := ⟨RX2, "contentTo", "(I)I"⟩
abbrev cX2_leastLevel : ByteArray := prog_4_method_6_code
def yX2_leastLevel : MethodName := ⟨RX2, "leastLevel", "(I)I"⟩
abbrev cX2_squareAt : ByteArray := prog_4_method_7_code
def yX2_squareAt : MethodName := ⟨RX2, "squareAt", "(I)J"⟩
abbrev cX2_content : ByteArray := prog_4_method_8_code
def yX2_content : MethodName := ⟨RX2, "content", "(J)I"⟩
abbrev cX2_narrowPiece : ByteArray := prog_4_method_9_code
def yX2_narrowPiece : MethodName := ⟨RX2, "narrowPiece", "()I"⟩
abbrev cX2_wides : ByteArray := prog_4_method_10_code
def yX2_wides : MethodName := ⟨RX2, "wides", "()I"⟩
abbrev cX2_narrows : ByteArray := prog_4_method_11_code
def yX2_narrows : MethodName := ⟨RX2, "narrows", "()I"⟩
abbrev cX2_isWide : ByteArray := prog_4_method_12_code
def yX2_isWide : MethodName := ⟨RX2, "isWide", "(I)Z"⟩
def RX3 : String := "CaskYard$Saw"
def TX3 : u_T := fun k => match k with
  | 0 => ("CaskYard$Saw", "laid", "[LCaskYard$Bolt;", true)
  | 1 => ("CaskYard$Saw", "place", "[I", true)
  | 2 => ("CaskYard$Saw", "number", "[I", true)
  | 3 => ("CaskYard$Saw", "length", "[I", true)
  | 4 => ("CaskYard$Saw", "asWide", "[I", true)
  | 5 => ("CaskYard$Saw", "more", "[I", true)
  | 6 => ("CaskYard$Saw", "loss", "[I", true)
  | 7 => ("CaskYard$Saw", "byLoss", "[I", true)
  | 8 => ("CaskYard$Saw", "open", "[Z", true)
  | 9 => ("CaskYard$Saw", "wideCut", "[I", true)
  | 10 => ("CaskYard$Saw", "narrowCut", "[I", true)
  | 11 => ("CaskYard$Saw", "boltsLaid", "I", false)
  | 12 => ("CaskYard$Saw", "parts", "I", false)
  | _ => ("CaskYard$Saw", "narrow", "I", false)
def tyX3 : Nat → FieldType := fun k => match k with
  | 0 => .array (.object "CaskYard$Bolt")
  | 1 => .array .int
  | 2 => .array .int
  | 3 => .array .int
  | 4 => .array .int
  | 5 => .array .int
  | 6 => .array .int
  | 7 => .array .int
  | 8 => .array .boolean
  | 9 => .array .int
  | 10 => .array .int
  | 11 => .int
  | 12 => .int
  | _ => .int
abbrev wsX30 : List Cond := u_ws RX3 TX3 14
theorem nmX3 : ∀ a, a < 14 → ∀ b, b < 14 → a ≠ b → (TX3 a).2.1 ≠ (TX3 b).2.1 := by decide +kernel
theorem tyX3_ok : ∀ k, k < 14 → parseFieldDescriptor (TX3 k).2.2.1 = some (tyX3 k) := by decide +kernel
abbrev cX3_init : ByteArray := prog_5_method_1_code
def yX3_init : MethodName := ⟨RX3, "<init>", "()V"⟩
abbrev cX3_prepare : ByteArray := prog_5_method_2_code
def yX3_prepare : MethodName := ⟨RX3, "prepare", "(I)V"⟩
abbrev cX3_lay : ByteArray := prog_5_method_3_code
def yX3_lay : MethodName := ⟨RX3, "lay", "(LCaskYard$Bolt;I)V"⟩
abbrev cX3_layPart : ByteArray := prog_5_method_4_code
def yX3_layPart : MethodName := ⟨RX3, "layPart", "(II)V"⟩
abbrev cX3_sortIn : ByteArray := prog_5_method_5_code
def yX3_sortIn : MethodName := ⟨RX3, "sortIn", "(I)V"⟩
abbrev cX3_fewestSet : ByteArray := prog_5_method_6_code
def yX3_fewestSet : MethodName := ⟨RX3, "fewestSet", "(II)I"⟩
abbrev cX3_openSet : ByteArray := prog_5_method_7_code
def yX3_openSet : MethodName := ⟨RX3, "openSet", "(I)V"⟩
abbrev cX3_canGive : ByteArray := prog_5_method_8_code
def yX3_canGive : MethodName := ⟨RX3, "canGive", "(II)Z"⟩
abbrev cX3_cutSet : ByteArray := prog_5_method_9_code
def yX3_cutSet : MethodName := ⟨RX3, "cutSet", "(III)V"⟩
abbrev cX3_choose : ByteArray := prog_5_method_10_code
def yX3_choose : MethodName := ⟨RX3, "choose", "(III)V"⟩
abbrev cX3_shorten : ByteArray := prog_5_method_11_code
def yX3_shorten : MethodName := ⟨RX3, "shorten", "()V"⟩
abbrev cX3_shortenBolt : ByteArray := prog_5_method_12_code
def yX3_shortenBolt : MethodName := ⟨RX3, "shortenBolt", "(LCaskYard$Bolt;I)I"⟩
def RX4 : String := "CaskYard"
def TX4 : u_T := fun k => match k with
  | 0 => ("CaskYard", "forms", "[LCaskYard$Form;", true)
  | 1 => ("CaskYard", "bolts", "[LCaskYard$Bolt;", true)
  | 2 => ("CaskYard", "casks", "[LCaskYard$Cask;", true)
  | 3 => ("CaskYard", "barred", "[I", true)
  | 4 => ("CaskYard", "weights", "[I", true)
  | 5 => ("CaskYard", "saw", "LCaskYard$Saw;", true)
  | 6 => ("CaskYard", "spare", "LCaskYard$Bolt;", true)
  | 7 => ("CaskYard", "formCount", "I", false)
  | 8 => ("CaskYard", "boltCount", "I", false)
  | 9 => ("CaskYard", "caskCount", "I", false)
  | _ => ("CaskYard", "now", "I", false)
def tyX4 : Nat → FieldType := fun k => match k with
  | 0 => .array (.object "CaskYard$Form")
  | 1 => .array (.object "CaskYard$Bolt")
  | 2 => .array (.object "CaskYard$Cask")
  | 3 => .array .int
  | 4 => .array .int
  | 5 => .object "CaskYard$Saw"
  | 6 => .object "CaskYard$Bolt"
  | 7 => .int
  | 8 => .int
  | 9 => .int
  | _ => .int
abbrev wsX40 : List Cond := u_ws RX4 TX4 11
theorem nmX4 : ∀ a, a < 11 → ∀ b, b < 11 → a ≠ b → (TX4 a).2.1 ≠ (TX4 b).2.1 := by decide +kernel
theorem tyX4_ok : ∀ k, k < 11 → parseFieldDescriptor (TX4 k).2.2.1 = some (tyX4 k) := by decide +kernel
abbrev cX4_init : ByteArray := prog_1_method_1_code
def yX4_init : MethodName := ⟨RX4, "<init>", "()V"⟩
abbrev cX4_form : ByteArray := prog_1_method_2_code
def yX4_form : MethodName := ⟨RX4, "form", "(IIII)I"⟩
abbrev cX4_girth : ByteArray := prog_1_method_3_code
def yX4_girth : MethodName := ⟨RX4, "girth", "(II)I"⟩
abbrev cX4_width : ByteArray := prog_1_method_4_code
def yX4_width : MethodName := ⟨RX4, "width", "(III)I"⟩
abbrev cX4_holds : ByteArray := prog_1_method_5_code
def yX4_holds : MethodName := ⟨RX4, "holds", "(II)I"⟩
abbrev cX4_level : ByteArray := prog_1_method_6_code
def yX4_level : MethodName := ⟨RX4, "level", "(II)I"⟩
abbrev cX4_head : ByteArray := prog_1_method_7_code
def yX4_head : MethodName := ⟨RX4, "head", "(I)I"⟩
abbrev cX4_days : ByteArray := prog_1_method_8_code
def yX4_days : MethodName := ⟨RX4, "days", "(I)I"⟩
abbrev cX4_bolt : ByteArray := prog_1_method_9_code
def yX4_bolt : MethodName := ⟨RX4, "bolt", "(I)I"⟩
abbrev cX4_flaw : ByteArray := prog_1_method_10_code
def yX4_flaw : MethodName := ⟨RX4, "flaw", "(III)I"⟩
abbrev cX4_clear : ByteArray := prog_1_method_11_code
def yX4_clear : MethodName := ⟨RX4, "clear", "(III)I"⟩
abbrev cX4_ripe : ByteArray := prog_1_method_12_code
def yX4_ripe : MethodName := ⟨RX4, "ripe", "(I)Z"⟩
abbrev cX4_fewest : ByteArray := prog_1_method_13_code
def yX4_fewest : MethodName := ⟨RX4, "fewest", "(I)I"⟩
abbrev cX4_make : ByteArray := prog_1_method_14_code
def yX4_make : MethodName := ⟨RX4, "make", "(I)I"⟩
abbrev cX4_stave : ByteArray := prog_1_method_15_code
def yX4_stave : MethodName := ⟨RX4, "stave", "(III)I"⟩
abbrev cX4_formOf : ByteArray := prog_1_method_16_code
def yX4_formOf : MethodName := ⟨RX4, "formOf", "(I)I"⟩
abbrev cX4_bars : ByteArray := prog_1_method_17_code
def yX4_bars : MethodName := ⟨RX4, "bars", "(IIZ)Z"⟩
abbrev cX4_may : ByteArray := prog_1_method_18_code
def yX4_may : MethodName := ⟨RX4, "may", "(II)Z"⟩
abbrev cX4_tell : ByteArray := prog_1_method_19_code
def yX4_tell : MethodName := ⟨RX4, "tell", "(III)I"⟩
abbrev cX4_held : ByteArray := prog_1_method_20_code
def yX4_held : MethodName := ⟨RX4, "held", "(III)I"⟩
abbrev cX4_lacks : ByteArray := prog_1_method_21_code
def yX4_lacks : MethodName := ⟨RX4, "lacks", "(IIII)I"⟩
abbrev cX4_swap : ByteArray := prog_1_method_22_code
def yX4_swap : MethodName := ⟨RX4, "swap", "(IIII)Z"⟩
abbrev cX4_renew : ByteArray := prog_1_method_23_code
def yX4_renew : MethodName := ⟨RX4, "renew", "(II)I"⟩
abbrev cX4_weight : ByteArray := prog_1_method_24_code
def yX4_weight : MethodName := ⟨RX4, "weight", "(II)I"⟩
abbrev cX4_weighs : ByteArray := prog_1_method_25_code
def yX4_weighs : MethodName := ⟨RX4, "weighs", "(II)J"⟩
abbrev cX4_count : ByteArray := prog_1_method_26_code
def yX4_count : MethodName := ⟨RX4, "count", "(I)I"⟩
abbrev cX4_formAt : ByteArray := prog_1_method_27_code
def yX4_formAt : MethodName := ⟨RX4, "formAt", "(I)LCaskYard$Form;"⟩
abbrev cX4_boltAt : ByteArray := prog_1_method_28_code
def yX4_boltAt : MethodName := ⟨RX4, "boltAt", "(I)LCaskYard$Bolt;"⟩
abbrev cX4_caskAt : ByteArray := prog_1_method_29_code
def yX4_caskAt : MethodName := ⟨RX4, "caskAt", "(I)LCaskYard$Cask;"⟩
abbrev cX4_checkStave : ByteArray := prog_1_method_30_code
def yX4_checkStave : MethodName := ⟨RX4, "checkStave", "(LCaskYard$Form;I)V"⟩
abbrev cX4_checkHeight : ByteArray := prog_1_method_31_code
def yX4_checkHeight : MethodName := ⟨RX4, "checkHeight", "(LCaskYard$Form;I)V"⟩
abbrev cX4_checkKind : ByteArray := prog_1_method_32_code
def yX4_checkKind : MethodName := ⟨RX4, "checkKind", "(I)V"⟩
abbrev cX4_isRipe : ByteArray := prog_1_method_33_code
def yX4_isRipe : MethodName := ⟨RX4, "isRipe", "(LCaskYard$Bolt;)Z"⟩
abbrev cX4_isLet : ByteArray := prog_1_method_34_code
def yX4_isLet : MethodName := ⟨RX4, "isLet", "(LCaskYard$Cask;I)Z"⟩
abbrev cX4_setFor : ByteArray := prog_1_method_35_code
def yX4_setFor : MethodName := ⟨RX4, "setFor", "(LCaskYard$Form;)I"⟩
abbrev cX4_handOut : ByteArray := prog_1_method_36_code
def yX4_handOut : MethodName := ⟨RX4, "handOut", "(LCaskYard$Cask;)V"⟩
abbrev cX4_parted : ByteArray := prog_1_method_37_code
def yX4_parted : MethodName := ⟨RX4, "parted", "(II)I"⟩
def RX5 : String := "CaskYardModel"
def TX5 : u_T := fun k => match k with
  | 0 => ("CaskYardModel", "code", "I", false)
  | 1 => ("CaskYardModel", "forms", "I", false)
  | 2 => ("CaskYardModel", "bolts", "I", false)
  | 3 => ("CaskYardModel", "casks", "I", false)
  | 4 => ("CaskYardModel", "now", "I", false)
  | 5 => ("CaskYardModel", "tall", "[I", true)
  | 6 => ("CaskYardModel", "bilge", "[I", true)
  | 7 => ("CaskYardModel", "headGirth", "[I", true)
  | 8 => ("CaskYardModel", "staves", "[I", true)
  | 9 => ("CaskYardModel", "splitOn", "[I", true)
  | 10 => ("CaskYardModel", "partMany", "[I", true)
  | 11 => ("CaskYardModel", "from", "[I", true)
  | 12 => ("CaskYardModel", "to", "[I", true)
  | 13 => ("CaskYardModel", "caskForm", "[I", true)
  | 14 => ("CaskYardModel", "boltOf", "[I", true)
  | 15 => ("CaskYardModel", "past", "[I", true)
  | 16 => ("CaskYardModel", "entries", "[I", true)
  | 17 => ("CaskYardModel", "entryDay", "[I", true)
  | 18 => ("CaskYardModel", "entryKind", "[I", true)
  | 19 => ("CaskYardModel", "entryTold", "[I", true)
  | 20 => ("CaskYardModel", "barsIt", "[Z", true)
  | 21 => ("CaskYardModel", "weights", "[I", true)
  | 22 => ("CaskYardModel", "setBolt", "[I", true)
  | 23 => ("CaskYardModel", "setPart", "[I", true)
  | 24 => ("CaskYardModel", "most", "[I", true)
  | 25 => ("CaskYardModel", "setMany", "I", false)
  | 26 => ("CaskYardModel", "wide", "I", false)
  | 27 => ("CaskYardModel", "narrow", "I", false)
  | 28 => ("CaskYardModel", "wideMany", "I", false)
  | 29 => ("CaskYardModel", "narrowMany", "I", false)
  | 30 => ("CaskYardModel", "newFrom", "[I", true)
  | 31 => ("CaskYardModel", "newTo", "[I", true)
  | 32 => ("CaskYardModel", "looked", "[I", true)
  | _ => ("CaskYardModel", "cutBolt", "[I", true)
def tyX5 : Nat → FieldType := fun k => match k with
  | 0 => .int
  | 1 => .int
  | 2 => .int
  | 3 => .int
  | 4 => .int
  | 5 => .array .int
  | 6 => .array .int
  | 7 => .array .int
  | 8 => .array .int
  | 9 => .array .int
  | 10 => .array .int
  | 11 => .array .int
  | 12 => .array .int
  | 13 => .array .int
  | 14 => .array .int
  | 15 => .array .int
  | 16 => .array .int
  | 17 => .array .int
  | 18 => .array .int
  | 19 => .array .int
  | 20 => .array .boolean
  | 21 => .array .int
  | 22 => .array .int
  | 23 => .array .int
  | 24 => .array .int
  | 25 => .int
  | 26 => .int
  | 27 => .int
  | 28 => .int
  | 29 => .int
  | 30 => .array .int
  | 31 => .array .int
  | 32 => .array .int
  | _ => .array .int
abbrev wsX50 : List Cond := u_ws RX5 TX5 34
theorem nmX5 : ∀ a, a < 34 → ∀ b, b < 34 → a ≠ b → (TX5 a).2.1 ≠ (TX5 b).2.1 := by decide +kernel
theorem tyX5_ok : ∀ k, k < 34 → parseFieldDescriptor (TX5 k).2.2.1 = some (tyX5 k) := by decide +kernel
abbrev cX5_init : ByteArray := prog_7_method_1_code
def yX5_init : MethodName := ⟨RX5, "<init>", "()V"⟩
abbrev cX5_thrown : ByteArray := prog_7_method_2_code
def yX5_thrown : MethodName := ⟨RX5, "thrown", "()I"⟩
abbrev cX5_fail : ByteArray := prog_7_method_3_code
def yX5_fail : MethodName := ⟨RX5, "fail", "(I)I"⟩
abbrev cX5_isForm : ByteArray := prog_7_method_4_code
def yX5_isForm : MethodName := ⟨RX5, "isForm", "(I)Z"⟩
abbrev cX5_form : ByteArray := prog_7_method_5_code
def yX5_form : MethodName := ⟨RX5, "form", "(IIII)I"⟩
abbrev cX5_girthOf : ByteArray := prog_7_method_6_code
def yX5_girthOf : MethodName := ⟨RX5, "girthOf", "(II)I"⟩
abbrev cX5_isHeight : ByteArray := prog_7_method_7_code
def yX5_isHeight : MethodName := ⟨RX5, "isHeight", "(II)Z"⟩
abbrev cX5_girth : ByteArray := prog_7_method_8_code
def yX5_girth : MethodName := ⟨RX5, "girth", "(II)I"⟩
abbrev cX5_widthOf : ByteArray := prog_7_method_9_code
def yX5_widthOf : MethodName := ⟨RX5, "widthOf", "(III)I"⟩
abbrev cX5_width : ByteArray := prog_7_method_10_code
def yX5_width : MethodName := ⟨RX5, "width", "(III)I"⟩
abbrev cX5_holdsAt : ByteArray := prog_7_method_11_code
def yX5_holdsAt : MethodName := ⟨RX5, "holdsAt", "(II)I"⟩
abbrev cX5_holds : ByteArray := prog_7_method_12_code
def yX5_holds : MethodName := ⟨RX5, "holds", "(II)I"⟩
abbrev cX5_level : ByteArray := prog_7_method_13_code
def yX5_level : MethodName := ⟨RX5, "level", "(II)I"⟩
abbrev cX5_head : ByteArray := prog_7_method_14_code
def yX5_head : MethodName := ⟨RX5, "head", "(I)I"⟩
abbrev cX5_days : ByteArray := prog_7_method_15_code
def yX5_days : MethodName := ⟨RX5, "days", "(I)I"⟩
abbrev cX5_isBolt : ByteArray := prog_7_method_16_code
def yX5_isBolt : MethodName := ⟨RX5, "isBolt", "(I)Z"⟩
abbrev cX5_part : ByteArray := prog_7_method_17_code
def yX5_part : MethodName := ⟨RX5, "part", "(II)I"⟩
abbrev cX5_bolt : ByteArray := prog_7_method_18_code
def yX5_bolt : MethodName := ⟨RX5, "bolt", "(I)I"⟩
abbrev cX5_flaw : ByteArray := prog_7_method_19_code
def yX5_flaw : MethodName := ⟨RX5, "flaw", "(III)I"⟩
abbrev cX5_clear : ByteArray := prog_7_method_20_code
def yX5_clear : MethodName := ⟨RX5, "clear", "(III)I"⟩
abbrev cX5_isRipe : ByteArray := prog_7_method_21_code
def yX5_isRipe : MethodName := ⟨RX5, "isRipe", "(I)Z"⟩
abbrev cX5_ripe : ByteArray := prog_7_method_22_code
def yX5_ripe : MethodName := ⟨RX5, "ripe", "(I)Z"⟩
abbrev cX5_cut : ByteArray := prog_7_method_23_code
def yX5_cut : MethodName := ⟨RX5, "cut", "(III)V"⟩
abbrev cX5_tidy : ByteArray := prog_7_method_24_code
def yX5_tidy : MethodName := ⟨RX5, "tidy", "(I)V"⟩
abbrev cX5_pieces : ByteArray := prog_7_method_25_code
def yX5_pieces : MethodName := ⟨RX5, "pieces", "(I)V"⟩
abbrev cX5_length : ByteArray := prog_7_method_26_code
def yX5_length : MethodName := ⟨RX5, "length", "(I)I"⟩
abbrev cX5_reckon : ByteArray := prog_7_method_27_code
def yX5_reckon : MethodName := ⟨RX5, "reckon", "()V"⟩
abbrev cX5_gives : ByteArray := prog_7_method_28_code
def yX5_gives : MethodName := ⟨RX5, "gives", "(III)Z"⟩
abbrev cX5_take : ByteArray := prog_7_method_29_code
def yX5_take : MethodName := ⟨RX5, "take", "(I)V"⟩
abbrev cX5_ones : ByteArray := prog_7_method_30_code
def yX5_ones : MethodName := ⟨RX5, "ones", "(I)I"⟩
abbrev cX5_isAhead : ByteArray := prog_7_method_31_code
def yX5_isAhead : MethodName := ⟨RX5, "isAhead", "(II)Z"⟩
abbrev cX5_bestSet : ByteArray := prog_7_method_32_code
def yX5_bestSet : MethodName := ⟨RX5, "bestSet", "(I)I"⟩
abbrev cX5_fewest : ByteArray := prog_7_method_33_code
def yX5_fewest : MethodName := ⟨RX5, "fewest", "(I)I"⟩
abbrev cX5_make : ByteArray := prog_7_method_34_code
def yX5_make : MethodName := ⟨RX5, "make", "(I)I"⟩
abbrev cX5_isCask : ByteArray := prog_7_method_35_code
def yX5_isCask : MethodName := ⟨RX5, "isCask", "(I)Z"⟩
abbrev cX5_isStave : ByteArray := prog_7_method_36_code
def yX5_isStave : MethodName := ⟨RX5, "isStave", "(II)Z"⟩
abbrev cX5_middle : ByteArray := prog_7_method_37_code
def yX5_middle : MethodName := ⟨RX5, "middle", "(II)I"⟩
abbrev cX5_stave : ByteArray := prog_7_method_38_code
def yX5_stave : MethodName := ⟨RX5, "stave", "(III)I"⟩
abbrev cX5_formOf : ByteArray := prog_7_method_39_code
def yX5_formOf : MethodName := ⟨RX5, "formOf", "(I)I"⟩
abbrev cX5_isKind : ByteArray := prog_7_method_40_code
def yX5_isKind : MethodName := ⟨RX5, "isKind", "(I)Z"⟩
abbrev cX5_bars : ByteArray := prog_7_method_41_code
def yX5_bars : MethodName := ⟨RX5, "bars", "(IIZ)Z"⟩
abbrev cX5_mayIn : ByteArray := prog_7_method_42_code
def yX5_mayIn : MethodName := ⟨RX5, "mayIn", "(II)Z"⟩
abbrev cX5_may : ByteArray := prog_7_method_43_code
def yX5_may : MethodName := ⟨RX5, "may", "(II)Z"⟩
abbrev cX5_tell : ByteArray := prog_7_method_44_code
def yX5_tell : MethodName := ⟨RX5, "tell", "(III)I"⟩
abbrev cX5_heldOn : ByteArray := prog_7_method_45_code
def yX5_heldOn : MethodName := ⟨RX5, "heldOn", "(III)I"⟩
abbrev cX5_held : ByteArray := prog_7_method_46_code
def yX5_held : MethodName := ⟨RX5, "held", "(III)I"⟩
abbrev cX5_lacks : ByteArray := prog_7_method_47_code
def yX5_lacks : MethodName := ⟨RX5, "lacks", "(IIII)I"⟩
abbrev cX5_swap : ByteArray := prog_7_method_48_code
def yX5_swap : MethodName := ⟨RX5, "swap", "(IIII)Z"⟩
abbrev cX5_renew : ByteArray := prog_7_method_49_code
def yX5_renew : MethodName := ⟨RX5, "renew", "(II)I"⟩
abbrev cX5_weight : ByteArray := prog_7_method_50_code
def yX5_weight : MethodName := ⟨RX5, "weight", "(II)I"⟩
abbrev cX5_weighs : ByteArray := prog_7_method_51_code
def yX5_weighs : MethodName := ⟨RX5, "weighs", "(II)J"⟩
abbrev cX5_count : ByteArray := prog_7_method_52_code
def yX5_count : MethodName := ⟨RX5, "count", "(I)I"⟩
def RJ6 : String := "java/lang/Integer"
def TJ6 : u_T := fun k => match k with
  | _ => ("", "", "", false)
def tyJ6 : Nat → FieldType := fun k => match k with
  | _ => .int
abbrev wsJ60 : List Cond := u_ws RJ6 TJ6 0
theorem nmJ6 : ∀ a, a < 0 → ∀ b, b < 0 → a ≠ b → (TJ6 a).2.1 ≠ (TJ6 b).2.1 := by decide +kernel
theorem tyJ6_ok : ∀ k, k < 0 → parseFieldDescriptor (TJ6 k).2.2.1 = some (tyJ6 k) := by decide +kernel
abbrev cJ6_bitCount_0f7a4 : ByteArray := prog_10_method_49_code
def yJ6_bitCount_0f7a4 : MethodName := ⟨RJ6, "bitCount", "(I)I"⟩
def RJ9 : String := "java/lang/Math"
def TJ9 : u_T := fun k => match k with
  | _ => ("", "", "", false)
def tyJ9 : Nat → FieldType := fun k => match k with
  | _ => .int
abbrev wsJ90 : List Cond := u_ws RJ9 TJ9 0
theorem nmJ9 : ∀ a, a < 0 → ∀ b, b < 0 → a ≠ b → (TJ9 a).2.1 ≠ (TJ9 b).2.1 := by decide +kernel
theorem tyJ9_ok : ∀ k, k < 0 → parseFieldDescriptor (TJ9 k).2.2.1 = some (tyJ9 k) := by decide +kernel
abbrev cJ9_max_7cf53 : ByteArray := prog_11_method_65_code
def yJ9_max_7cf53 : MethodName := ⟨RJ9, "max", "(II)I"⟩
abbrev cJ9_min_7cf53 : ByteArray := prog_11_method_69_code
def yJ9_min_7cf53 : MethodName := ⟨RJ9, "min", "(II)I"⟩
def RJ0 : String := "java/lang/String"
def TJ0 : u_T := fun k => match k with
  | _ => ("", "", "", false)
def tyJ0 : Nat → FieldType := fun k => match k with
  | _ => .int
abbrev wsJ00 : List Cond := u_ws RJ0 TJ0 0
theorem nmJ0 : ∀ a, a < 0 → ∀ b, b < 0 → a ≠ b → (TJ0 a).2.1 ≠ (TJ0 b).2.1 := by decide +kernel
theorem tyJ0_ok : ∀ k, k < 0 → parseFieldDescriptor (TJ0 k).2.2.1 = some (tyJ0 k) := by decide +kernel
def RL : String := "CaskYardLaw"
abbrev cL_girth : ByteArray := method_3_code
def yL_girth : MethodName := ⟨RL, "girth", "(LCaskYard;II[J)I"⟩
abbrev cL_width : ByteArray := method_4_code
def yL_width : MethodName := ⟨RL, "width", "(LCaskYard;III[J)I"⟩
abbrev cL_holds : ByteArray := method_5_code
def yL_holds : MethodName := ⟨RL, "holds", "(LCaskYard;II[J)I"⟩
abbrev cL_level : ByteArray := method_6_code
def yL_level : MethodName := ⟨RL, "level", "(LCaskYard;II[J)I"⟩
abbrev cL_head : ByteArray := method_7_code
def yL_head : MethodName := ⟨RL, "head", "(LCaskYard;I[J)I"⟩
abbrev cL_days : ByteArray := method_8_code
def yL_days : MethodName := ⟨RL, "days", "(LCaskYard;I[J)I"⟩
abbrev cL_flaw : ByteArray := method_9_code
def yL_flaw : MethodName := ⟨RL, "flaw", "(LCaskYard;III[J)I"⟩
abbrev cL_clear : ByteArray := method_10_code
def yL_clear : MethodName := ⟨RL, "clear", "(LCaskYard;III[J)I"⟩
abbrev cL_ripe : ByteArray := method_11_code
def yL_ripe : MethodName := ⟨RL, "ripe", "(LCaskYard;I[J)I"⟩
abbrev cL_fewest : ByteArray := method_12_code
def yL_fewest : MethodName := ⟨RL, "fewest", "(LCaskYard;I[J)I"⟩
abbrev cL_make : ByteArray := method_13_code
def yL_make : MethodName := ⟨RL, "make", "(LCaskYard;I[J)I"⟩
abbrev cL_stave : ByteArray := method_14_code
def yL_stave : MethodName := ⟨RL, "stave", "(LCaskYard;III[J)I"⟩
abbrev cL_formOf : ByteArray := method_15_code
def yL_formOf : MethodName := ⟨RL, "formOf", "(LCaskYard;I[J)I"⟩
abbrev cL_bars : ByteArray := method_16_code
def yL_bars : MethodName := ⟨RL, "bars", "(LCaskYard;IIZ[J)I"⟩
abbrev cL_may : ByteArray := method_17_code
def yL_may : MethodName := ⟨RL, "may", "(LCaskYard;II[J)I"⟩
abbrev cL_tell : ByteArray := method_18_code
def yL_tell : MethodName := ⟨RL, "tell", "(LCaskYard;III[J)I"⟩
abbrev cL_held : ByteArray := method_19_code
def yL_held : MethodName := ⟨RL, "held", "(LCaskYard;III[J)I"⟩
abbrev cL_lacks : ByteArray := method_20_code
def yL_lacks : MethodName := ⟨RL, "lacks", "(LCaskYard;IIII[J)I"⟩
abbrev cL_swap : ByteArray := method_21_code
def yL_swap : MethodName := ⟨RL, "swap", "(LCaskYard;IIII[J)I"⟩
abbrev cL_renew : ByteArray := method_22_code
def yL_renew : MethodName := ⟨RL, "renew", "(LCaskYard;II[J)I"⟩
abbrev cL_weight : ByteArray := method_23_code
def yL_weight : MethodName := ⟨RL, "weight", "(LCaskYard;II[J)I"⟩
abbrev cL_weighs : ByteArray := method_24_code
def yL_weighs : MethodName := ⟨RL, "weighs", "(LCaskYard;II[J)I"⟩
abbrev cL_count : ByteArray := method_25_code
def yL_count : MethodName := ⟨RL, "count", "(LCaskYard;I[J)I"⟩
abbrev cL_law : ByteArray := code
def yL_law : MethodName := ⟨RL, "law", "([I)Z"⟩
def wsX0_init : List Cond := .code yX0_init cX0_init 3 none :: ([.methodLink RX0 3 objectInit, .instanceMethod objectInit, .code objectInit ⟨#[0xb1]⟩ 1 none, .arrayClass .int, .fieldLink RX0 9 "CaskYard$Bolt" "begin" "[I", .fieldLink RX0 15 "CaskYard$Bolt" "end" "[I", .fieldLink RX0 18 "CaskYard$Bolt" "split" "I", .fieldLink RX0 22 "CaskYard$Bolt" "parts" "I"] ++ wsX00)
def wsX0_addPart : List Cond := .code yX0_addPart cX0_addPart 3 (some .boolean) :: ([.fieldLink RX0 22 "CaskYard$Bolt" "parts" "I", .fieldLink RX0 9 "CaskYard$Bolt" "begin" "[I", .fieldLink RX0 15 "CaskYard$Bolt" "end" "[I"] ++ wsX00)
def wsX0_takePartsOf : List Cond := .code yX0_takePartsOf cX0_takePartsOf 3 none :: ([.fieldLink RX0 22 "CaskYard$Bolt" "parts" "I", .fieldLink RX0 9 "CaskYard$Bolt" "begin" "[I", .fieldLink RX0 15 "CaskYard$Bolt" "end" "[I"] ++ wsX00)
def wsX0_dropEmptyParts : List Cond := .code yX0_dropEmptyParts cX0_dropEmptyParts 3 none :: ([.fieldLink RX0 22 "CaskYard$Bolt" "parts" "I", .fieldLink RX0 9 "CaskYard$Bolt" "begin" "[I", .fieldLink RX0 15 "CaskYard$Bolt" "end" "[I", .methodLink RX0 28 yX0_addPart, .instanceMethod yX0_addPart, .selects RX0 yX0_addPart yX0_addPart, .initialized RX0, .code yX0_addPart cX0_addPart 3 (some .boolean)] ++ wsX00)
def wsX0_cutFirst : List Cond := .code yX0_cutFirst cX0_cutFirst 3 (some .boolean) :: ([.fieldLink RX0 22 "CaskYard$Bolt" "parts" "I", .fieldLink RX0 15 "CaskYard$Bolt" "end" "[I", .fieldLink RX0 9 "CaskYard$Bolt" "begin" "[I", .methodLink RX0 25 yX0_dropEmptyParts, .instanceMethod yX0_dropEmptyParts, .selects RX0 yX0_dropEmptyParts yX0_dropEmptyParts, .initialized RX0, .code yX0_dropEmptyParts cX0_dropEmptyParts 3 none, .methodLink RX0 28 yX0_addPart, .instanceMethod yX0_addPart, .selects RX0 yX0_addPart yX0_addPart, .code yX0_addPart cX0_addPart 3 (some .boolean)] ++ wsX00)
def wsX1_init : List Cond := .code yX1_init cX1_init 3 none :: ([.methodLink RX1 3 objectInit, .instanceMethod objectInit, .code objectInit ⟨#[0xb1]⟩ 1 none, .arrayClass .int, .fieldLink RX1 9 "CaskYard$Cask" "boltOf" "[I", .fieldLink RX1 15 "CaskYard$Cask" "past" "[I", .fieldLink RX1 18 "CaskYard$Cask" "entryDay" "[I", .fieldLink RX1 21 "CaskYard$Cask" "entryTold" "[I", .fieldLink RX1 24 "CaskYard$Cask" "entryKind" "[I", .fieldLink RX1 27 "CaskYard$Cask" "formNumber" "I", .fieldLink RX1 31 "CaskYard$Cask" "shape" "LCaskYard$Form;"] ++ wsX10)
def wsX4_parted : List Cond := .code yX4_parted cX4_parted 2 (some .int) :: ([])
def wsX2_girthAt : List Cond := .code yX2_girthAt cX2_girthAt 3 (some .int) :: ([.fieldLink RX2 9 "CaskYard$Form" "height" "I", .fieldLink RX2 15 "CaskYard$Form" "bilge" "I", .fieldLink RX2 18 "CaskYard$Form" "headGirth" "I", .static yX4_parted, .initialized RX4, .code yX4_parted cX4_parted 2 (some .int)] ++ wsX20)
def wsX2_widthAt : List Cond := .code yX2_widthAt cX2_widthAt 4 (some .int) :: ([.fieldLink RX2 21 "CaskYard$Form" "staves" "I", .methodLink RX2 28 yX2_girthAt, .instanceMethod yX2_girthAt, .selects RX2 yX2_girthAt yX2_girthAt, .initialized RX2, .code yX2_girthAt cX2_girthAt 3 (some .int), .fieldLink RX2 9 "CaskYard$Form" "height" "I", .fieldLink RX2 15 "CaskYard$Form" "bilge" "I", .fieldLink RX2 18 "CaskYard$Form" "headGirth" "I", .static yX4_parted, .initialized RX4, .code yX4_parted cX4_parted 2 (some .int)] ++ wsX20)
def wsX2_bilgeWidth : List Cond := .code yX2_bilgeWidth cX2_bilgeWidth 2 (some .int) :: ([.fieldLink RX2 9 "CaskYard$Form" "height" "I", .methodLink RX2 32 yX2_widthAt, .instanceMethod yX2_widthAt, .selects RX2 yX2_widthAt yX2_widthAt, .initialized RX2, .code yX2_widthAt cX2_widthAt 4 (some .int), .fieldLink RX2 21 "CaskYard$Form" "staves" "I", .methodLink RX2 28 yX2_girthAt, .instanceMethod yX2_girthAt, .selects RX2 yX2_girthAt yX2_girthAt, .code yX2_girthAt cX2_girthAt 3 (some .int), .fieldLink RX2 15 "CaskYard$Form" "bilge" "I", .fieldLink RX2 18 "CaskYard$Form" "headGirth" "I", .static yX4_parted, .initialized RX4, .code yX4_parted cX4_parted 2 (some .int)] ++ wsX20)
def wsX2_narrowPiece : List Cond := .code yX2_narrowPiece cX2_narrowPiece 1 (some .int) :: ([.fieldLink RX2 15 "CaskYard$Form" "bilge" "I", .fieldLink RX2 21 "CaskYard$Form" "staves" "I", .static yX4_parted, .initialized RX4, .code yX4_parted cX4_parted 2 (some .int)] ++ wsX20)
def wsX2_isWide : List Cond := .code yX2_isWide cX2_isWide 2 (some .boolean) :: ([.methodLink RX2 51 yX2_bilgeWidth, .instanceMethod yX2_bilgeWidth, .selects RX2 yX2_bilgeWidth yX2_bilgeWidth, .initialized RX2, .code yX2_bilgeWidth cX2_bilgeWidth 2 (some .int), .fieldLink RX2 9 "CaskYard$Form" "height" "I", .methodLink RX2 32 yX2_widthAt, .instanceMethod yX2_widthAt, .selects RX2 yX2_widthAt yX2_widthAt, .code yX2_widthAt cX2_widthAt 4 (some .int), .fieldLink RX2 21 "CaskYard$Form" "staves" "I", .methodLink RX2 28 yX2_girthAt, .instanceMethod yX2_girthAt, .selects RX2 yX2_girthAt yX2_girthAt, .code yX2_girthAt cX2_girthAt 3 (some .int), .fieldLink RX2 15 "CaskYard$Form" "bilge" "I", .fieldLink RX2 18 "CaskYard$Form" "headGirth" "I", .static yX4_parted, .initialized RX4, .code yX4_parted cX4_parted 2 (some .int), .methodLink RX2 54 yX2_narrowPiece, .instanceMethod yX2_narrowPiece, .selects RX2 yX2_narrowPiece yX2_narrowPiece, .code yX2_narrowPiece cX2_narrowPiece 1 (some .int)] ++ wsX20)
def wsX1_takePieces_r1 : List Cond := [Cond.fieldLink RX1 31 "CaskYard$Cask" "shape" "LCaskYard$Form;", Cond.fieldLink RX1 35 "CaskYard$Form" "staves" "I", Cond.fieldLink RX1 9 "CaskYard$Cask" "boltOf" "[I", Cond.methodLink RX1 40 yX2_isWide, Cond.instanceMethod yX2_isWide, Cond.selects RX2 yX2_isWide yX2_isWide, Cond.initialized RX2, Cond.code yX2_isWide cX2_isWide 2 (some .boolean), Cond.methodLink RX2 51 yX2_bilgeWidth, Cond.instanceMethod yX2_bilgeWidth, Cond.selects RX2 yX2_bilgeWidth yX2_bilgeWidth, Cond.code yX2_bilgeWidth cX2_bilgeWidth 2 (some .int), Cond.fieldLink RX2 9 "CaskYard$Form" "height" "I", Cond.methodLink RX2 32 yX2_widthAt, Cond.instanceMethod yX2_widthAt, Cond.selects RX2 yX2_widthAt yX2_widthAt, Cond.code yX2_widthAt cX2_widthAt 4 (some .int), Cond.fieldLink RX2 21 "CaskYard$Form" "staves" "I", Cond.methodLink RX2 28 yX2_girthAt, Cond.instanceMethod yX2_girthAt, Cond.selects RX2 yX2_girthAt yX2_girthAt, Cond.code yX2_girthAt cX2_girthAt 3 (some .int), Cond.fieldLink RX2 15 "CaskYard$Form" "bilge" "I", Cond.fieldLink RX2 18 "CaskYard$Form" "headGirth" "I"]
def wsX1_takePieces_r2 : List Cond := [Cond.static yX4_parted, Cond.initialized RX4, Cond.code yX4_parted cX4_parted 2 (some .int), Cond.methodLink RX2 54 yX2_narrowPiece, Cond.instanceMethod yX2_narrowPiece, Cond.selects RX2 yX2_narrowPiece yX2_narrowPiece, Cond.code yX2_narrowPiece cX2_narrowPiece 1 (some .int)]
def wsX1_takePieces : List Cond := .code yX1_takePieces cX1_takePieces 7 (some .int) :: ((wsX1_takePieces_r1 ++ wsX1_takePieces_r2) ++ wsX10 ++ wsX20)
def wsX1_wholePast : List Cond := .code yX1_wholePast cX1_wholePast 3 (some .int) :: ([.fieldLink RX1 31 "CaskYard$Cask" "shape" "LCaskYard$Form;", .fieldLink RX1 35 "CaskYard$Form" "staves" "I", .fieldLink RX1 15 "CaskYard$Cask" "past" "[I"] ++ wsX10 ++ wsX20)
def wsX1_meet : List Cond := .code yX1_meet cX1_meet 3 none :: ([.fieldLink RX1 31 "CaskYard$Cask" "shape" "LCaskYard$Form;", .fieldLink RX1 35 "CaskYard$Form" "staves" "I", .fieldLink RX1 15 "CaskYard$Cask" "past" "[I"] ++ wsX10 ++ wsX20)
def wsX1_addEntry : List Cond := .code yX1_addEntry cX1_addEntry 4 none :: ([.fieldLink RX1 44 "CaskYard$Cask" "entries" "I", .fieldLink RX1 18 "CaskYard$Cask" "entryDay" "[I", .fieldLink RX1 21 "CaskYard$Cask" "entryTold" "[I", .fieldLink RX1 24 "CaskYard$Cask" "entryKind" "[I"] ++ wsX10)
def wsX1_heldOn : List Cond := .code yX1_heldOn cX1_heldOn 6 (some .int) :: ([.fieldLink RX1 44 "CaskYard$Cask" "entries" "I", .fieldLink RX1 21 "CaskYard$Cask" "entryTold" "[I", .fieldLink RX1 18 "CaskYard$Cask" "entryDay" "[I", .fieldLink RX1 24 "CaskYard$Cask" "entryKind" "[I"] ++ wsX10)
def wsX1_nextEntryDay : List Cond := .code yX1_nextEntryDay cX1_nextEntryDay 4 (some .int) :: ([.constant RX1 47 (100001), .fieldLink RX1 44 "CaskYard$Cask" "entries" "I", .fieldLink RX1 18 "CaskYard$Cask" "entryDay" "[I", .methodLink RX1 48 Lib.Math.min.name, .static Lib.Math.min.name, .initialized "java/lang/Math", .code Lib.Math.min.name Lib.Math.min.code 2 (some .int)] ++ wsX10)
def wsX2_init : List Cond := .code yX2_init cX2_init 5 none :: ([.methodLink RX2 3 objectInit, .instanceMethod objectInit, .code objectInit ⟨#[0xb1]⟩ 1 none, .fieldLink RX2 9 "CaskYard$Form" "height" "I", .fieldLink RX2 15 "CaskYard$Form" "bilge" "I", .fieldLink RX2 18 "CaskYard$Form" "headGirth" "I", .fieldLink RX2 21 "CaskYard$Form" "staves" "I"] ++ wsX20)
def wsX2_squareAt : List Cond := .code yX2_squareAt cX2_squareAt 4 (some .long) :: ([.methodLink RX2 28 yX2_girthAt, .instanceMethod yX2_girthAt, .selects RX2 yX2_girthAt yX2_girthAt, .initialized RX2, .code yX2_girthAt cX2_girthAt 3 (some .int), .fieldLink RX2 9 "CaskYard$Form" "height" "I", .fieldLink RX2 15 "CaskYard$Form" "bilge" "I", .fieldLink RX2 18 "CaskYard$Form" "headGirth" "I", .static yX4_parted, .initialized RX4, .code yX4_parted cX4_parted 2 (some .int)] ++ wsX20)
def wsX2_content : List Cond := .code yX2_content cX2_content 2 (some .int) :: ([.constantLong RX2 43 (113), .constantLong RX2 45 (1420)])
def wsX2_contentTo : List Cond := .code yX2_contentTo cX2_contentTo 5 (some .int) :: ([.methodLink RX2 35 yX2_squareAt, .instanceMethod yX2_squareAt, .selects RX2 yX2_squareAt yX2_squareAt, .initialized RX2, .code yX2_squareAt cX2_squareAt 4 (some .long), .methodLink RX2 28 yX2_girthAt, .instanceMethod yX2_girthAt, .selects RX2 yX2_girthAt yX2_girthAt, .code yX2_girthAt cX2_girthAt 3 (some .int), .fieldLink RX2 9 "CaskYard$Form" "height" "I", .fieldLink RX2 15 "CaskYard$Form" "bilge" "I", .fieldLink RX2 18 "CaskYard$Form" "headGirth" "I", .static yX4_parted, .initialized RX4, .code yX4_parted cX4_parted 2 (some .int), .methodLink RX2 39 yX2_content, .static yX2_content, .code yX2_content cX2_content 2 (some .int), .constantLong RX2 43 (113), .constantLong RX2 45 (1420)] ++ wsX20)
def wsX2_leastLevel : List Cond := .code yX2_leastLevel cX2_leastLevel 5 (some .int) :: ([.fieldLink RX2 9 "CaskYard$Form" "height" "I", .methodLink RX2 39 yX2_content, .static yX2_content, .initialized RX2, .code yX2_content cX2_content 2 (some .int), .constantLong RX2 43 (113), .constantLong RX2 45 (1420), .methodLink RX2 35 yX2_squareAt, .instanceMethod yX2_squareAt, .selects RX2 yX2_squareAt yX2_squareAt, .code yX2_squareAt cX2_squareAt 4 (some .long), .methodLink RX2 28 yX2_girthAt, .instanceMethod yX2_girthAt, .selects RX2 yX2_girthAt yX2_girthAt, .code yX2_girthAt cX2_girthAt 3 (some .int), .fieldLink RX2 15 "CaskYard$Form" "bilge" "I", .fieldLink RX2 18 "CaskYard$Form" "headGirth" "I", .static yX4_parted, .initialized RX4, .code yX4_parted cX4_parted 2 (some .int)] ++ wsX20)
def wsX2_wides : List Cond := .code yX2_wides cX2_wides 1 (some .int) :: ([.fieldLink RX2 15 "CaskYard$Form" "bilge" "I", .fieldLink RX2 21 "CaskYard$Form" "staves" "I", .static yX4_parted, .initialized RX4, .code yX4_parted cX4_parted 2 (some .int)] ++ wsX20)
def wsX2_narrows : List Cond := .code yX2_narrows cX2_narrows 1 (some .int) :: ([.fieldLink RX2 21 "CaskYard$Form" "staves" "I", .methodLink RX2 47 yX2_wides, .instanceMethod yX2_wides, .selects RX2 yX2_wides yX2_wides, .initialized RX2, .code yX2_wides cX2_wides 1 (some .int), .fieldLink RX2 15 "CaskYard$Form" "bilge" "I", .static yX4_parted, .initialized RX4, .code yX4_parted cX4_parted 2 (some .int)] ++ wsX20)
def wsX3_init : List Cond := .code yX3_init cX3_init 1 none :: ([.methodLink RX3 3 objectInit, .instanceMethod objectInit, .code objectInit ⟨#[0xb1]⟩ 1 none, .classLink RX3 9 RX0, .fieldLink RX3 11 "CaskYard$Saw" "laid" "[LCaskYard$Bolt;", .arrayClass .int, .fieldLink RX3 17 "CaskYard$Saw" "place" "[I", .fieldLink RX3 21 "CaskYard$Saw" "number" "[I", .fieldLink RX3 24 "CaskYard$Saw" "length" "[I", .fieldLink RX3 27 "CaskYard$Saw" "asWide" "[I", .fieldLink RX3 30 "CaskYard$Saw" "more" "[I", .fieldLink RX3 33 "CaskYard$Saw" "loss" "[I", .fieldLink RX3 36 "CaskYard$Saw" "byLoss" "[I", .arrayClass .boolean, .fieldLink RX3 39 "CaskYard$Saw" "open" "[Z", .fieldLink RX3 43 "CaskYard$Saw" "wideCut" "[I", .fieldLink RX3 46 "CaskYard$Saw" "narrowCut" "[I"] ++ wsX30)
def wsX3_prepare : List Cond := .code yX3_prepare cX3_prepare 2 none :: ([.fieldLink RX3 49 "CaskYard$Saw" "boltsLaid" "I", .fieldLink RX3 53 "CaskYard$Saw" "parts" "I", .fieldLink RX3 56 "CaskYard$Saw" "narrow" "I"] ++ wsX30)
def wsX3_sortIn : List Cond := .code yX3_sortIn cX3_sortIn 3 none :: ([.fieldLink RX3 33 "CaskYard$Saw" "loss" "[I", .fieldLink RX3 36 "CaskYard$Saw" "byLoss" "[I"] ++ wsX30)
def wsX3_layPart : List Cond := .code yX3_layPart cX3_layPart 4 none :: ([.fieldLink RX3 53 "CaskYard$Saw" "parts" "I", .fieldLink RX3 56 "CaskYard$Saw" "narrow" "I", .fieldLink RX3 17 "CaskYard$Saw" "place" "[I", .fieldLink RX3 49 "CaskYard$Saw" "boltsLaid" "I", .fieldLink RX3 21 "CaskYard$Saw" "number" "[I", .fieldLink RX3 24 "CaskYard$Saw" "length" "[I", .fieldLink RX3 27 "CaskYard$Saw" "asWide" "[I", .fieldLink RX3 30 "CaskYard$Saw" "more" "[I", .fieldLink RX3 33 "CaskYard$Saw" "loss" "[I", .static yX4_parted, .initialized RX4, .code yX4_parted cX4_parted 2 (some .int), .methodLink RX3 74 yX3_sortIn, .instanceMethod yX3_sortIn, .selects RX3 yX3_sortIn yX3_sortIn, .initialized RX3, .code yX3_sortIn cX3_sortIn 3 none, .fieldLink RX3 36 "CaskYard$Saw" "byLoss" "[I"] ++ wsX30)
def wsX3_lay_r1 : List Cond := [Cond.fieldLink RX3 49 "CaskYard$Saw" "boltsLaid" "I", Cond.fieldLink RX3 59 "CaskYard$Bolt" "parts" "I", Cond.fieldLink RX3 60 "CaskYard$Bolt" "end" "[I", Cond.fieldLink RX3 63 "CaskYard$Bolt" "begin" "[I", Cond.fieldLink RX3 11 "CaskYard$Saw" "laid" "[LCaskYard$Bolt;", Cond.methodLink RX3 66 yX3_layPart, Cond.instanceMethod yX3_layPart, Cond.selects RX3 yX3_layPart yX3_layPart, Cond.initialized RX3, Cond.code yX3_layPart cX3_layPart 4 none, Cond.fieldLink RX3 53 "CaskYard$Saw" "parts" "I", Cond.fieldLink RX3 56 "CaskYard$Saw" "narrow" "I", Cond.fieldLink RX3 17 "CaskYard$Saw" "place" "[I", Cond.fieldLink RX3 21 "CaskYard$Saw" "number" "[I", Cond.fieldLink RX3 24 "CaskYard$Saw" "length" "[I", Cond.fieldLink RX3 27 "CaskYard$Saw" "asWide" "[I", Cond.fieldLink RX3 30 "CaskYard$Saw" "more" "[I", Cond.fieldLink RX3 33 "CaskYard$Saw" "loss" "[I", Cond.static yX4_parted, Cond.initialized RX4, Cond.code yX4_parted cX4_parted 2 (some .int), Cond.methodLink RX3 74 yX3_sortIn, Cond.instanceMethod yX3_sortIn, Cond.selects RX3 yX3_sortIn yX3_sortIn]
def wsX3_lay_r2 : List Cond := [Cond.code yX3_sortIn cX3_sortIn 3 none, Cond.fieldLink RX3 36 "CaskYard$Saw" "byLoss" "[I"]
def wsX3_lay : List Cond := .code yX3_lay cX3_lay 4 none :: ((wsX3_lay_r1 ++ wsX3_lay_r2) ++ wsX30 ++ wsX00)
def wsX3_openSet : List Cond := .code yX3_openSet cX3_openSet 3 none :: ([.fieldLink RX3 53 "CaskYard$Saw" "parts" "I", .fieldLink RX3 39 "CaskYard$Saw" "open" "[Z", .fieldLink RX3 17 "CaskYard$Saw" "place" "[I"] ++ wsX30)
def wsX3_canGive : List Cond := .code yX3_canGive cX3_canGive 8 (some .boolean) :: ([.fieldLink RX3 53 "CaskYard$Saw" "parts" "I", .fieldLink RX3 39 "CaskYard$Saw" "open" "[Z", .fieldLink RX3 27 "CaskYard$Saw" "asWide" "[I", .fieldLink RX3 36 "CaskYard$Saw" "byLoss" "[I", .fieldLink RX3 30 "CaskYard$Saw" "more" "[I", .fieldLink RX3 33 "CaskYard$Saw" "loss" "[I", .methodLink RX3 91 Lib.Math.max.name, .static Lib.Math.max.name, .initialized "java/lang/Math", .code Lib.Math.max.name Lib.Math.max.code 2 (some .int), .fieldLink RX3 56 "CaskYard$Saw" "narrow" "I"] ++ wsX30)
def wsJ6_bitCount_0f7a4 : List Cond := .code yJ6_bitCount_0f7a4 cJ6_bitCount_0f7a4 1 (some .int) :: ([.constant RJ6 265 (1431655765), .constant RJ6 266 (858993459), .constant RJ6 267 (252645135)])
def wsX3_fewestSet_r1 : List Cond := [Cond.fieldLink RX3 49 "CaskYard$Saw" "boltsLaid" "I", Cond.methodLink RX3 78 yX3_openSet, Cond.instanceMethod yX3_openSet, Cond.selects RX3 yX3_openSet yX3_openSet, Cond.initialized RX3, Cond.code yX3_openSet cX3_openSet 3 none, Cond.fieldLink RX3 53 "CaskYard$Saw" "parts" "I", Cond.fieldLink RX3 39 "CaskYard$Saw" "open" "[Z", Cond.fieldLink RX3 17 "CaskYard$Saw" "place" "[I", Cond.methodLink RX3 81 yX3_canGive, Cond.instanceMethod yX3_canGive, Cond.selects RX3 yX3_canGive yX3_canGive, Cond.code yX3_canGive cX3_canGive 8 (some .boolean), Cond.fieldLink RX3 27 "CaskYard$Saw" "asWide" "[I", Cond.fieldLink RX3 36 "CaskYard$Saw" "byLoss" "[I", Cond.fieldLink RX3 30 "CaskYard$Saw" "more" "[I", Cond.fieldLink RX3 33 "CaskYard$Saw" "loss" "[I", Cond.methodLink RX3 91 Lib.Math.max.name, Cond.static Lib.Math.max.name, Cond.initialized "java/lang/Math", Cond.code Lib.Math.max.name Lib.Math.max.code 2 (some .int), Cond.fieldLink RX3 56 "CaskYard$Saw" "narrow" "I", Cond.methodLink RX3 85 yJ6_bitCount_0f7a4, Cond.static yJ6_bitCount_0f7a4]
def wsX3_fewestSet_r2 : List Cond := [Cond.initialized RJ6, Cond.code yJ6_bitCount_0f7a4 cJ6_bitCount_0f7a4 1 (some .int), Cond.constant RJ6 265 (1431655765), Cond.constant RJ6 266 (858993459), Cond.constant RJ6 267 (252645135)]
def wsX3_fewestSet : List Cond := .code yX3_fewestSet cX3_fewestSet 9 (some .int) :: ((wsX3_fewestSet_r1 ++ wsX3_fewestSet_r2) ++ wsX30)
def wsX3_choose_r1 : List Cond := [Cond.fieldLink RX3 27 "CaskYard$Saw" "asWide" "[I", Cond.methodLink RX3 103 Lib.Math.min.name, Cond.static Lib.Math.min.name, Cond.initialized "java/lang/Math", Cond.code Lib.Math.min.name Lib.Math.min.code 2 (some .int), Cond.fieldLink RX3 24 "CaskYard$Saw" "length" "[I", Cond.fieldLink RX3 56 "CaskYard$Saw" "narrow" "I", Cond.fieldLink RX3 43 "CaskYard$Saw" "wideCut" "[I", Cond.fieldLink RX3 46 "CaskYard$Saw" "narrowCut" "[I", Cond.static yX4_parted, Cond.initialized RX4, Cond.code yX4_parted cX4_parted 2 (some .int), Cond.methodLink RX3 81 yX3_canGive, Cond.instanceMethod yX3_canGive, Cond.selects RX3 yX3_canGive yX3_canGive, Cond.initialized RX3, Cond.code yX3_canGive cX3_canGive 8 (some .boolean), Cond.fieldLink RX3 53 "CaskYard$Saw" "parts" "I", Cond.fieldLink RX3 39 "CaskYard$Saw" "open" "[Z", Cond.fieldLink RX3 36 "CaskYard$Saw" "byLoss" "[I", Cond.fieldLink RX3 30 "CaskYard$Saw" "more" "[I", Cond.fieldLink RX3 33 "CaskYard$Saw" "loss" "[I", Cond.methodLink RX3 91 Lib.Math.max.name, Cond.static Lib.Math.max.name]
def wsX3_choose_r2 : List Cond := [Cond.code Lib.Math.max.name Lib.Math.max.code 2 (some .int)]
def wsX3_choose : List Cond := .code yX3_choose cX3_choose 6 none :: ((wsX3_choose_r1 ++ wsX3_choose_r2) ++ wsX30)
def wsX3_shortenBolt : List Cond := .code yX3_shortenBolt cX3_shortenBolt 5 (some .int) :: ([.fieldLink RX3 59 "CaskYard$Bolt" "parts" "I", .fieldLink RX3 53 "CaskYard$Saw" "parts" "I", .fieldLink RX3 63 "CaskYard$Bolt" "begin" "[I", .fieldLink RX3 43 "CaskYard$Saw" "wideCut" "[I", .fieldLink RX3 56 "CaskYard$Saw" "narrow" "I", .fieldLink RX3 46 "CaskYard$Saw" "narrowCut" "[I", .methodLink RX3 110 yX0_dropEmptyParts, .instanceMethod yX0_dropEmptyParts, .selects RX0 yX0_dropEmptyParts yX0_dropEmptyParts, .initialized RX0, .code yX0_dropEmptyParts cX0_dropEmptyParts 3 none, .fieldLink RX0 22 "CaskYard$Bolt" "parts" "I", .fieldLink RX0 9 "CaskYard$Bolt" "begin" "[I", .fieldLink RX0 15 "CaskYard$Bolt" "end" "[I", .methodLink RX0 28 yX0_addPart, .instanceMethod yX0_addPart, .selects RX0 yX0_addPart yX0_addPart, .code yX0_addPart cX0_addPart 3 (some .boolean)] ++ wsX00 ++ wsX30)
def wsX3_shorten_r1 : List Cond := [Cond.fieldLink RX3 49 "CaskYard$Saw" "boltsLaid" "I", Cond.fieldLink RX3 11 "CaskYard$Saw" "laid" "[LCaskYard$Bolt;", Cond.methodLink RX3 106 yX3_shortenBolt, Cond.instanceMethod yX3_shortenBolt, Cond.selects RX3 yX3_shortenBolt yX3_shortenBolt, Cond.initialized RX3, Cond.code yX3_shortenBolt cX3_shortenBolt 5 (some .int), Cond.fieldLink RX3 59 "CaskYard$Bolt" "parts" "I", Cond.fieldLink RX3 53 "CaskYard$Saw" "parts" "I", Cond.fieldLink RX3 63 "CaskYard$Bolt" "begin" "[I", Cond.fieldLink RX3 43 "CaskYard$Saw" "wideCut" "[I", Cond.fieldLink RX3 56 "CaskYard$Saw" "narrow" "I", Cond.fieldLink RX3 46 "CaskYard$Saw" "narrowCut" "[I", Cond.methodLink RX3 110 yX0_dropEmptyParts, Cond.instanceMethod yX0_dropEmptyParts, Cond.selects RX0 yX0_dropEmptyParts yX0_dropEmptyParts, Cond.initialized RX0, Cond.code yX0_dropEmptyParts cX0_dropEmptyParts 3 none, Cond.fieldLink RX0 22 "CaskYard$Bolt" "parts" "I", Cond.fieldLink RX0 9 "CaskYard$Bolt" "begin" "[I", Cond.fieldLink RX0 15 "CaskYard$Bolt" "end" "[I", Cond.methodLink RX0 28 yX0_addPart, Cond.instanceMethod yX0_addPart, Cond.selects RX0 yX0_addPart yX0_addPart]
def wsX3_shorten_r2 : List Cond := [Cond.code yX0_addPart cX0_addPart 3 (some .boolean)]
def wsX3_shorten : List Cond := .code yX3_shorten cX3_shorten 4 none :: ((wsX3_shorten_r1 ++ wsX3_shorten_r2) ++ wsX30 ++ wsX00)
def wsX3_cutSet_r1 : List Cond := [Cond.fieldLink RX3 53 "CaskYard$Saw" "parts" "I", Cond.fieldLink RX3 43 "CaskYard$Saw" "wideCut" "[I", Cond.fieldLink RX3 46 "CaskYard$Saw" "narrowCut" "[I", Cond.fieldLink RX3 39 "CaskYard$Saw" "open" "[Z", Cond.methodLink RX3 78 yX3_openSet, Cond.instanceMethod yX3_openSet, Cond.selects RX3 yX3_openSet yX3_openSet, Cond.initialized RX3, Cond.code yX3_openSet cX3_openSet 3 none, Cond.fieldLink RX3 17 "CaskYard$Saw" "place" "[I", Cond.methodLink RX3 96 yX3_choose, Cond.instanceMethod yX3_choose, Cond.selects RX3 yX3_choose yX3_choose, Cond.code yX3_choose cX3_choose 6 none, Cond.fieldLink RX3 27 "CaskYard$Saw" "asWide" "[I", Cond.methodLink RX3 103 Lib.Math.min.name, Cond.static Lib.Math.min.name, Cond.initialized "java/lang/Math", Cond.code Lib.Math.min.name Lib.Math.min.code 2 (some .int), Cond.fieldLink RX3 24 "CaskYard$Saw" "length" "[I", Cond.fieldLink RX3 56 "CaskYard$Saw" "narrow" "I", Cond.static yX4_parted, Cond.initialized RX4, Cond.code yX4_parted cX4_parted 2 (some .int)]
def wsX3_cutSet_r2 : List Cond := [Cond.methodLink RX3 81 yX3_canGive, Cond.instanceMethod yX3_canGive, Cond.selects RX3 yX3_canGive yX3_canGive, Cond.code yX3_canGive cX3_canGive 8 (some .boolean), Cond.fieldLink RX3 36 "CaskYard$Saw" "byLoss" "[I", Cond.fieldLink RX3 30 "CaskYard$Saw" "more" "[I", Cond.fieldLink RX3 33 "CaskYard$Saw" "loss" "[I", Cond.methodLink RX3 91 Lib.Math.max.name, Cond.static Lib.Math.max.name, Cond.code Lib.Math.max.name Lib.Math.max.code 2 (some .int), Cond.methodLink RX3 100 yX3_shorten, Cond.instanceMethod yX3_shorten, Cond.selects RX3 yX3_shorten yX3_shorten, Cond.code yX3_shorten cX3_shorten 4 none, Cond.fieldLink RX3 49 "CaskYard$Saw" "boltsLaid" "I", Cond.fieldLink RX3 11 "CaskYard$Saw" "laid" "[LCaskYard$Bolt;", Cond.methodLink RX3 106 yX3_shortenBolt, Cond.instanceMethod yX3_shortenBolt, Cond.selects RX3 yX3_shortenBolt yX3_shortenBolt, Cond.code yX3_shortenBolt cX3_shortenBolt 5 (some .int), Cond.fieldLink RX3 59 "CaskYard$Bolt" "parts" "I", Cond.fieldLink RX3 63 "CaskYard$Bolt" "begin" "[I", Cond.methodLink RX3 110 yX0_dropEmptyParts, Cond.instanceMethod yX0_dropEmptyParts]
def wsX3_cutSet_r3 : List Cond := [Cond.selects RX0 yX0_dropEmptyParts yX0_dropEmptyParts, Cond.initialized RX0, Cond.code yX0_dropEmptyParts cX0_dropEmptyParts 3 none, Cond.fieldLink RX0 22 "CaskYard$Bolt" "parts" "I", Cond.fieldLink RX0 9 "CaskYard$Bolt" "begin" "[I", Cond.fieldLink RX0 15 "CaskYard$Bolt" "end" "[I", Cond.methodLink RX0 28 yX0_addPart, Cond.instanceMethod yX0_addPart, Cond.selects RX0 yX0_addPart yX0_addPart, Cond.code yX0_addPart cX0_addPart 3 (some .boolean)]
def wsX3_cutSet : List Cond := .code yX3_cutSet cX3_cutSet 7 none :: ((wsX3_cutSet_r1 ++ (wsX3_cutSet_r2 ++ wsX3_cutSet_r3)) ++ wsX30 ++ wsX00)
def wsX4_init_r1 : List Cond := [Cond.methodLink RX4 1 objectInit, Cond.instanceMethod objectInit, Cond.code objectInit ⟨#[0xb1]⟩ 1 none, Cond.classLink RX4 9 RX2, Cond.fieldLink RX4 11 "CaskYard" "forms" "[LCaskYard$Form;", Cond.classLink RX4 15 RX0, Cond.fieldLink RX4 17 "CaskYard" "bolts" "[LCaskYard$Bolt;", Cond.classLink RX4 21 RX1, Cond.fieldLink RX4 23 "CaskYard" "casks" "[LCaskYard$Cask;", Cond.arrayClass .int, Cond.fieldLink RX4 27 "CaskYard" "barred" "[I", Cond.fieldLink RX4 31 "CaskYard" "weights" "[I", Cond.classLink RX4 34 RX3, Cond.instantiable RX3 14, Cond.initialized RX3, Cond.fieldLink RX4 37 "CaskYard" "saw" "LCaskYard$Saw;", Cond.instantiable RX0 4, Cond.initialized RX0, Cond.fieldLink RX4 44 "CaskYard" "spare" "LCaskYard$Bolt;", Cond.instanceMethod yX3_init, Cond.code yX3_init cX3_init 1 none, Cond.methodLink RX3 3 objectInit, Cond.classLink RX3 9 RX0, Cond.fieldLink RX3 11 "CaskYard$Saw" "laid" "[LCaskYard$Bolt;"]
def wsX4_init_r2 : List Cond := [Cond.fieldLink RX3 17 "CaskYard$Saw" "place" "[I", Cond.fieldLink RX3 21 "CaskYard$Saw" "number" "[I", Cond.fieldLink RX3 24 "CaskYard$Saw" "length" "[I", Cond.fieldLink RX3 27 "CaskYard$Saw" "asWide" "[I", Cond.fieldLink RX3 30 "CaskYard$Saw" "more" "[I", Cond.fieldLink RX3 33 "CaskYard$Saw" "loss" "[I", Cond.fieldLink RX3 36 "CaskYard$Saw" "byLoss" "[I", Cond.arrayClass .boolean, Cond.fieldLink RX3 39 "CaskYard$Saw" "open" "[Z", Cond.fieldLink RX3 43 "CaskYard$Saw" "wideCut" "[I", Cond.fieldLink RX3 46 "CaskYard$Saw" "narrowCut" "[I", Cond.methodLink RX4 41 yX0_init, Cond.instanceMethod yX0_init, Cond.code yX0_init cX0_init 3 none, Cond.methodLink RX0 3 objectInit, Cond.fieldLink RX0 9 "CaskYard$Bolt" "begin" "[I", Cond.fieldLink RX0 15 "CaskYard$Bolt" "end" "[I", Cond.fieldLink RX0 18 "CaskYard$Bolt" "split" "I", Cond.fieldLink RX0 22 "CaskYard$Bolt" "parts" "I"]
def wsX4_init : List Cond := .code yX4_init cX4_init 2 none :: ((wsX4_init_r1 ++ wsX4_init_r2) ++ wsX40 ++ wsX30 ++ wsX00)
def wsX4_form : List Cond := .code yX4_form cX4_form 7 (some .int) :: ([.fieldLink RX4 48 "CaskYard" "formCount" "I", .fieldLink RX4 11 "CaskYard" "forms" "[LCaskYard$Form;", .classLink RX4 9 RX2, .instantiable RX2 4, .initialized RX2, .methodLink RX4 52 yX2_init, .instanceMethod yX2_init, .code yX2_init cX2_init 5 none, .methodLink RX2 3 objectInit, .instanceMethod objectInit, .code objectInit ⟨#[0xb1]⟩ 1 none, .fieldLink RX2 9 "CaskYard$Form" "height" "I", .fieldLink RX2 15 "CaskYard$Form" "bilge" "I", .fieldLink RX2 18 "CaskYard$Form" "headGirth" "I", .fieldLink RX2 21 "CaskYard$Form" "staves" "I"] ++ wsX40 ++ wsX20)
def wsX4_formAt : List Cond := .code yX4_formAt cX4_formAt 3 (some (.object "CaskYard$Form")) :: ([.classLink RX4 125 "java/util/NoSuchElementException", .initialized "java/util/NoSuchElementException", .fieldLink RX4 11 "CaskYard" "forms" "[LCaskYard$Form;"] ++ wsX40 ++ (vx_atS RX4 129 "java/util/NoSuchElementException" ["java/lang/RuntimeException", "java/lang/Exception"]).filter goodWord)
def wsX4_checkHeight : List Cond := .code yX4_checkHeight cX4_checkHeight 2 none :: ([.classLink RX4 77 "java/lang/IllegalArgumentException", .initialized "java/lang/IllegalArgumentException", .fieldLink RX4 232 "CaskYard$Form" "height" "I"] ++ wsX20 ++ (vx_atS RX4 81 "java/lang/IllegalArgumentException" ["java/lang/RuntimeException", "java/lang/Exception"]).filter goodWord)
def wsX4_girth : List Cond := .code yX4_girth cX4_girth 4 (some .int) :: ([.methodLink RX4 55 yX4_formAt, .instanceMethod yX4_formAt, .selects RX4 yX4_formAt yX4_formAt, .initialized RX4, .code yX4_formAt cX4_formAt 3 (some (.object "CaskYard$Form")), .classLink RX4 125 "java/util/NoSuchElementException", .initialized "java/util/NoSuchElementException", .fieldLink RX4 11 "CaskYard" "forms" "[LCaskYard$Form;", .methodLink RX4 59 yX4_checkHeight, .static yX4_checkHeight, .code yX4_checkHeight cX4_checkHeight 2 none, .classLink RX4 77 "java/lang/IllegalArgumentException", .initialized "java/lang/IllegalArgumentException", .fieldLink RX4 232 "CaskYard$Form" "height" "I", .methodLink RX4 63 yX2_girthAt, .instanceMethod yX2_girthAt, .selects RX2 yX2_girthAt yX2_girthAt, .initialized RX2, .code yX2_girthAt cX2_girthAt 3 (some .int), .fieldLink RX2 9 "CaskYard$Form" "height" "I", .fieldLink RX2 15 "CaskYard$Form" "bilge" "I", .fieldLink RX2 18 "CaskYard$Form" "headGirth" "I", .static yX4_parted, .code yX4_parted cX4_parted 2 (some .int)] ++ wsX40 ++ wsX20 ++ (vx_atS RX4 129 "java/util/NoSuchElementException" ["java/lang/RuntimeException", "java/lang/Exception"]).filter goodWord ++ (vx_atS RX4 81 "java/lang/IllegalArgumentException" ["java/lang/RuntimeException", "java/lang/Exception"]).filter goodWord)
def wsX4_checkStave : List Cond := .code yX4_checkStave cX4_checkStave 2 none :: ([.classLink RX4 125 "java/util/NoSuchElementException", .initialized "java/util/NoSuchElementException", .fieldLink RX4 227 "CaskYard$Form" "staves" "I"] ++ wsX20 ++ (vx_atS RX4 129 "java/util/NoSuchElementException" ["java/lang/RuntimeException", "java/lang/Exception"]).filter goodWord)
def wsX4_width_r1 : List Cond := [Cond.methodLink RX4 55 yX4_formAt, Cond.instanceMethod yX4_formAt, Cond.selects RX4 yX4_formAt yX4_formAt, Cond.initialized RX4, Cond.code yX4_formAt cX4_formAt 3 (some (.object "CaskYard$Form")), Cond.classLink RX4 125 "java/util/NoSuchElementException", Cond.initialized "java/util/NoSuchElementException", Cond.fieldLink RX4 11 "CaskYard" "forms" "[LCaskYard$Form;", Cond.methodLink RX4 67 yX4_checkStave, Cond.static yX4_checkStave, Cond.code yX4_checkStave cX4_checkStave 2 none, Cond.fieldLink RX4 227 "CaskYard$Form" "staves" "I", Cond.methodLink RX4 59 yX4_checkHeight, Cond.static yX4_checkHeight, Cond.code yX4_checkHeight cX4_checkHeight 2 none, Cond.classLink RX4 77 "java/lang/IllegalArgumentException", Cond.initialized "java/lang/IllegalArgumentException", Cond.fieldLink RX4 232 "CaskYard$Form" "height" "I", Cond.methodLink RX4 70 yX2_widthAt, Cond.instanceMethod yX2_widthAt, Cond.selects RX2 yX2_widthAt yX2_widthAt, Cond.initialized RX2, Cond.code yX2_widthAt cX2_widthAt 4 (some .int), Cond.fieldLink RX2 21 "CaskYard$Form" "staves" "I"]
def wsX4_width_r2 : List Cond := [Cond.methodLink RX2 28 yX2_girthAt, Cond.instanceMethod yX2_girthAt, Cond.selects RX2 yX2_girthAt yX2_girthAt, Cond.code yX2_girthAt cX2_girthAt 3 (some .int), Cond.fieldLink RX2 9 "CaskYard$Form" "height" "I", Cond.fieldLink RX2 15 "CaskYard$Form" "bilge" "I", Cond.fieldLink RX2 18 "CaskYard$Form" "headGirth" "I", Cond.static yX4_parted, Cond.code yX4_parted cX4_parted 2 (some .int)]
def wsX4_width : List Cond := .code yX4_width cX4_width 5 (some .int) :: ((wsX4_width_r1 ++ wsX4_width_r2) ++ wsX40 ++ wsX20 ++ (vx_atS RX4 129 "java/util/NoSuchElementException" ["java/lang/RuntimeException", "java/lang/Exception"]).filter goodWord ++ (vx_atS RX4 81 "java/lang/IllegalArgumentException" ["java/lang/RuntimeException", "java/lang/Exception"]).filter goodWord)
def wsX4_holds_r1 : List Cond := [Cond.methodLink RX4 55 yX4_formAt, Cond.instanceMethod yX4_formAt, Cond.selects RX4 yX4_formAt yX4_formAt, Cond.initialized RX4, Cond.code yX4_formAt cX4_formAt 3 (some (.object "CaskYard$Form")), Cond.classLink RX4 125 "java/util/NoSuchElementException", Cond.initialized "java/util/NoSuchElementException", Cond.fieldLink RX4 11 "CaskYard" "forms" "[LCaskYard$Form;", Cond.methodLink RX4 59 yX4_checkHeight, Cond.static yX4_checkHeight, Cond.code yX4_checkHeight cX4_checkHeight 2 none, Cond.classLink RX4 77 "java/lang/IllegalArgumentException", Cond.initialized "java/lang/IllegalArgumentException", Cond.fieldLink RX4 232 "CaskYard$Form" "height" "I", Cond.methodLink RX4 74 yX2_contentTo, Cond.instanceMethod yX2_contentTo, Cond.selects RX2 yX2_contentTo yX2_contentTo, Cond.initialized RX2, Cond.code yX2_contentTo cX2_contentTo 5 (some .int), Cond.methodLink RX2 35 yX2_squareAt, Cond.instanceMethod yX2_squareAt, Cond.selects RX2 yX2_squareAt yX2_squareAt, Cond.code yX2_squareAt cX2_squareAt 4 (some .long), Cond.methodLink RX2 28 yX2_girthAt]
def wsX4_holds_r2 : List Cond := [Cond.instanceMethod yX2_girthAt, Cond.selects RX2 yX2_girthAt yX2_girthAt, Cond.code yX2_girthAt cX2_girthAt 3 (some .int), Cond.fieldLink RX2 9 "CaskYard$Form" "height" "I", Cond.fieldLink RX2 15 "CaskYard$Form" "bilge" "I", Cond.fieldLink RX2 18 "CaskYard$Form" "headGirth" "I", Cond.static yX4_parted, Cond.code yX4_parted cX4_parted 2 (some .int), Cond.methodLink RX2 39 yX2_content, Cond.static yX2_content, Cond.code yX2_content cX2_content 2 (some .int), Cond.constantLong RX2 43 (113), Cond.constantLong RX2 45 (1420)]
def wsX4_holds : List Cond := .code yX4_holds cX4_holds 4 (some .int) :: ((wsX4_holds_r1 ++ wsX4_holds_r2) ++ wsX40 ++ wsX20 ++ (vx_atS RX4 129 "java/util/NoSuchElementException" ["java/lang/RuntimeException", "java/lang/Exception"]).filter goodWord ++ (vx_atS RX4 81 "java/lang/IllegalArgumentException" ["java/lang/RuntimeException", "java/lang/Exception"]).filter goodWord)
def wsX4_level_r1 : List Cond := [Cond.classLink RX4 77 "java/lang/IllegalArgumentException", Cond.initialized "java/lang/IllegalArgumentException", Cond.methodLink RX4 55 yX4_formAt, Cond.instanceMethod yX4_formAt, Cond.selects RX4 yX4_formAt yX4_formAt, Cond.initialized RX4, Cond.code yX4_formAt cX4_formAt 3 (some (.object "CaskYard$Form")), Cond.classLink RX4 125 "java/util/NoSuchElementException", Cond.initialized "java/util/NoSuchElementException", Cond.fieldLink RX4 11 "CaskYard" "forms" "[LCaskYard$Form;", Cond.methodLink RX4 84 yX2_leastLevel, Cond.instanceMethod yX2_leastLevel, Cond.selects RX2 yX2_leastLevel yX2_leastLevel, Cond.initialized RX2, Cond.code yX2_leastLevel cX2_leastLevel 5 (some .int), Cond.fieldLink RX2 9 "CaskYard$Form" "height" "I", Cond.methodLink RX2 39 yX2_content, Cond.static yX2_content, Cond.code yX2_content cX2_content 2 (some .int), Cond.constantLong RX2 43 (113), Cond.constantLong RX2 45 (1420), Cond.methodLink RX2 35 yX2_squareAt, Cond.instanceMethod yX2_squareAt, Cond.selects RX2 yX2_squareAt yX2_squareAt]
def wsX4_level_r2 : List Cond := [Cond.code yX2_squareAt cX2_squareAt 4 (some .long), Cond.methodLink RX2 28 yX2_girthAt, Cond.instanceMethod yX2_girthAt, Cond.selects RX2 yX2_girthAt yX2_girthAt, Cond.code yX2_girthAt cX2_girthAt 3 (some .int), Cond.fieldLink RX2 15 "CaskYard$Form" "bilge" "I", Cond.fieldLink RX2 18 "CaskYard$Form" "headGirth" "I", Cond.static yX4_parted, Cond.code yX4_parted cX4_parted 2 (some .int)]
def wsX4_level : List Cond := .code yX4_level cX4_level 4 (some .int) :: ((wsX4_level_r1 ++ wsX4_level_r2) ++ wsX40 ++ wsX20 ++ (vx_atS RX4 81 "java/lang/IllegalArgumentException" ["java/lang/RuntimeException", "java/lang/Exception"]).filter goodWord ++ (vx_atS RX4 129 "java/util/NoSuchElementException" ["java/lang/RuntimeException", "java/lang/Exception"]).filter goodWord)
def wsX4_head : List Cond := .code yX4_head cX4_head 2 (some .int) :: ([.methodLink RX4 55 yX4_formAt, .instanceMethod yX4_formAt, .selects RX4 yX4_formAt yX4_formAt, .initialized RX4, .code yX4_formAt cX4_formAt 3 (some (.object "CaskYard$Form")), .classLink RX4 125 "java/util/NoSuchElementException", .initialized "java/util/NoSuchElementException", .fieldLink RX4 11 "CaskYard" "forms" "[LCaskYard$Form;", .methodLink RX4 63 yX2_girthAt, .instanceMethod yX2_girthAt, .selects RX2 yX2_girthAt yX2_girthAt, .initialized RX2, .code yX2_girthAt cX2_girthAt 3 (some .int), .fieldLink RX2 9 "CaskYard$Form" "height" "I", .fieldLink RX2 15 "CaskYard$Form" "bilge" "I", .fieldLink RX2 18 "CaskYard$Form" "headGirth" "I", .static yX4_parted, .code yX4_parted cX4_parted 2 (some .int)] ++ wsX40 ++ wsX20 ++ (vx_atS RX4 129 "java/util/NoSuchElementException" ["java/lang/RuntimeException", "java/lang/Exception"]).filter goodWord)
def wsX4_days : List Cond := .code yX4_days cX4_days 2 (some .int) :: ([.classLink RX4 77 "java/lang/IllegalArgumentException", .initialized "java/lang/IllegalArgumentException", .constant RX4 87 (100000), .fieldLink RX4 88 "CaskYard" "now" "I"] ++ wsX40 ++ (vx_atS RX4 81 "java/lang/IllegalArgumentException" ["java/lang/RuntimeException", "java/lang/Exception"]).filter goodWord)
def wsX4_bolt : List Cond := .code yX4_bolt cX4_bolt 2 (some .int) :: ([.fieldLink RX4 93 "CaskYard" "boltCount" "I", .fieldLink RX4 17 "CaskYard" "bolts" "[LCaskYard$Bolt;", .classLink RX4 15 RX0, .instantiable RX0 4, .initialized RX0, .fieldLink RX4 88 "CaskYard" "now" "I", .methodLink RX4 41 yX0_init, .instanceMethod yX0_init, .code yX0_init cX0_init 3 none, .methodLink RX0 3 objectInit, .instanceMethod objectInit, .code objectInit ⟨#[0xb1]⟩ 1 none, .arrayClass .int, .fieldLink RX0 9 "CaskYard$Bolt" "begin" "[I", .fieldLink RX0 15 "CaskYard$Bolt" "end" "[I", .fieldLink RX0 18 "CaskYard$Bolt" "split" "I", .fieldLink RX0 22 "CaskYard$Bolt" "parts" "I"] ++ wsX40 ++ wsX00)
def wsX4_boltAt : List Cond := .code yX4_boltAt cX4_boltAt 3 (some (.object "CaskYard$Bolt")) :: ([.classLink RX4 125 "java/util/NoSuchElementException", .initialized "java/util/NoSuchElementException", .fieldLink RX4 17 "CaskYard" "bolts" "[LCaskYard$Bolt;"] ++ wsX40 ++ (vx_atS RX4 129 "java/util/NoSuchElementException" ["java/lang/RuntimeException", "java/lang/Exception"]).filter goodWord)
def wsX4_flaw_r1 : List Cond := [Cond.fieldLink RX4 44 "CaskYard" "spare" "LCaskYard$Bolt;", Cond.fieldLink RX4 100 "CaskYard$Bolt" "parts" "I", Cond.fieldLink RX4 103 "CaskYard$Bolt" "begin" "[I", Cond.fieldLink RX4 106 "CaskYard$Bolt" "end" "[I", Cond.methodLink RX4 109 Lib.Math.min.name, Cond.static Lib.Math.min.name, Cond.initialized "java/lang/Math", Cond.code Lib.Math.min.name Lib.Math.min.code 2 (some .int), Cond.methodLink RX4 118 Lib.Math.max.name, Cond.static Lib.Math.max.name, Cond.code Lib.Math.max.name Lib.Math.max.code 2 (some .int), Cond.methodLink RX4 96 yX4_boltAt, Cond.instanceMethod yX4_boltAt, Cond.selects RX4 yX4_boltAt yX4_boltAt, Cond.initialized RX4, Cond.code yX4_boltAt cX4_boltAt 3 (some (.object "CaskYard$Bolt")), Cond.classLink RX4 125 "java/util/NoSuchElementException", Cond.initialized "java/util/NoSuchElementException", Cond.fieldLink RX4 17 "CaskYard" "bolts" "[LCaskYard$Bolt;", Cond.methodLink RX4 114 yX0_addPart, Cond.instanceMethod yX0_addPart, Cond.selects RX0 yX0_addPart yX0_addPart, Cond.initialized RX0, Cond.code yX0_addPart cX0_addPart 3 (some .boolean)]
def wsX4_flaw_r2 : List Cond := [Cond.fieldLink RX0 22 "CaskYard$Bolt" "parts" "I", Cond.fieldLink RX0 9 "CaskYard$Bolt" "begin" "[I", Cond.fieldLink RX0 15 "CaskYard$Bolt" "end" "[I", Cond.methodLink RX4 121 yX0_takePartsOf, Cond.instanceMethod yX0_takePartsOf, Cond.selects RX0 yX0_takePartsOf yX0_takePartsOf, Cond.code yX0_takePartsOf cX0_takePartsOf 3 none]
def wsX4_flaw : List Cond := .code yX4_flaw cX4_flaw 7 (some .int) :: ((wsX4_flaw_r1 ++ wsX4_flaw_r2) ++ wsX40 ++ wsX00 ++ (vx_atS RX4 129 "java/util/NoSuchElementException" ["java/lang/RuntimeException", "java/lang/Exception"]).filter goodWord)
def wsX4_clear : List Cond := .code yX4_clear cX4_clear 5 (some .int) :: ([.classLink RX4 125 "java/util/NoSuchElementException", .initialized "java/util/NoSuchElementException", .fieldLink RX4 100 "CaskYard$Bolt" "parts" "I", .fieldLink RX4 103 "CaskYard$Bolt" "begin" "[I", .fieldLink RX4 106 "CaskYard$Bolt" "end" "[I", .methodLink RX4 96 yX4_boltAt, .instanceMethod yX4_boltAt, .selects RX4 yX4_boltAt yX4_boltAt, .initialized RX4, .code yX4_boltAt cX4_boltAt 3 (some (.object "CaskYard$Bolt")), .fieldLink RX4 17 "CaskYard" "bolts" "[LCaskYard$Bolt;"] ++ wsX00 ++ wsX40 ++ (vx_atS RX4 129 "java/util/NoSuchElementException" ["java/lang/RuntimeException", "java/lang/Exception"]).filter goodWord)
def wsX4_isRipe : List Cond := .code yX4_isRipe cX4_isRipe 2 (some .boolean) :: ([.fieldLink RX4 88 "CaskYard" "now" "I", .fieldLink RX4 239 "CaskYard$Bolt" "split" "I"] ++ wsX40 ++ wsX00)
def wsX4_ripe : List Cond := .code yX4_ripe cX4_ripe 2 (some .boolean) :: ([.methodLink RX4 96 yX4_boltAt, .instanceMethod yX4_boltAt, .selects RX4 yX4_boltAt yX4_boltAt, .initialized RX4, .code yX4_boltAt cX4_boltAt 3 (some (.object "CaskYard$Bolt")), .classLink RX4 125 "java/util/NoSuchElementException", .initialized "java/util/NoSuchElementException", .fieldLink RX4 17 "CaskYard" "bolts" "[LCaskYard$Bolt;", .methodLink RX4 130 yX4_isRipe, .instanceMethod yX4_isRipe, .selects RX4 yX4_isRipe yX4_isRipe, .code yX4_isRipe cX4_isRipe 2 (some .boolean), .fieldLink RX4 88 "CaskYard" "now" "I", .fieldLink RX4 239 "CaskYard$Bolt" "split" "I"] ++ wsX40 ++ wsX00 ++ (vx_atS RX4 129 "java/util/NoSuchElementException" ["java/lang/RuntimeException", "java/lang/Exception"]).filter goodWord)
def wsX4_setFor_r1 : List Cond := [Cond.fieldLink RX4 37 "CaskYard" "saw" "LCaskYard$Saw;", Cond.fieldLink RX4 93 "CaskYard" "boltCount" "I", Cond.fieldLink RX4 17 "CaskYard" "bolts" "[LCaskYard$Bolt;", Cond.methodLink RX4 245 yX2_narrowPiece, Cond.instanceMethod yX2_narrowPiece, Cond.selects RX2 yX2_narrowPiece yX2_narrowPiece, Cond.initialized RX2, Cond.code yX2_narrowPiece cX2_narrowPiece 1 (some .int), Cond.fieldLink RX2 15 "CaskYard$Form" "bilge" "I", Cond.fieldLink RX2 21 "CaskYard$Form" "staves" "I", Cond.static yX4_parted, Cond.initialized RX4, Cond.code yX4_parted cX4_parted 2 (some .int), Cond.methodLink RX4 248 yX3_prepare, Cond.instanceMethod yX3_prepare, Cond.selects RX3 yX3_prepare yX3_prepare, Cond.initialized RX3, Cond.code yX3_prepare cX3_prepare 2 none, Cond.fieldLink RX3 49 "CaskYard$Saw" "boltsLaid" "I", Cond.fieldLink RX3 53 "CaskYard$Saw" "parts" "I", Cond.fieldLink RX3 56 "CaskYard$Saw" "narrow" "I", Cond.methodLink RX4 130 yX4_isRipe, Cond.instanceMethod yX4_isRipe, Cond.selects RX4 yX4_isRipe yX4_isRipe]
def wsX4_setFor_r2 : List Cond := [Cond.code yX4_isRipe cX4_isRipe 2 (some .boolean), Cond.fieldLink RX4 88 "CaskYard" "now" "I", Cond.fieldLink RX4 239 "CaskYard$Bolt" "split" "I", Cond.methodLink RX4 251 yX3_lay, Cond.instanceMethod yX3_lay, Cond.selects RX3 yX3_lay yX3_lay, Cond.code yX3_lay cX3_lay 4 none, Cond.fieldLink RX3 59 "CaskYard$Bolt" "parts" "I", Cond.fieldLink RX3 60 "CaskYard$Bolt" "end" "[I", Cond.fieldLink RX3 63 "CaskYard$Bolt" "begin" "[I", Cond.fieldLink RX3 11 "CaskYard$Saw" "laid" "[LCaskYard$Bolt;", Cond.methodLink RX3 66 yX3_layPart, Cond.instanceMethod yX3_layPart, Cond.selects RX3 yX3_layPart yX3_layPart, Cond.code yX3_layPart cX3_layPart 4 none, Cond.fieldLink RX3 17 "CaskYard$Saw" "place" "[I", Cond.fieldLink RX3 21 "CaskYard$Saw" "number" "[I", Cond.fieldLink RX3 24 "CaskYard$Saw" "length" "[I", Cond.fieldLink RX3 27 "CaskYard$Saw" "asWide" "[I", Cond.fieldLink RX3 30 "CaskYard$Saw" "more" "[I", Cond.fieldLink RX3 33 "CaskYard$Saw" "loss" "[I", Cond.methodLink RX3 74 yX3_sortIn, Cond.instanceMethod yX3_sortIn, Cond.selects RX3 yX3_sortIn yX3_sortIn]
def wsX4_setFor_r3 : List Cond := [Cond.code yX3_sortIn cX3_sortIn 3 none, Cond.fieldLink RX3 36 "CaskYard$Saw" "byLoss" "[I", Cond.methodLink RX4 149 yX2_wides, Cond.instanceMethod yX2_wides, Cond.selects RX2 yX2_wides yX2_wides, Cond.code yX2_wides cX2_wides 1 (some .int), Cond.methodLink RX4 153 yX2_narrows, Cond.instanceMethod yX2_narrows, Cond.selects RX2 yX2_narrows yX2_narrows, Cond.code yX2_narrows cX2_narrows 1 (some .int), Cond.methodLink RX2 47 yX2_wides, Cond.methodLink RX4 255 yX3_fewestSet, Cond.instanceMethod yX3_fewestSet, Cond.selects RX3 yX3_fewestSet yX3_fewestSet, Cond.code yX3_fewestSet cX3_fewestSet 9 (some .int), Cond.methodLink RX3 78 yX3_openSet, Cond.instanceMethod yX3_openSet, Cond.selects RX3 yX3_openSet yX3_openSet, Cond.code yX3_openSet cX3_openSet 3 none, Cond.fieldLink RX3 39 "CaskYard$Saw" "open" "[Z", Cond.methodLink RX3 81 yX3_canGive, Cond.instanceMethod yX3_canGive, Cond.selects RX3 yX3_canGive yX3_canGive, Cond.code yX3_canGive cX3_canGive 8 (some .boolean)]
def wsX4_setFor_r4 : List Cond := [Cond.methodLink RX3 91 Lib.Math.max.name, Cond.static Lib.Math.max.name, Cond.initialized "java/lang/Math", Cond.code Lib.Math.max.name Lib.Math.max.code 2 (some .int), Cond.methodLink RX3 85 yJ6_bitCount_0f7a4, Cond.static yJ6_bitCount_0f7a4, Cond.initialized RJ6, Cond.code yJ6_bitCount_0f7a4 cJ6_bitCount_0f7a4 1 (some .int), Cond.constant RJ6 265 (1431655765), Cond.constant RJ6 266 (858993459), Cond.constant RJ6 267 (252645135)]
def wsX4_setFor : List Cond := .code yX4_setFor cX4_setFor 4 (some .int) :: ((wsX4_setFor_r1 ++ (wsX4_setFor_r2 ++ (wsX4_setFor_r3 ++ wsX4_setFor_r4))) ++ wsX40 ++ wsX20 ++ wsX30 ++ wsX00)
def wsX4_fewest_r1 : List Cond := [Cond.methodLink RX4 55 yX4_formAt, Cond.instanceMethod yX4_formAt, Cond.selects RX4 yX4_formAt yX4_formAt, Cond.initialized RX4, Cond.code yX4_formAt cX4_formAt 3 (some (.object "CaskYard$Form")), Cond.classLink RX4 125 "java/util/NoSuchElementException", Cond.initialized "java/util/NoSuchElementException", Cond.fieldLink RX4 11 "CaskYard" "forms" "[LCaskYard$Form;", Cond.methodLink RX4 134 yX4_setFor, Cond.instanceMethod yX4_setFor, Cond.selects RX4 yX4_setFor yX4_setFor, Cond.code yX4_setFor cX4_setFor 4 (some .int), Cond.fieldLink RX4 37 "CaskYard" "saw" "LCaskYard$Saw;", Cond.fieldLink RX4 93 "CaskYard" "boltCount" "I", Cond.fieldLink RX4 17 "CaskYard" "bolts" "[LCaskYard$Bolt;", Cond.methodLink RX4 245 yX2_narrowPiece, Cond.instanceMethod yX2_narrowPiece, Cond.selects RX2 yX2_narrowPiece yX2_narrowPiece, Cond.initialized RX2, Cond.code yX2_narrowPiece cX2_narrowPiece 1 (some .int), Cond.fieldLink RX2 15 "CaskYard$Form" "bilge" "I", Cond.fieldLink RX2 21 "CaskYard$Form" "staves" "I", Cond.static yX4_parted, Cond.code yX4_parted cX4_parted 2 (some .int)]
def wsX4_fewest_r2 : List Cond := [Cond.methodLink RX4 248 yX3_prepare, Cond.instanceMethod yX3_prepare, Cond.selects RX3 yX3_prepare yX3_prepare, Cond.initialized RX3, Cond.code yX3_prepare cX3_prepare 2 none, Cond.fieldLink RX3 49 "CaskYard$Saw" "boltsLaid" "I", Cond.fieldLink RX3 53 "CaskYard$Saw" "parts" "I", Cond.fieldLink RX3 56 "CaskYard$Saw" "narrow" "I", Cond.methodLink RX4 130 yX4_isRipe, Cond.instanceMethod yX4_isRipe, Cond.selects RX4 yX4_isRipe yX4_isRipe, Cond.code yX4_isRipe cX4_isRipe 2 (some .boolean), Cond.fieldLink RX4 88 "CaskYard" "now" "I", Cond.fieldLink RX4 239 "CaskYard$Bolt" "split" "I", Cond.methodLink RX4 251 yX3_lay, Cond.instanceMethod yX3_lay, Cond.selects RX3 yX3_lay yX3_lay, Cond.code yX3_lay cX3_lay 4 none, Cond.fieldLink RX3 59 "CaskYard$Bolt" "parts" "I", Cond.fieldLink RX3 60 "CaskYard$Bolt" "end" "[I", Cond.fieldLink RX3 63 "CaskYard$Bolt" "begin" "[I", Cond.fieldLink RX3 11 "CaskYard$Saw" "laid" "[LCaskYard$Bolt;", Cond.methodLink RX3 66 yX3_layPart, Cond.instanceMethod yX3_layPart]
def wsX4_fewest_r3 : List Cond := [Cond.selects RX3 yX3_layPart yX3_layPart, Cond.code yX3_layPart cX3_layPart 4 none, Cond.fieldLink RX3 17 "CaskYard$Saw" "place" "[I", Cond.fieldLink RX3 21 "CaskYard$Saw" "number" "[I", Cond.fieldLink RX3 24 "CaskYard$Saw" "length" "[I", Cond.fieldLink RX3 27 "CaskYard$Saw" "asWide" "[I", Cond.fieldLink RX3 30 "CaskYard$Saw" "more" "[I", Cond.fieldLink RX3 33 "CaskYard$Saw" "loss" "[I", Cond.methodLink RX3 74 yX3_sortIn, Cond.instanceMethod yX3_sortIn, Cond.selects RX3 yX3_sortIn yX3_sortIn, Cond.code yX3_sortIn cX3_sortIn 3 none, Cond.fieldLink RX3 36 "CaskYard$Saw" "byLoss" "[I", Cond.methodLink RX4 149 yX2_wides, Cond.instanceMethod yX2_wides, Cond.selects RX2 yX2_wides yX2_wides, Cond.code yX2_wides cX2_wides 1 (some .int), Cond.methodLink RX4 153 yX2_narrows, Cond.instanceMethod yX2_narrows, Cond.selects RX2 yX2_narrows yX2_narrows, Cond.code yX2_narrows cX2_narrows 1 (some .int), Cond.methodLink RX2 47 yX2_wides, Cond.methodLink RX4 255 yX3_fewestSet, Cond.instanceMethod yX3_fewestSet]
def wsX4_fewest_r4 : List Cond := [Cond.selects RX3 yX3_fewestSet yX3_fewestSet, Cond.code yX3_fewestSet cX3_fewestSet 9 (some .int), Cond.methodLink RX3 78 yX3_openSet, Cond.instanceMethod yX3_openSet, Cond.selects RX3 yX3_openSet yX3_openSet, Cond.code yX3_openSet cX3_openSet 3 none, Cond.fieldLink RX3 39 "CaskYard$Saw" "open" "[Z", Cond.methodLink RX3 81 yX3_canGive, Cond.instanceMethod yX3_canGive, Cond.selects RX3 yX3_canGive yX3_canGive, Cond.code yX3_canGive cX3_canGive 8 (some .boolean), Cond.methodLink RX3 91 Lib.Math.max.name, Cond.static Lib.Math.max.name, Cond.initialized "java/lang/Math", Cond.code Lib.Math.max.name Lib.Math.max.code 2 (some .int), Cond.methodLink RX3 85 yJ6_bitCount_0f7a4, Cond.static yJ6_bitCount_0f7a4, Cond.initialized RJ6, Cond.code yJ6_bitCount_0f7a4 cJ6_bitCount_0f7a4 1 (some .int), Cond.constant RJ6 265 (1431655765), Cond.constant RJ6 266 (858993459), Cond.constant RJ6 267 (252645135), Cond.methodLink RX4 138 yJ6_bitCount_0f7a4]
def wsX4_fewest : List Cond := .code yX4_fewest cX4_fewest 3 (some .int) :: ((wsX4_fewest_r1 ++ (wsX4_fewest_r2 ++ (wsX4_fewest_r3 ++ wsX4_fewest_r4))) ++ wsX40 ++ wsX20 ++ wsX30 ++ wsX00 ++ (vx_atS RX4 129 "java/util/NoSuchElementException" ["java/lang/RuntimeException", "java/lang/Exception"]).filter goodWord)
def wsX4_handOut_r1 : List Cond := [Cond.fieldLink RX4 37 "CaskYard" "saw" "LCaskYard$Saw;", Cond.fieldLink RX4 258 "CaskYard$Saw" "parts" "I", Cond.fieldLink RX4 259 "CaskYard$Saw" "wideCut" "[I", Cond.fieldLink RX4 262 "CaskYard$Saw" "number" "[I", Cond.fieldLink RX4 269 "CaskYard$Saw" "narrowCut" "[I", Cond.methodLink RX4 265 yX1_takePieces, Cond.instanceMethod yX1_takePieces, Cond.selects RX1 yX1_takePieces yX1_takePieces, Cond.initialized RX1, Cond.code yX1_takePieces cX1_takePieces 7 (some .int), Cond.fieldLink RX1 31 "CaskYard$Cask" "shape" "LCaskYard$Form;", Cond.fieldLink RX1 35 "CaskYard$Form" "staves" "I", Cond.fieldLink RX1 9 "CaskYard$Cask" "boltOf" "[I", Cond.methodLink RX1 40 yX2_isWide, Cond.instanceMethod yX2_isWide, Cond.selects RX2 yX2_isWide yX2_isWide, Cond.initialized RX2, Cond.code yX2_isWide cX2_isWide 2 (some .boolean), Cond.methodLink RX2 51 yX2_bilgeWidth, Cond.instanceMethod yX2_bilgeWidth, Cond.selects RX2 yX2_bilgeWidth yX2_bilgeWidth, Cond.code yX2_bilgeWidth cX2_bilgeWidth 2 (some .int), Cond.fieldLink RX2 9 "CaskYard$Form" "height" "I", Cond.methodLink RX2 32 yX2_widthAt]
def wsX4_handOut_r2 : List Cond := [Cond.instanceMethod yX2_widthAt, Cond.selects RX2 yX2_widthAt yX2_widthAt, Cond.code yX2_widthAt cX2_widthAt 4 (some .int), Cond.fieldLink RX2 21 "CaskYard$Form" "staves" "I", Cond.methodLink RX2 28 yX2_girthAt, Cond.instanceMethod yX2_girthAt, Cond.selects RX2 yX2_girthAt yX2_girthAt, Cond.code yX2_girthAt cX2_girthAt 3 (some .int), Cond.fieldLink RX2 15 "CaskYard$Form" "bilge" "I", Cond.fieldLink RX2 18 "CaskYard$Form" "headGirth" "I", Cond.static yX4_parted, Cond.initialized RX4, Cond.code yX4_parted cX4_parted 2 (some .int), Cond.methodLink RX2 54 yX2_narrowPiece, Cond.instanceMethod yX2_narrowPiece, Cond.selects RX2 yX2_narrowPiece yX2_narrowPiece, Cond.code yX2_narrowPiece cX2_narrowPiece 1 (some .int)]
def wsX4_handOut : List Cond := .code yX4_handOut cX4_handOut 5 none :: ((wsX4_handOut_r1 ++ wsX4_handOut_r2) ++ wsX40 ++ wsX30 ++ wsX10 ++ wsX20)
def wsX4_make_r1 : List Cond := [Cond.fieldLink RX4 143 "CaskYard" "caskCount" "I", Cond.classLink RX4 21 RX1, Cond.instantiable RX1 8, Cond.initialized RX1, Cond.fieldLink RX4 37 "CaskYard" "saw" "LCaskYard$Saw;", Cond.fieldLink RX4 23 "CaskYard" "casks" "[LCaskYard$Cask;", Cond.methodLink RX4 55 yX4_formAt, Cond.instanceMethod yX4_formAt, Cond.selects RX4 yX4_formAt yX4_formAt, Cond.initialized RX4, Cond.code yX4_formAt cX4_formAt 3 (some (.object "CaskYard$Form")), Cond.classLink RX4 125 "java/util/NoSuchElementException", Cond.initialized "java/util/NoSuchElementException", Cond.fieldLink RX4 11 "CaskYard" "forms" "[LCaskYard$Form;", Cond.methodLink RX4 134 yX4_setFor, Cond.instanceMethod yX4_setFor, Cond.selects RX4 yX4_setFor yX4_setFor, Cond.code yX4_setFor cX4_setFor 4 (some .int), Cond.fieldLink RX4 93 "CaskYard" "boltCount" "I", Cond.fieldLink RX4 17 "CaskYard" "bolts" "[LCaskYard$Bolt;", Cond.methodLink RX4 245 yX2_narrowPiece, Cond.instanceMethod yX2_narrowPiece, Cond.selects RX2 yX2_narrowPiece yX2_narrowPiece, Cond.initialized RX2]
def wsX4_make_r2 : List Cond := [Cond.code yX2_narrowPiece cX2_narrowPiece 1 (some .int), Cond.fieldLink RX2 15 "CaskYard$Form" "bilge" "I", Cond.fieldLink RX2 21 "CaskYard$Form" "staves" "I", Cond.static yX4_parted, Cond.code yX4_parted cX4_parted 2 (some .int), Cond.methodLink RX4 248 yX3_prepare, Cond.instanceMethod yX3_prepare, Cond.selects RX3 yX3_prepare yX3_prepare, Cond.initialized RX3, Cond.code yX3_prepare cX3_prepare 2 none, Cond.fieldLink RX3 49 "CaskYard$Saw" "boltsLaid" "I", Cond.fieldLink RX3 53 "CaskYard$Saw" "parts" "I", Cond.fieldLink RX3 56 "CaskYard$Saw" "narrow" "I", Cond.methodLink RX4 130 yX4_isRipe, Cond.instanceMethod yX4_isRipe, Cond.selects RX4 yX4_isRipe yX4_isRipe, Cond.code yX4_isRipe cX4_isRipe 2 (some .boolean), Cond.fieldLink RX4 88 "CaskYard" "now" "I", Cond.fieldLink RX4 239 "CaskYard$Bolt" "split" "I", Cond.methodLink RX4 251 yX3_lay, Cond.instanceMethod yX3_lay, Cond.selects RX3 yX3_lay yX3_lay, Cond.code yX3_lay cX3_lay 4 none, Cond.fieldLink RX3 59 "CaskYard$Bolt" "parts" "I"]
def wsX4_make_r3 : List Cond := [Cond.fieldLink RX3 60 "CaskYard$Bolt" "end" "[I", Cond.fieldLink RX3 63 "CaskYard$Bolt" "begin" "[I", Cond.fieldLink RX3 11 "CaskYard$Saw" "laid" "[LCaskYard$Bolt;", Cond.methodLink RX3 66 yX3_layPart, Cond.instanceMethod yX3_layPart, Cond.selects RX3 yX3_layPart yX3_layPart, Cond.code yX3_layPart cX3_layPart 4 none, Cond.fieldLink RX3 17 "CaskYard$Saw" "place" "[I", Cond.fieldLink RX3 21 "CaskYard$Saw" "number" "[I", Cond.fieldLink RX3 24 "CaskYard$Saw" "length" "[I", Cond.fieldLink RX3 27 "CaskYard$Saw" "asWide" "[I", Cond.fieldLink RX3 30 "CaskYard$Saw" "more" "[I", Cond.fieldLink RX3 33 "CaskYard$Saw" "loss" "[I", Cond.methodLink RX3 74 yX3_sortIn, Cond.instanceMethod yX3_sortIn, Cond.selects RX3 yX3_sortIn yX3_sortIn, Cond.code yX3_sortIn cX3_sortIn 3 none, Cond.fieldLink RX3 36 "CaskYard$Saw" "byLoss" "[I", Cond.methodLink RX4 149 yX2_wides, Cond.instanceMethod yX2_wides, Cond.selects RX2 yX2_wides yX2_wides, Cond.code yX2_wides cX2_wides 1 (some .int), Cond.methodLink RX4 153 yX2_narrows, Cond.instanceMethod yX2_narrows]
def wsX4_make_r4 : List Cond := [Cond.selects RX2 yX2_narrows yX2_narrows, Cond.code yX2_narrows cX2_narrows 1 (some .int), Cond.methodLink RX2 47 yX2_wides, Cond.methodLink RX4 255 yX3_fewestSet, Cond.instanceMethod yX3_fewestSet, Cond.selects RX3 yX3_fewestSet yX3_fewestSet, Cond.code yX3_fewestSet cX3_fewestSet 9 (some .int), Cond.methodLink RX3 78 yX3_openSet, Cond.instanceMethod yX3_openSet, Cond.selects RX3 yX3_openSet yX3_openSet, Cond.code yX3_openSet cX3_openSet 3 none, Cond.fieldLink RX3 39 "CaskYard$Saw" "open" "[Z", Cond.methodLink RX3 81 yX3_canGive, Cond.instanceMethod yX3_canGive, Cond.selects RX3 yX3_canGive yX3_canGive, Cond.code yX3_canGive cX3_canGive 8 (some .boolean), Cond.methodLink RX3 91 Lib.Math.max.name, Cond.static Lib.Math.max.name, Cond.initialized "java/lang/Math", Cond.code Lib.Math.max.name Lib.Math.max.code 2 (some .int), Cond.methodLink RX3 85 yJ6_bitCount_0f7a4, Cond.static yJ6_bitCount_0f7a4, Cond.initialized RJ6, Cond.code yJ6_bitCount_0f7a4 cJ6_bitCount_0f7a4 1 (some .int)]
def wsX4_make_r5 : List Cond := [Cond.constant RJ6 265 (1431655765), Cond.constant RJ6 266 (858993459), Cond.constant RJ6 267 (252645135), Cond.methodLink RX4 146 yX1_init, Cond.instanceMethod yX1_init, Cond.code yX1_init cX1_init 3 none, Cond.methodLink RX1 3 objectInit, Cond.instanceMethod objectInit, Cond.code objectInit ⟨#[0xb1]⟩ 1 none, Cond.arrayClass .int, Cond.fieldLink RX1 9 "CaskYard$Cask" "boltOf" "[I", Cond.fieldLink RX1 15 "CaskYard$Cask" "past" "[I", Cond.fieldLink RX1 18 "CaskYard$Cask" "entryDay" "[I", Cond.fieldLink RX1 21 "CaskYard$Cask" "entryTold" "[I", Cond.fieldLink RX1 24 "CaskYard$Cask" "entryKind" "[I", Cond.fieldLink RX1 27 "CaskYard$Cask" "formNumber" "I", Cond.fieldLink RX1 31 "CaskYard$Cask" "shape" "LCaskYard$Form;", Cond.methodLink RX4 156 yX3_cutSet, Cond.instanceMethod yX3_cutSet, Cond.selects RX3 yX3_cutSet yX3_cutSet, Cond.code yX3_cutSet cX3_cutSet 7 none, Cond.fieldLink RX3 43 "CaskYard$Saw" "wideCut" "[I", Cond.fieldLink RX3 46 "CaskYard$Saw" "narrowCut" "[I", Cond.methodLink RX3 96 yX3_choose]
def wsX4_make_r6 : List Cond := [Cond.instanceMethod yX3_choose, Cond.selects RX3 yX3_choose yX3_choose, Cond.code yX3_choose cX3_choose 6 none, Cond.methodLink RX3 103 Lib.Math.min.name, Cond.static Lib.Math.min.name, Cond.code Lib.Math.min.name Lib.Math.min.code 2 (some .int), Cond.methodLink RX3 100 yX3_shorten, Cond.instanceMethod yX3_shorten, Cond.selects RX3 yX3_shorten yX3_shorten, Cond.code yX3_shorten cX3_shorten 4 none, Cond.methodLink RX3 106 yX3_shortenBolt, Cond.instanceMethod yX3_shortenBolt, Cond.selects RX3 yX3_shortenBolt yX3_shortenBolt, Cond.code yX3_shortenBolt cX3_shortenBolt 5 (some .int), Cond.methodLink RX3 110 yX0_dropEmptyParts, Cond.instanceMethod yX0_dropEmptyParts, Cond.selects RX0 yX0_dropEmptyParts yX0_dropEmptyParts, Cond.initialized RX0, Cond.code yX0_dropEmptyParts cX0_dropEmptyParts 3 none, Cond.fieldLink RX0 22 "CaskYard$Bolt" "parts" "I", Cond.fieldLink RX0 9 "CaskYard$Bolt" "begin" "[I", Cond.fieldLink RX0 15 "CaskYard$Bolt" "end" "[I", Cond.methodLink RX0 28 yX0_addPart, Cond.instanceMethod yX0_addPart]
def wsX4_make_r7 : List Cond := [Cond.selects RX0 yX0_addPart yX0_addPart, Cond.code yX0_addPart cX0_addPart 3 (some .boolean), Cond.methodLink RX4 160 yX4_handOut, Cond.instanceMethod yX4_handOut, Cond.selects RX4 yX4_handOut yX4_handOut, Cond.code yX4_handOut cX4_handOut 5 none, Cond.fieldLink RX4 258 "CaskYard$Saw" "parts" "I", Cond.fieldLink RX4 259 "CaskYard$Saw" "wideCut" "[I", Cond.fieldLink RX4 262 "CaskYard$Saw" "number" "[I", Cond.fieldLink RX4 269 "CaskYard$Saw" "narrowCut" "[I", Cond.methodLink RX4 265 yX1_takePieces, Cond.instanceMethod yX1_takePieces, Cond.selects RX1 yX1_takePieces yX1_takePieces, Cond.code yX1_takePieces cX1_takePieces 7 (some .int), Cond.fieldLink RX1 35 "CaskYard$Form" "staves" "I", Cond.methodLink RX1 40 yX2_isWide, Cond.instanceMethod yX2_isWide, Cond.selects RX2 yX2_isWide yX2_isWide, Cond.code yX2_isWide cX2_isWide 2 (some .boolean), Cond.methodLink RX2 51 yX2_bilgeWidth, Cond.instanceMethod yX2_bilgeWidth, Cond.selects RX2 yX2_bilgeWidth yX2_bilgeWidth, Cond.code yX2_bilgeWidth cX2_bilgeWidth 2 (some .int), Cond.fieldLink RX2 9 "CaskYard$Form" "height" "I"]
def wsX4_make_r8 : List Cond := [Cond.methodLink RX2 32 yX2_widthAt, Cond.instanceMethod yX2_widthAt, Cond.selects RX2 yX2_widthAt yX2_widthAt, Cond.code yX2_widthAt cX2_widthAt 4 (some .int), Cond.methodLink RX2 28 yX2_girthAt, Cond.instanceMethod yX2_girthAt, Cond.selects RX2 yX2_girthAt yX2_girthAt, Cond.code yX2_girthAt cX2_girthAt 3 (some .int), Cond.fieldLink RX2 18 "CaskYard$Form" "headGirth" "I", Cond.methodLink RX2 54 yX2_narrowPiece]
def wsX4_make : List Cond := .code yX4_make cX4_make 5 (some .int) :: ((wsX4_make_r1 ++ (wsX4_make_r2 ++ (wsX4_make_r3 ++ (wsX4_make_r4 ++ (wsX4_make_r5 ++ (wsX4_make_r6 ++ (wsX4_make_r7 ++ wsX4_make_r8))))))) ++ wsX40 ++ wsX10 ++ wsX20 ++ wsX30 ++ wsX00 ++ (vx_atS RX4 129 "java/util/NoSuchElementException" ["java/lang/RuntimeException", "java/lang/Exception"]).filter goodWord)
def wsX4_caskAt : List Cond := .code yX4_caskAt cX4_caskAt 3 (some (.object "CaskYard$Cask")) :: ([.classLink RX4 125 "java/util/NoSuchElementException", .initialized "java/util/NoSuchElementException", .fieldLink RX4 23 "CaskYard" "casks" "[LCaskYard$Cask;"] ++ wsX40 ++ (vx_atS RX4 129 "java/util/NoSuchElementException" ["java/lang/RuntimeException", "java/lang/Exception"]).filter goodWord)
def wsX4_stave_r1 : List Cond := [Cond.classLink RX4 125 "java/util/NoSuchElementException", Cond.initialized "java/util/NoSuchElementException", Cond.fieldLink RX4 168 "CaskYard$Cask" "shape" "LCaskYard$Form;", Cond.fieldLink RX4 177 "CaskYard$Cask" "boltOf" "[I", Cond.fieldLink RX4 180 "CaskYard$Cask" "past" "[I", Cond.methodLink RX4 164 yX4_caskAt, Cond.instanceMethod yX4_caskAt, Cond.selects RX4 yX4_caskAt yX4_caskAt, Cond.initialized RX4, Cond.code yX4_caskAt cX4_caskAt 3 (some (.object "CaskYard$Cask")), Cond.fieldLink RX4 23 "CaskYard" "casks" "[LCaskYard$Cask;", Cond.methodLink RX4 67 yX4_checkStave, Cond.static yX4_checkStave, Cond.code yX4_checkStave cX4_checkStave 2 none, Cond.fieldLink RX4 227 "CaskYard$Form" "staves" "I", Cond.methodLink RX4 174 yX2_bilgeWidth, Cond.instanceMethod yX2_bilgeWidth, Cond.selects RX2 yX2_bilgeWidth yX2_bilgeWidth, Cond.initialized RX2, Cond.code yX2_bilgeWidth cX2_bilgeWidth 2 (some .int), Cond.fieldLink RX2 9 "CaskYard$Form" "height" "I", Cond.methodLink RX2 32 yX2_widthAt, Cond.instanceMethod yX2_widthAt, Cond.selects RX2 yX2_widthAt yX2_widthAt]
def wsX4_stave_r2 : List Cond := [Cond.code yX2_widthAt cX2_widthAt 4 (some .int), Cond.fieldLink RX2 21 "CaskYard$Form" "staves" "I", Cond.methodLink RX2 28 yX2_girthAt, Cond.instanceMethod yX2_girthAt, Cond.selects RX2 yX2_girthAt yX2_girthAt, Cond.code yX2_girthAt cX2_girthAt 3 (some .int), Cond.fieldLink RX2 15 "CaskYard$Form" "bilge" "I", Cond.fieldLink RX2 18 "CaskYard$Form" "headGirth" "I", Cond.static yX4_parted, Cond.code yX4_parted cX4_parted 2 (some .int)]
def wsX4_stave : List Cond := .code yX4_stave cX4_stave 5 (some .int) :: ((wsX4_stave_r1 ++ wsX4_stave_r2) ++ wsX10 ++ wsX40 ++ wsX20 ++ (vx_atS RX4 129 "java/util/NoSuchElementException" ["java/lang/RuntimeException", "java/lang/Exception"]).filter goodWord)
def wsX4_formOf : List Cond := .code yX4_formOf cX4_formOf 2 (some .int) :: ([.fieldLink RX4 183 "CaskYard$Cask" "formNumber" "I", .methodLink RX4 164 yX4_caskAt, .instanceMethod yX4_caskAt, .selects RX4 yX4_caskAt yX4_caskAt, .initialized RX4, .code yX4_caskAt cX4_caskAt 3 (some (.object "CaskYard$Cask")), .classLink RX4 125 "java/util/NoSuchElementException", .initialized "java/util/NoSuchElementException", .fieldLink RX4 23 "CaskYard" "casks" "[LCaskYard$Cask;"] ++ wsX10 ++ wsX40 ++ (vx_atS RX4 129 "java/util/NoSuchElementException" ["java/lang/RuntimeException", "java/lang/Exception"]).filter goodWord)
def wsX4_checkKind : List Cond := .code yX4_checkKind cX4_checkKind 1 none :: ([.classLink RX4 77 "java/lang/IllegalArgumentException", .initialized "java/lang/IllegalArgumentException"] ++ (vx_atS RX4 81 "java/lang/IllegalArgumentException" ["java/lang/RuntimeException", "java/lang/Exception"]).filter goodWord)
def wsX4_bars : List Cond := .code yX4_bars cX4_bars 5 (some .boolean) :: ([.fieldLink RX4 27 "CaskYard" "barred" "[I", .methodLink RX4 186 yX4_checkKind, .static yX4_checkKind, .initialized RX4, .code yX4_checkKind cX4_checkKind 1 none, .classLink RX4 77 "java/lang/IllegalArgumentException", .initialized "java/lang/IllegalArgumentException"] ++ wsX40 ++ (vx_atS RX4 81 "java/lang/IllegalArgumentException" ["java/lang/RuntimeException", "java/lang/Exception"]).filter goodWord)
def wsX4_isLet : List Cond := .code yX4_isLet cX4_isLet 5 (some .boolean) :: ([.fieldLink RX4 27 "CaskYard" "barred" "[I", .methodLink RX4 242 yX1_wholePast, .instanceMethod yX1_wholePast, .selects RX1 yX1_wholePast yX1_wholePast, .initialized RX1, .code yX1_wholePast cX1_wholePast 3 (some .int), .fieldLink RX1 31 "CaskYard$Cask" "shape" "LCaskYard$Form;", .fieldLink RX1 35 "CaskYard$Form" "staves" "I", .fieldLink RX1 15 "CaskYard$Cask" "past" "[I"] ++ wsX40 ++ wsX10 ++ wsX20)
def wsX4_may_r1 : List Cond := [Cond.methodLink RX4 164 yX4_caskAt, Cond.instanceMethod yX4_caskAt, Cond.selects RX4 yX4_caskAt yX4_caskAt, Cond.initialized RX4, Cond.code yX4_caskAt cX4_caskAt 3 (some (.object "CaskYard$Cask")), Cond.classLink RX4 125 "java/util/NoSuchElementException", Cond.initialized "java/util/NoSuchElementException", Cond.fieldLink RX4 23 "CaskYard" "casks" "[LCaskYard$Cask;", Cond.methodLink RX4 186 yX4_checkKind, Cond.static yX4_checkKind, Cond.code yX4_checkKind cX4_checkKind 1 none, Cond.classLink RX4 77 "java/lang/IllegalArgumentException", Cond.initialized "java/lang/IllegalArgumentException", Cond.methodLink RX4 190 yX4_isLet, Cond.instanceMethod yX4_isLet, Cond.selects RX4 yX4_isLet yX4_isLet, Cond.code yX4_isLet cX4_isLet 5 (some .boolean), Cond.fieldLink RX4 27 "CaskYard" "barred" "[I", Cond.methodLink RX4 242 yX1_wholePast, Cond.instanceMethod yX1_wholePast, Cond.selects RX1 yX1_wholePast yX1_wholePast, Cond.initialized RX1, Cond.code yX1_wholePast cX1_wholePast 3 (some .int), Cond.fieldLink RX1 31 "CaskYard$Cask" "shape" "LCaskYard$Form;"]
def wsX4_may_r2 : List Cond := [Cond.fieldLink RX1 35 "CaskYard$Form" "staves" "I", Cond.fieldLink RX1 15 "CaskYard$Cask" "past" "[I"]
def wsX4_may : List Cond := .code yX4_may cX4_may 4 (some .boolean) :: ((wsX4_may_r1 ++ wsX4_may_r2) ++ wsX40 ++ wsX10 ++ wsX20 ++ (vx_atS RX4 129 "java/util/NoSuchElementException" ["java/lang/RuntimeException", "java/lang/Exception"]).filter goodWord ++ (vx_atS RX4 81 "java/lang/IllegalArgumentException" ["java/lang/RuntimeException", "java/lang/Exception"]).filter goodWord)
def wsX4_tell_r1 : List Cond := [Cond.fieldLink RX4 88 "CaskYard" "now" "I", Cond.fieldLink RX4 194 "CaskYard$Cask" "entries" "I", Cond.methodLink RX4 164 yX4_caskAt, Cond.instanceMethod yX4_caskAt, Cond.selects RX4 yX4_caskAt yX4_caskAt, Cond.initialized RX4, Cond.code yX4_caskAt cX4_caskAt 3 (some (.object "CaskYard$Cask")), Cond.classLink RX4 125 "java/util/NoSuchElementException", Cond.initialized "java/util/NoSuchElementException", Cond.fieldLink RX4 23 "CaskYard" "casks" "[LCaskYard$Cask;", Cond.methodLink RX4 186 yX4_checkKind, Cond.static yX4_checkKind, Cond.code yX4_checkKind cX4_checkKind 1 none, Cond.classLink RX4 77 "java/lang/IllegalArgumentException", Cond.initialized "java/lang/IllegalArgumentException", Cond.methodLink RX4 190 yX4_isLet, Cond.instanceMethod yX4_isLet, Cond.selects RX4 yX4_isLet yX4_isLet, Cond.code yX4_isLet cX4_isLet 5 (some .boolean), Cond.fieldLink RX4 27 "CaskYard" "barred" "[I", Cond.methodLink RX4 242 yX1_wholePast, Cond.instanceMethod yX1_wholePast, Cond.selects RX1 yX1_wholePast yX1_wholePast, Cond.initialized RX1]
def wsX4_tell_r2 : List Cond := [Cond.code yX1_wholePast cX1_wholePast 3 (some .int), Cond.fieldLink RX1 31 "CaskYard$Cask" "shape" "LCaskYard$Form;", Cond.fieldLink RX1 35 "CaskYard$Form" "staves" "I", Cond.fieldLink RX1 15 "CaskYard$Cask" "past" "[I", Cond.methodLink RX4 197 yX1_meet, Cond.instanceMethod yX1_meet, Cond.selects RX1 yX1_meet yX1_meet, Cond.code yX1_meet cX1_meet 3 none, Cond.methodLink RX4 200 yX1_addEntry, Cond.instanceMethod yX1_addEntry, Cond.selects RX1 yX1_addEntry yX1_addEntry, Cond.code yX1_addEntry cX1_addEntry 4 none, Cond.fieldLink RX1 44 "CaskYard$Cask" "entries" "I", Cond.fieldLink RX1 18 "CaskYard$Cask" "entryDay" "[I", Cond.fieldLink RX1 21 "CaskYard$Cask" "entryTold" "[I", Cond.fieldLink RX1 24 "CaskYard$Cask" "entryKind" "[I"]
def wsX4_tell : List Cond := .code yX4_tell cX4_tell 5 (some .int) :: ((wsX4_tell_r1 ++ wsX4_tell_r2) ++ wsX40 ++ wsX10 ++ wsX20 ++ (vx_atS RX4 129 "java/util/NoSuchElementException" ["java/lang/RuntimeException", "java/lang/Exception"]).filter goodWord ++ (vx_atS RX4 81 "java/lang/IllegalArgumentException" ["java/lang/RuntimeException", "java/lang/Exception"]).filter goodWord)
def wsX4_held : List Cond := .code yX4_held cX4_held 4 (some .int) :: ([.methodLink RX4 164 yX4_caskAt, .instanceMethod yX4_caskAt, .selects RX4 yX4_caskAt yX4_caskAt, .initialized RX4, .code yX4_caskAt cX4_caskAt 3 (some (.object "CaskYard$Cask")), .classLink RX4 125 "java/util/NoSuchElementException", .initialized "java/util/NoSuchElementException", .fieldLink RX4 23 "CaskYard" "casks" "[LCaskYard$Cask;", .methodLink RX4 203 yX1_heldOn, .instanceMethod yX1_heldOn, .selects RX1 yX1_heldOn yX1_heldOn, .initialized RX1, .code yX1_heldOn cX1_heldOn 6 (some .int), .fieldLink RX1 44 "CaskYard$Cask" "entries" "I", .fieldLink RX1 21 "CaskYard$Cask" "entryTold" "[I", .fieldLink RX1 18 "CaskYard$Cask" "entryDay" "[I", .fieldLink RX1 24 "CaskYard$Cask" "entryKind" "[I"] ++ wsX40 ++ wsX10 ++ (vx_atS RX4 129 "java/util/NoSuchElementException" ["java/lang/RuntimeException", "java/lang/Exception"]).filter goodWord)
def wsX4_lacks_r1 : List Cond := [Cond.classLink RX4 77 "java/lang/IllegalArgumentException", Cond.initialized "java/lang/IllegalArgumentException", Cond.constant RX4 87 (100000), Cond.methodLink RX4 109 Lib.Math.min.name, Cond.static Lib.Math.min.name, Cond.initialized "java/lang/Math", Cond.code Lib.Math.min.name Lib.Math.min.code 2 (some .int), Cond.fieldLink RX4 88 "CaskYard" "now" "I", Cond.methodLink RX4 164 yX4_caskAt, Cond.instanceMethod yX4_caskAt, Cond.selects RX4 yX4_caskAt yX4_caskAt, Cond.initialized RX4, Cond.code yX4_caskAt cX4_caskAt 3 (some (.object "CaskYard$Cask")), Cond.classLink RX4 125 "java/util/NoSuchElementException", Cond.initialized "java/util/NoSuchElementException", Cond.fieldLink RX4 23 "CaskYard" "casks" "[LCaskYard$Cask;", Cond.methodLink RX4 208 yX1_nextEntryDay, Cond.instanceMethod yX1_nextEntryDay, Cond.selects RX1 yX1_nextEntryDay yX1_nextEntryDay, Cond.initialized RX1, Cond.code yX1_nextEntryDay cX1_nextEntryDay 4 (some .int), Cond.constant RX1 47 (100001), Cond.fieldLink RX1 44 "CaskYard$Cask" "entries" "I", Cond.fieldLink RX1 18 "CaskYard$Cask" "entryDay" "[I"]
def wsX4_lacks_r2 : List Cond := [Cond.methodLink RX1 48 Lib.Math.min.name, Cond.methodLink RX4 203 yX1_heldOn, Cond.instanceMethod yX1_heldOn, Cond.selects RX1 yX1_heldOn yX1_heldOn, Cond.code yX1_heldOn cX1_heldOn 6 (some .int), Cond.fieldLink RX1 21 "CaskYard$Cask" "entryTold" "[I", Cond.fieldLink RX1 24 "CaskYard$Cask" "entryKind" "[I"]
def wsX4_lacks : List Cond := .code yX4_lacks cX4_lacks 11 (some .int) :: ((wsX4_lacks_r1 ++ wsX4_lacks_r2) ++ wsX40 ++ wsX10 ++ (vx_atS RX4 81 "java/lang/IllegalArgumentException" ["java/lang/RuntimeException", "java/lang/Exception"]).filter goodWord ++ (vx_atS RX4 129 "java/util/NoSuchElementException" ["java/lang/RuntimeException", "java/lang/Exception"]).filter goodWord)
def wsX4_swap_r1 : List Cond := [Cond.fieldLink RX4 168 "CaskYard$Cask" "shape" "LCaskYard$Form;", Cond.fieldLink RX4 177 "CaskYard$Cask" "boltOf" "[I", Cond.fieldLink RX4 180 "CaskYard$Cask" "past" "[I", Cond.methodLink RX4 164 yX4_caskAt, Cond.instanceMethod yX4_caskAt, Cond.selects RX4 yX4_caskAt yX4_caskAt, Cond.initialized RX4, Cond.code yX4_caskAt cX4_caskAt 3 (some (.object "CaskYard$Cask")), Cond.classLink RX4 125 "java/util/NoSuchElementException", Cond.initialized "java/util/NoSuchElementException", Cond.fieldLink RX4 23 "CaskYard" "casks" "[LCaskYard$Cask;", Cond.methodLink RX4 67 yX4_checkStave, Cond.static yX4_checkStave, Cond.code yX4_checkStave cX4_checkStave 2 none, Cond.fieldLink RX4 227 "CaskYard$Form" "staves" "I", Cond.methodLink RX4 174 yX2_bilgeWidth, Cond.instanceMethod yX2_bilgeWidth, Cond.selects RX2 yX2_bilgeWidth yX2_bilgeWidth, Cond.initialized RX2, Cond.code yX2_bilgeWidth cX2_bilgeWidth 2 (some .int), Cond.fieldLink RX2 9 "CaskYard$Form" "height" "I", Cond.methodLink RX2 32 yX2_widthAt, Cond.instanceMethod yX2_widthAt, Cond.selects RX2 yX2_widthAt yX2_widthAt]
def wsX4_swap_r2 : List Cond := [Cond.code yX2_widthAt cX2_widthAt 4 (some .int), Cond.fieldLink RX2 21 "CaskYard$Form" "staves" "I", Cond.methodLink RX2 28 yX2_girthAt, Cond.instanceMethod yX2_girthAt, Cond.selects RX2 yX2_girthAt yX2_girthAt, Cond.code yX2_girthAt cX2_girthAt 3 (some .int), Cond.fieldLink RX2 15 "CaskYard$Form" "bilge" "I", Cond.fieldLink RX2 18 "CaskYard$Form" "headGirth" "I", Cond.static yX4_parted, Cond.code yX4_parted cX4_parted 2 (some .int)]
def wsX4_swap : List Cond := .code yX4_swap cX4_swap 9 (some .boolean) :: ((wsX4_swap_r1 ++ wsX4_swap_r2) ++ wsX10 ++ wsX40 ++ wsX20 ++ (vx_atS RX4 129 "java/util/NoSuchElementException" ["java/lang/RuntimeException", "java/lang/Exception"]).filter goodWord)
def wsX4_renew_r1 : List Cond := [Cond.fieldLink RX4 168 "CaskYard$Cask" "shape" "LCaskYard$Form;", Cond.fieldLink RX4 93 "CaskYard" "boltCount" "I", Cond.fieldLink RX4 17 "CaskYard" "bolts" "[LCaskYard$Bolt;", Cond.fieldLink RX4 177 "CaskYard$Cask" "boltOf" "[I", Cond.fieldLink RX4 180 "CaskYard$Cask" "past" "[I", Cond.methodLink RX4 164 yX4_caskAt, Cond.instanceMethod yX4_caskAt, Cond.selects RX4 yX4_caskAt yX4_caskAt, Cond.initialized RX4, Cond.code yX4_caskAt cX4_caskAt 3 (some (.object "CaskYard$Cask")), Cond.classLink RX4 125 "java/util/NoSuchElementException", Cond.initialized "java/util/NoSuchElementException", Cond.fieldLink RX4 23 "CaskYard" "casks" "[LCaskYard$Cask;", Cond.methodLink RX4 67 yX4_checkStave, Cond.static yX4_checkStave, Cond.code yX4_checkStave cX4_checkStave 2 none, Cond.fieldLink RX4 227 "CaskYard$Form" "staves" "I", Cond.methodLink RX4 174 yX2_bilgeWidth, Cond.instanceMethod yX2_bilgeWidth, Cond.selects RX2 yX2_bilgeWidth yX2_bilgeWidth, Cond.initialized RX2, Cond.code yX2_bilgeWidth cX2_bilgeWidth 2 (some .int), Cond.fieldLink RX2 9 "CaskYard$Form" "height" "I", Cond.methodLink RX2 32 yX2_widthAt]
def wsX4_renew_r2 : List Cond := [Cond.instanceMethod yX2_widthAt, Cond.selects RX2 yX2_widthAt yX2_widthAt, Cond.code yX2_widthAt cX2_widthAt 4 (some .int), Cond.fieldLink RX2 21 "CaskYard$Form" "staves" "I", Cond.methodLink RX2 28 yX2_girthAt, Cond.instanceMethod yX2_girthAt, Cond.selects RX2 yX2_girthAt yX2_girthAt, Cond.code yX2_girthAt cX2_girthAt 3 (some .int), Cond.fieldLink RX2 15 "CaskYard$Form" "bilge" "I", Cond.fieldLink RX2 18 "CaskYard$Form" "headGirth" "I", Cond.static yX4_parted, Cond.code yX4_parted cX4_parted 2 (some .int), Cond.methodLink RX4 130 yX4_isRipe, Cond.instanceMethod yX4_isRipe, Cond.selects RX4 yX4_isRipe yX4_isRipe, Cond.code yX4_isRipe cX4_isRipe 2 (some .boolean), Cond.fieldLink RX4 88 "CaskYard" "now" "I", Cond.fieldLink RX4 239 "CaskYard$Bolt" "split" "I", Cond.methodLink RX4 211 yX0_cutFirst, Cond.instanceMethod yX0_cutFirst, Cond.selects RX0 yX0_cutFirst yX0_cutFirst, Cond.initialized RX0, Cond.code yX0_cutFirst cX0_cutFirst 3 (some .boolean), Cond.fieldLink RX0 22 "CaskYard$Bolt" "parts" "I"]
def wsX4_renew_r3 : List Cond := [Cond.fieldLink RX0 15 "CaskYard$Bolt" "end" "[I", Cond.fieldLink RX0 9 "CaskYard$Bolt" "begin" "[I", Cond.methodLink RX0 25 yX0_dropEmptyParts, Cond.instanceMethod yX0_dropEmptyParts, Cond.selects RX0 yX0_dropEmptyParts yX0_dropEmptyParts, Cond.code yX0_dropEmptyParts cX0_dropEmptyParts 3 none, Cond.methodLink RX0 28 yX0_addPart, Cond.instanceMethod yX0_addPart, Cond.selects RX0 yX0_addPart yX0_addPart, Cond.code yX0_addPart cX0_addPart 3 (some .boolean)]
def wsX4_renew : List Cond := .code yX4_renew cX4_renew 7 (some .int) :: ((wsX4_renew_r1 ++ (wsX4_renew_r2 ++ wsX4_renew_r3)) ++ wsX10 ++ wsX40 ++ wsX20 ++ wsX00 ++ (vx_atS RX4 129 "java/util/NoSuchElementException" ["java/lang/RuntimeException", "java/lang/Exception"]).filter goodWord)
def wsX4_weight : List Cond := .code yX4_weight cX4_weight 4 (some .int) :: ([.classLink RX4 77 "java/lang/IllegalArgumentException", .initialized "java/lang/IllegalArgumentException", .fieldLink RX4 31 "CaskYard" "weights" "[I", .methodLink RX4 186 yX4_checkKind, .static yX4_checkKind, .initialized RX4, .code yX4_checkKind cX4_checkKind 1 none] ++ wsX40 ++ (vx_atS RX4 81 "java/lang/IllegalArgumentException" ["java/lang/RuntimeException", "java/lang/Exception"]).filter goodWord)
def wsX4_weighs_r1 : List Cond := [Cond.fieldLink RX4 168 "CaskYard$Cask" "shape" "LCaskYard$Form;", Cond.fieldLink RX4 88 "CaskYard" "now" "I", Cond.constantLong RX4 217 (-1), Cond.fieldLink RX4 31 "CaskYard" "weights" "[I", Cond.constantLong RX4 219 (1000), Cond.methodLink RX4 164 yX4_caskAt, Cond.instanceMethod yX4_caskAt, Cond.selects RX4 yX4_caskAt yX4_caskAt, Cond.initialized RX4, Cond.code yX4_caskAt cX4_caskAt 3 (some (.object "CaskYard$Cask")), Cond.classLink RX4 125 "java/util/NoSuchElementException", Cond.initialized "java/util/NoSuchElementException", Cond.fieldLink RX4 23 "CaskYard" "casks" "[LCaskYard$Cask;", Cond.methodLink RX4 59 yX4_checkHeight, Cond.static yX4_checkHeight, Cond.code yX4_checkHeight cX4_checkHeight 2 none, Cond.classLink RX4 77 "java/lang/IllegalArgumentException", Cond.initialized "java/lang/IllegalArgumentException", Cond.fieldLink RX4 232 "CaskYard$Form" "height" "I", Cond.methodLink RX4 203 yX1_heldOn, Cond.instanceMethod yX1_heldOn, Cond.selects RX1 yX1_heldOn yX1_heldOn, Cond.initialized RX1, Cond.code yX1_heldOn cX1_heldOn 6 (some .int)]
def wsX4_weighs_r2 : List Cond := [Cond.fieldLink RX1 44 "CaskYard$Cask" "entries" "I", Cond.fieldLink RX1 21 "CaskYard$Cask" "entryTold" "[I", Cond.fieldLink RX1 18 "CaskYard$Cask" "entryDay" "[I", Cond.fieldLink RX1 24 "CaskYard$Cask" "entryKind" "[I", Cond.methodLink RX4 74 yX2_contentTo, Cond.instanceMethod yX2_contentTo, Cond.selects RX2 yX2_contentTo yX2_contentTo, Cond.initialized RX2, Cond.code yX2_contentTo cX2_contentTo 5 (some .int), Cond.methodLink RX2 35 yX2_squareAt, Cond.instanceMethod yX2_squareAt, Cond.selects RX2 yX2_squareAt yX2_squareAt, Cond.code yX2_squareAt cX2_squareAt 4 (some .long), Cond.methodLink RX2 28 yX2_girthAt, Cond.instanceMethod yX2_girthAt, Cond.selects RX2 yX2_girthAt yX2_girthAt, Cond.code yX2_girthAt cX2_girthAt 3 (some .int), Cond.fieldLink RX2 9 "CaskYard$Form" "height" "I", Cond.fieldLink RX2 15 "CaskYard$Form" "bilge" "I", Cond.fieldLink RX2 18 "CaskYard$Form" "headGirth" "I", Cond.static yX4_parted, Cond.code yX4_parted cX4_parted 2 (some .int), Cond.methodLink RX2 39 yX2_content, Cond.static yX2_content]
def wsX4_weighs_r3 : List Cond := [Cond.code yX2_content cX2_content 2 (some .int), Cond.constantLong RX2 43 (113), Cond.constantLong RX2 45 (1420)]
def wsX4_weighs : List Cond := .code yX4_weighs cX4_weighs 5 (some .long) :: ((wsX4_weighs_r1 ++ (wsX4_weighs_r2 ++ wsX4_weighs_r3)) ++ wsX10 ++ wsX40 ++ wsX20 ++ (vx_atS RX4 129 "java/util/NoSuchElementException" ["java/lang/RuntimeException", "java/lang/Exception"]).filter goodWord ++ (vx_atS RX4 81 "java/lang/IllegalArgumentException" ["java/lang/RuntimeException", "java/lang/Exception"]).filter goodWord)
def wsX4_count : List Cond := .code yX4_count cX4_count 2 (some .int) :: ([.classLink RX4 125 "java/util/NoSuchElementException", .initialized "java/util/NoSuchElementException", .fieldLink RX4 88 "CaskYard" "now" "I", .fieldLink RX4 48 "CaskYard" "formCount" "I", .fieldLink RX4 93 "CaskYard" "boltCount" "I", .fieldLink RX4 143 "CaskYard" "caskCount" "I"] ++ wsX40 ++ (vx_atS RX4 129 "java/util/NoSuchElementException" ["java/lang/RuntimeException", "java/lang/Exception"]).filter goodWord)
def wsX5_init_r1 : List Cond := [Cond.methodLink RX5 1 objectInit, Cond.instanceMethod objectInit, Cond.code objectInit ⟨#[0xb1]⟩ 1 none, Cond.arrayClass .int, Cond.fieldLink RX5 9 "CaskYardModel" "tall" "[I", Cond.fieldLink RX5 13 "CaskYardModel" "bilge" "[I", Cond.fieldLink RX5 16 "CaskYardModel" "headGirth" "[I", Cond.fieldLink RX5 19 "CaskYardModel" "staves" "[I", Cond.fieldLink RX5 22 "CaskYardModel" "splitOn" "[I", Cond.fieldLink RX5 25 "CaskYardModel" "partMany" "[I", Cond.fieldLink RX5 28 "CaskYardModel" "from" "[I", Cond.fieldLink RX5 31 "CaskYardModel" "to" "[I", Cond.fieldLink RX5 34 "CaskYardModel" "caskForm" "[I", Cond.fieldLink RX5 37 "CaskYardModel" "boltOf" "[I", Cond.fieldLink RX5 40 "CaskYardModel" "past" "[I", Cond.fieldLink RX5 43 "CaskYardModel" "entries" "[I", Cond.fieldLink RX5 46 "CaskYardModel" "entryDay" "[I", Cond.fieldLink RX5 49 "CaskYardModel" "entryKind" "[I", Cond.fieldLink RX5 52 "CaskYardModel" "entryTold" "[I", Cond.arrayClass .boolean, Cond.fieldLink RX5 55 "CaskYardModel" "barsIt" "[Z", Cond.fieldLink RX5 59 "CaskYardModel" "weights" "[I", Cond.fieldLink RX5 62 "CaskYardModel" "setBolt" "[I", Cond.fieldLink RX5 65 "CaskYardModel" "setPart" "[I"]
def wsX5_init_r2 : List Cond := [Cond.fieldLink RX5 68 "CaskYardModel" "most" "[I", Cond.fieldLink RX5 71 "CaskYardModel" "newFrom" "[I", Cond.fieldLink RX5 74 "CaskYardModel" "newTo" "[I", Cond.fieldLink RX5 77 "CaskYardModel" "looked" "[I", Cond.fieldLink RX5 80 "CaskYardModel" "cutBolt" "[I"]
def wsX5_init : List Cond := .code yX5_init cX5_init 2 none :: ((wsX5_init_r1 ++ wsX5_init_r2) ++ wsX50)
def wsX5_thrown : List Cond := .code yX5_thrown cX5_thrown 1 (some .int) :: ([.fieldLink RX5 83 "CaskYardModel" "code" "I"] ++ wsX50)
def wsX5_fail : List Cond := .code yX5_fail cX5_fail 2 (some .int) :: ([.fieldLink RX5 83 "CaskYardModel" "code" "I"] ++ wsX50)
def wsX5_isForm : List Cond := .code yX5_isForm cX5_isForm 2 (some .boolean) :: ([.fieldLink RX5 87 "CaskYardModel" "forms" "I"] ++ wsX50)
def wsX5_form : List Cond := .code yX5_form cX5_form 5 (some .int) :: ([.fieldLink RX5 83 "CaskYardModel" "code" "I", .fieldLink RX5 87 "CaskYardModel" "forms" "I", .fieldLink RX5 9 "CaskYardModel" "tall" "[I", .fieldLink RX5 13 "CaskYardModel" "bilge" "[I", .fieldLink RX5 16 "CaskYardModel" "headGirth" "[I", .fieldLink RX5 19 "CaskYardModel" "staves" "[I"] ++ wsX50)
def wsX5_girthOf : List Cond := .code yX5_girthOf cX5_girthOf 4 (some .int) :: ([.fieldLink RX5 9 "CaskYardModel" "tall" "[I", .fieldLink RX5 13 "CaskYardModel" "bilge" "[I", .fieldLink RX5 16 "CaskYardModel" "headGirth" "[I"] ++ wsX50)
def wsX5_isHeight : List Cond := .code yX5_isHeight cX5_isHeight 3 (some .boolean) :: ([.fieldLink RX5 9 "CaskYardModel" "tall" "[I"] ++ wsX50)
def wsX5_girth : List Cond := .code yX5_girth cX5_girth 3 (some .int) :: ([.fieldLink RX5 83 "CaskYardModel" "code" "I", .methodLink RX5 90 yX5_isForm, .instanceMethod yX5_isForm, .selects RX5 yX5_isForm yX5_isForm, .initialized RX5, .code yX5_isForm cX5_isForm 2 (some .boolean), .fieldLink RX5 87 "CaskYardModel" "forms" "I", .methodLink RX5 94 yX5_fail, .instanceMethod yX5_fail, .selects RX5 yX5_fail yX5_fail, .code yX5_fail cX5_fail 2 (some .int), .methodLink RX5 98 yX5_isHeight, .instanceMethod yX5_isHeight, .selects RX5 yX5_isHeight yX5_isHeight, .code yX5_isHeight cX5_isHeight 3 (some .boolean), .fieldLink RX5 9 "CaskYardModel" "tall" "[I", .methodLink RX5 102 yX5_girthOf, .instanceMethod yX5_girthOf, .selects RX5 yX5_girthOf yX5_girthOf, .code yX5_girthOf cX5_girthOf 4 (some .int), .fieldLink RX5 13 "CaskYardModel" "bilge" "[I", .fieldLink RX5 16 "CaskYardModel" "headGirth" "[I"] ++ wsX50)
def wsX5_widthOf : List Cond := .code yX5_widthOf cX5_widthOf 5 (some .int) :: ([.fieldLink RX5 19 "CaskYardModel" "staves" "[I", .methodLink RX5 102 yX5_girthOf, .instanceMethod yX5_girthOf, .selects RX5 yX5_girthOf yX5_girthOf, .initialized RX5, .code yX5_girthOf cX5_girthOf 4 (some .int), .fieldLink RX5 9 "CaskYardModel" "tall" "[I", .fieldLink RX5 13 "CaskYardModel" "bilge" "[I", .fieldLink RX5 16 "CaskYardModel" "headGirth" "[I"] ++ wsX50)
def wsX5_width_r1 : List Cond := [Cond.fieldLink RX5 83 "CaskYardModel" "code" "I", Cond.fieldLink RX5 19 "CaskYardModel" "staves" "[I", Cond.methodLink RX5 90 yX5_isForm, Cond.instanceMethod yX5_isForm, Cond.selects RX5 yX5_isForm yX5_isForm, Cond.initialized RX5, Cond.code yX5_isForm cX5_isForm 2 (some .boolean), Cond.fieldLink RX5 87 "CaskYardModel" "forms" "I", Cond.methodLink RX5 94 yX5_fail, Cond.instanceMethod yX5_fail, Cond.selects RX5 yX5_fail yX5_fail, Cond.code yX5_fail cX5_fail 2 (some .int), Cond.methodLink RX5 98 yX5_isHeight, Cond.instanceMethod yX5_isHeight, Cond.selects RX5 yX5_isHeight yX5_isHeight, Cond.code yX5_isHeight cX5_isHeight 3 (some .boolean), Cond.fieldLink RX5 9 "CaskYardModel" "tall" "[I", Cond.methodLink RX5 106 yX5_widthOf, Cond.instanceMethod yX5_widthOf, Cond.selects RX5 yX5_widthOf yX5_widthOf, Cond.code yX5_widthOf cX5_widthOf 5 (some .int), Cond.methodLink RX5 102 yX5_girthOf, Cond.instanceMethod yX5_girthOf, Cond.selects RX5 yX5_girthOf yX5_girthOf]
def wsX5_width_r2 : List Cond := [Cond.code yX5_girthOf cX5_girthOf 4 (some .int), Cond.fieldLink RX5 13 "CaskYardModel" "bilge" "[I", Cond.fieldLink RX5 16 "CaskYardModel" "headGirth" "[I"]
def wsX5_width : List Cond := .code yX5_width cX5_width 4 (some .int) :: ((wsX5_width_r1 ++ wsX5_width_r2) ++ wsX50)
def wsX5_holdsAt : List Cond := .code yX5_holdsAt cX5_holdsAt 6 (some .int) :: ([.constantLong RX5 110 (113), .constantLong RX5 112 (1420), .methodLink RX5 102 yX5_girthOf, .instanceMethod yX5_girthOf, .selects RX5 yX5_girthOf yX5_girthOf, .initialized RX5, .code yX5_girthOf cX5_girthOf 4 (some .int), .fieldLink RX5 9 "CaskYardModel" "tall" "[I", .fieldLink RX5 13 "CaskYardModel" "bilge" "[I", .fieldLink RX5 16 "CaskYardModel" "headGirth" "[I"] ++ wsX50)
def wsX5_holds_r1 : List Cond := [Cond.fieldLink RX5 83 "CaskYardModel" "code" "I", Cond.methodLink RX5 90 yX5_isForm, Cond.instanceMethod yX5_isForm, Cond.selects RX5 yX5_isForm yX5_isForm, Cond.initialized RX5, Cond.code yX5_isForm cX5_isForm 2 (some .boolean), Cond.fieldLink RX5 87 "CaskYardModel" "forms" "I", Cond.methodLink RX5 94 yX5_fail, Cond.instanceMethod yX5_fail, Cond.selects RX5 yX5_fail yX5_fail, Cond.code yX5_fail cX5_fail 2 (some .int), Cond.methodLink RX5 98 yX5_isHeight, Cond.instanceMethod yX5_isHeight, Cond.selects RX5 yX5_isHeight yX5_isHeight, Cond.code yX5_isHeight cX5_isHeight 3 (some .boolean), Cond.fieldLink RX5 9 "CaskYardModel" "tall" "[I", Cond.methodLink RX5 114 yX5_holdsAt, Cond.instanceMethod yX5_holdsAt, Cond.selects RX5 yX5_holdsAt yX5_holdsAt, Cond.code yX5_holdsAt cX5_holdsAt 6 (some .int), Cond.constantLong RX5 110 (113), Cond.constantLong RX5 112 (1420), Cond.methodLink RX5 102 yX5_girthOf, Cond.instanceMethod yX5_girthOf]
def wsX5_holds_r2 : List Cond := [Cond.selects RX5 yX5_girthOf yX5_girthOf, Cond.code yX5_girthOf cX5_girthOf 4 (some .int), Cond.fieldLink RX5 13 "CaskYardModel" "bilge" "[I", Cond.fieldLink RX5 16 "CaskYardModel" "headGirth" "[I"]
def wsX5_holds : List Cond := .code yX5_holds cX5_holds 3 (some .int) :: ((wsX5_holds_r1 ++ wsX5_holds_r2) ++ wsX50)
def wsX5_level : List Cond := .code yX5_level cX5_level 4 (some .int) :: ([.fieldLink RX5 83 "CaskYardModel" "code" "I", .fieldLink RX5 9 "CaskYardModel" "tall" "[I", .methodLink RX5 90 yX5_isForm, .instanceMethod yX5_isForm, .selects RX5 yX5_isForm yX5_isForm, .initialized RX5, .code yX5_isForm cX5_isForm 2 (some .boolean), .fieldLink RX5 87 "CaskYardModel" "forms" "I", .methodLink RX5 94 yX5_fail, .instanceMethod yX5_fail, .selects RX5 yX5_fail yX5_fail, .code yX5_fail cX5_fail 2 (some .int), .methodLink RX5 114 yX5_holdsAt, .instanceMethod yX5_holdsAt, .selects RX5 yX5_holdsAt yX5_holdsAt, .code yX5_holdsAt cX5_holdsAt 6 (some .int), .constantLong RX5 110 (113), .constantLong RX5 112 (1420), .methodLink RX5 102 yX5_girthOf, .instanceMethod yX5_girthOf, .selects RX5 yX5_girthOf yX5_girthOf, .code yX5_girthOf cX5_girthOf 4 (some .int), .fieldLink RX5 13 "CaskYardModel" "bilge" "[I", .fieldLink RX5 16 "CaskYardModel" "headGirth" "[I"] ++ wsX50)
def wsX5_head : List Cond := .code yX5_head cX5_head 2 (some .int) :: ([.fieldLink RX5 83 "CaskYardModel" "code" "I", .methodLink RX5 90 yX5_isForm, .instanceMethod yX5_isForm, .selects RX5 yX5_isForm yX5_isForm, .initialized RX5, .code yX5_isForm cX5_isForm 2 (some .boolean), .fieldLink RX5 87 "CaskYardModel" "forms" "I", .methodLink RX5 102 yX5_girthOf, .instanceMethod yX5_girthOf, .selects RX5 yX5_girthOf yX5_girthOf, .code yX5_girthOf cX5_girthOf 4 (some .int), .fieldLink RX5 9 "CaskYardModel" "tall" "[I", .fieldLink RX5 13 "CaskYardModel" "bilge" "[I", .fieldLink RX5 16 "CaskYardModel" "headGirth" "[I", .methodLink RX5 94 yX5_fail, .instanceMethod yX5_fail, .selects RX5 yX5_fail yX5_fail, .code yX5_fail cX5_fail 2 (some .int)] ++ wsX50)
def wsX5_days : List Cond := .code yX5_days cX5_days 2 (some .int) :: ([.fieldLink RX5 83 "CaskYardModel" "code" "I", .fieldLink RX5 117 "CaskYardModel" "now" "I", .constantLong RX5 120 (100000), .methodLink RX5 94 yX5_fail, .instanceMethod yX5_fail, .selects RX5 yX5_fail yX5_fail, .initialized RX5, .code yX5_fail cX5_fail 2 (some .int)] ++ wsX50)
def wsX5_isBolt : List Cond := .code yX5_isBolt cX5_isBolt 2 (some .boolean) :: ([.fieldLink RX5 122 "CaskYardModel" "bolts" "I"] ++ wsX50)
def wsX5_part : List Cond := .code yX5_part cX5_part 2 (some .int) :: ([])
def wsX5_bolt : List Cond := .code yX5_bolt cX5_bolt 2 (some .int) :: ([.fieldLink RX5 83 "CaskYardModel" "code" "I", .fieldLink RX5 122 "CaskYardModel" "bolts" "I", .fieldLink RX5 22 "CaskYardModel" "splitOn" "[I", .fieldLink RX5 117 "CaskYardModel" "now" "I", .fieldLink RX5 25 "CaskYardModel" "partMany" "[I", .fieldLink RX5 28 "CaskYardModel" "from" "[I", .fieldLink RX5 31 "CaskYardModel" "to" "[I", .methodLink RX5 125 yX5_part, .static yX5_part, .initialized RX5, .code yX5_part cX5_part 2 (some .int)] ++ wsX50)
def wsX5_flaw_r1 : List Cond := [Cond.fieldLink RX5 83 "CaskYardModel" "code" "I", Cond.fieldLink RX5 25 "CaskYardModel" "partMany" "[I", Cond.fieldLink RX5 28 "CaskYardModel" "from" "[I", Cond.fieldLink RX5 31 "CaskYardModel" "to" "[I", Cond.methodLink RX5 131 Lib.Math.min.name, Cond.static Lib.Math.min.name, Cond.initialized "java/lang/Math", Cond.code Lib.Math.min.name Lib.Math.min.code 2 (some .int), Cond.fieldLink RX5 71 "CaskYardModel" "newFrom" "[I", Cond.fieldLink RX5 74 "CaskYardModel" "newTo" "[I", Cond.methodLink RX5 136 Lib.Math.max.name, Cond.static Lib.Math.max.name, Cond.code Lib.Math.max.name Lib.Math.max.code 2 (some .int), Cond.methodLink RX5 128 yX5_isBolt, Cond.instanceMethod yX5_isBolt, Cond.selects RX5 yX5_isBolt yX5_isBolt, Cond.initialized RX5, Cond.code yX5_isBolt cX5_isBolt 2 (some .boolean), Cond.fieldLink RX5 122 "CaskYardModel" "bolts" "I", Cond.methodLink RX5 94 yX5_fail, Cond.instanceMethod yX5_fail, Cond.selects RX5 yX5_fail yX5_fail, Cond.code yX5_fail cX5_fail 2 (some .int), Cond.methodLink RX5 125 yX5_part]
def wsX5_flaw_r2 : List Cond := [Cond.static yX5_part, Cond.code yX5_part cX5_part 2 (some .int)]
def wsX5_flaw : List Cond := .code yX5_flaw cX5_flaw 8 (some .int) :: ((wsX5_flaw_r1 ++ wsX5_flaw_r2) ++ wsX50)
def wsX5_clear : List Cond := .code yX5_clear cX5_clear 4 (some .int) :: ([.fieldLink RX5 83 "CaskYardModel" "code" "I", .fieldLink RX5 25 "CaskYardModel" "partMany" "[I", .fieldLink RX5 28 "CaskYardModel" "from" "[I", .fieldLink RX5 31 "CaskYardModel" "to" "[I", .methodLink RX5 128 yX5_isBolt, .instanceMethod yX5_isBolt, .selects RX5 yX5_isBolt yX5_isBolt, .initialized RX5, .code yX5_isBolt cX5_isBolt 2 (some .boolean), .fieldLink RX5 122 "CaskYardModel" "bolts" "I", .methodLink RX5 94 yX5_fail, .instanceMethod yX5_fail, .selects RX5 yX5_fail yX5_fail, .code yX5_fail cX5_fail 2 (some .int), .methodLink RX5 125 yX5_part, .static yX5_part, .code yX5_part cX5_part 2 (some .int)] ++ wsX50)
def wsX5_isRipe : List Cond := .code yX5_isRipe cX5_isRipe 2 (some .boolean) :: ([.fieldLink RX5 117 "CaskYardModel" "now" "I", .fieldLink RX5 22 "CaskYardModel" "splitOn" "[I"] ++ wsX50)
def wsX5_ripe : List Cond := .code yX5_ripe cX5_ripe 2 (some .boolean) :: ([.fieldLink RX5 83 "CaskYardModel" "code" "I", .methodLink RX5 128 yX5_isBolt, .instanceMethod yX5_isBolt, .selects RX5 yX5_isBolt yX5_isBolt, .initialized RX5, .code yX5_isBolt cX5_isBolt 2 (some .boolean), .fieldLink RX5 122 "CaskYardModel" "bolts" "I", .methodLink RX5 94 yX5_fail, .instanceMethod yX5_fail, .selects RX5 yX5_fail yX5_fail, .code yX5_fail cX5_fail 2 (some .int), .methodLink RX5 139 yX5_isRipe, .instanceMethod yX5_isRipe, .selects RX5 yX5_isRipe yX5_isRipe, .code yX5_isRipe cX5_isRipe 2 (some .boolean), .fieldLink RX5 117 "CaskYardModel" "now" "I", .fieldLink RX5 22 "CaskYardModel" "splitOn" "[I"] ++ wsX50)
def wsX5_cut : List Cond := .code yX5_cut cX5_cut 4 none :: ([.fieldLink RX5 28 "CaskYardModel" "from" "[I", .methodLink RX5 125 yX5_part, .static yX5_part, .initialized RX5, .code yX5_part cX5_part 2 (some .int)] ++ wsX50)
def wsX5_tidy : List Cond := .code yX5_tidy cX5_tidy 4 none :: ([.fieldLink RX5 25 "CaskYardModel" "partMany" "[I", .fieldLink RX5 28 "CaskYardModel" "from" "[I", .fieldLink RX5 31 "CaskYardModel" "to" "[I", .methodLink RX5 125 yX5_part, .static yX5_part, .initialized RX5, .code yX5_part cX5_part 2 (some .int)] ++ wsX50)
def wsX5_pieces : List Cond := .code yX5_pieces cX5_pieces 5 none :: ([.fieldLink RX5 9 "CaskYardModel" "tall" "[I", .constant RX5 142 (1000000), .fieldLink RX5 19 "CaskYardModel" "staves" "[I", .methodLink RX5 131 Lib.Math.min.name, .static Lib.Math.min.name, .initialized "java/lang/Math", .code Lib.Math.min.name Lib.Math.min.code 2 (some .int), .fieldLink RX5 143 "CaskYardModel" "narrow" "I", .fieldLink RX5 146 "CaskYardModel" "wide" "I", .fieldLink RX5 149 "CaskYardModel" "narrowMany" "I", .fieldLink RX5 152 "CaskYardModel" "wideMany" "I", .methodLink RX5 106 yX5_widthOf, .instanceMethod yX5_widthOf, .selects RX5 yX5_widthOf yX5_widthOf, .initialized RX5, .code yX5_widthOf cX5_widthOf 5 (some .int), .methodLink RX5 102 yX5_girthOf, .instanceMethod yX5_girthOf, .selects RX5 yX5_girthOf yX5_girthOf, .code yX5_girthOf cX5_girthOf 4 (some .int), .fieldLink RX5 13 "CaskYardModel" "bilge" "[I", .fieldLink RX5 16 "CaskYardModel" "headGirth" "[I"] ++ wsX50)
def wsX5_length : List Cond := .code yX5_length cX5_length 3 (some .int) :: ([.fieldLink RX5 62 "CaskYardModel" "setBolt" "[I", .fieldLink RX5 65 "CaskYardModel" "setPart" "[I", .fieldLink RX5 31 "CaskYardModel" "to" "[I", .fieldLink RX5 28 "CaskYardModel" "from" "[I", .methodLink RX5 125 yX5_part, .static yX5_part, .initialized RX5, .code yX5_part cX5_part 2 (some .int)] ++ wsX50)
def wsX5_reckon : List Cond := .code yX5_reckon cX5_reckon 7 none :: ([.fieldLink RX5 152 "CaskYardModel" "wideMany" "I", .fieldLink RX5 68 "CaskYardModel" "most" "[I", .fieldLink RX5 155 "CaskYardModel" "setMany" "I", .fieldLink RX5 146 "CaskYardModel" "wide" "I", .fieldLink RX5 143 "CaskYardModel" "narrow" "I", .methodLink RX5 136 Lib.Math.max.name, .static Lib.Math.max.name, .initialized "java/lang/Math", .code Lib.Math.max.name Lib.Math.max.code 2 (some .int), .methodLink RX5 158 yX5_length, .instanceMethod yX5_length, .selects RX5 yX5_length yX5_length, .initialized RX5, .code yX5_length cX5_length 3 (some .int), .fieldLink RX5 62 "CaskYardModel" "setBolt" "[I", .fieldLink RX5 65 "CaskYardModel" "setPart" "[I", .fieldLink RX5 31 "CaskYardModel" "to" "[I", .fieldLink RX5 28 "CaskYardModel" "from" "[I", .methodLink RX5 125 yX5_part, .static yX5_part, .code yX5_part cX5_part 2 (some .int)] ++ wsX50)
def wsX5_gives : List Cond := .code yX5_gives cX5_gives 4 (some .boolean) :: ([.fieldLink RX5 68 "CaskYardModel" "most" "[I"] ++ wsX50)
def wsX5_take : List Cond := .code yX5_take cX5_take 4 none :: ([.fieldLink RX5 155 "CaskYardModel" "setMany" "I", .fieldLink RX5 25 "CaskYardModel" "partMany" "[I", .fieldLink RX5 77 "CaskYardModel" "looked" "[I", .fieldLink RX5 62 "CaskYardModel" "setBolt" "[I", .fieldLink RX5 65 "CaskYardModel" "setPart" "[I"] ++ wsX50)
def wsX5_ones : List Cond := .code yX5_ones cX5_ones 3 (some .int) :: ([])
def wsX5_isAhead : List Cond := .code yX5_isAhead cX5_isAhead 3 (some .boolean) :: ([])
def wsX5_bestSet_r1 : List Cond := [Cond.fieldLink RX5 122 "CaskYardModel" "bolts" "I", Cond.fieldLink RX5 77 "CaskYardModel" "looked" "[I", Cond.fieldLink RX5 152 "CaskYardModel" "wideMany" "I", Cond.fieldLink RX5 149 "CaskYardModel" "narrowMany" "I", Cond.methodLink RX5 161 yX5_pieces, Cond.instanceMethod yX5_pieces, Cond.selects RX5 yX5_pieces yX5_pieces, Cond.initialized RX5, Cond.code yX5_pieces cX5_pieces 5 none, Cond.fieldLink RX5 9 "CaskYardModel" "tall" "[I", Cond.constant RX5 142 (1000000), Cond.fieldLink RX5 19 "CaskYardModel" "staves" "[I", Cond.methodLink RX5 131 Lib.Math.min.name, Cond.static Lib.Math.min.name, Cond.initialized "java/lang/Math", Cond.code Lib.Math.min.name Lib.Math.min.code 2 (some .int), Cond.fieldLink RX5 143 "CaskYardModel" "narrow" "I", Cond.fieldLink RX5 146 "CaskYardModel" "wide" "I", Cond.methodLink RX5 106 yX5_widthOf, Cond.instanceMethod yX5_widthOf, Cond.selects RX5 yX5_widthOf yX5_widthOf, Cond.code yX5_widthOf cX5_widthOf 5 (some .int), Cond.methodLink RX5 102 yX5_girthOf, Cond.instanceMethod yX5_girthOf]
def wsX5_bestSet_r2 : List Cond := [Cond.selects RX5 yX5_girthOf yX5_girthOf, Cond.code yX5_girthOf cX5_girthOf 4 (some .int), Cond.fieldLink RX5 13 "CaskYardModel" "bilge" "[I", Cond.fieldLink RX5 16 "CaskYardModel" "headGirth" "[I", Cond.methodLink RX5 139 yX5_isRipe, Cond.instanceMethod yX5_isRipe, Cond.selects RX5 yX5_isRipe yX5_isRipe, Cond.code yX5_isRipe cX5_isRipe 2 (some .boolean), Cond.fieldLink RX5 117 "CaskYardModel" "now" "I", Cond.fieldLink RX5 22 "CaskYardModel" "splitOn" "[I", Cond.methodLink RX5 165 yX5_ones, Cond.static yX5_ones, Cond.code yX5_ones cX5_ones 3 (some .int), Cond.methodLink RX5 168 yX5_isAhead, Cond.static yX5_isAhead, Cond.code yX5_isAhead cX5_isAhead 3 (some .boolean), Cond.methodLink RX5 171 yX5_take, Cond.instanceMethod yX5_take, Cond.selects RX5 yX5_take yX5_take, Cond.code yX5_take cX5_take 4 none, Cond.fieldLink RX5 155 "CaskYardModel" "setMany" "I", Cond.fieldLink RX5 25 "CaskYardModel" "partMany" "[I", Cond.fieldLink RX5 62 "CaskYardModel" "setBolt" "[I", Cond.fieldLink RX5 65 "CaskYardModel" "setPart" "[I"]
def wsX5_bestSet_r3 : List Cond := [Cond.methodLink RX5 174 yX5_reckon, Cond.instanceMethod yX5_reckon, Cond.selects RX5 yX5_reckon yX5_reckon, Cond.code yX5_reckon cX5_reckon 7 none, Cond.fieldLink RX5 68 "CaskYardModel" "most" "[I", Cond.methodLink RX5 136 Lib.Math.max.name, Cond.static Lib.Math.max.name, Cond.code Lib.Math.max.name Lib.Math.max.code 2 (some .int), Cond.methodLink RX5 158 yX5_length, Cond.instanceMethod yX5_length, Cond.selects RX5 yX5_length yX5_length, Cond.code yX5_length cX5_length 3 (some .int), Cond.fieldLink RX5 31 "CaskYardModel" "to" "[I", Cond.fieldLink RX5 28 "CaskYardModel" "from" "[I", Cond.methodLink RX5 125 yX5_part, Cond.static yX5_part, Cond.code yX5_part cX5_part 2 (some .int), Cond.methodLink RX5 177 yX5_gives, Cond.instanceMethod yX5_gives, Cond.selects RX5 yX5_gives yX5_gives, Cond.code yX5_gives cX5_gives 4 (some .boolean)]
def wsX5_bestSet : List Cond := .code yX5_bestSet cX5_bestSet 6 (some .int) :: ((wsX5_bestSet_r1 ++ (wsX5_bestSet_r2 ++ wsX5_bestSet_r3)) ++ wsX50)
def wsX5_fewest_r1 : List Cond := [Cond.fieldLink RX5 83 "CaskYardModel" "code" "I", Cond.methodLink RX5 90 yX5_isForm, Cond.instanceMethod yX5_isForm, Cond.selects RX5 yX5_isForm yX5_isForm, Cond.initialized RX5, Cond.code yX5_isForm cX5_isForm 2 (some .boolean), Cond.fieldLink RX5 87 "CaskYardModel" "forms" "I", Cond.methodLink RX5 94 yX5_fail, Cond.instanceMethod yX5_fail, Cond.selects RX5 yX5_fail yX5_fail, Cond.code yX5_fail cX5_fail 2 (some .int), Cond.methodLink RX5 181 yX5_bestSet, Cond.instanceMethod yX5_bestSet, Cond.selects RX5 yX5_bestSet yX5_bestSet, Cond.code yX5_bestSet cX5_bestSet 6 (some .int), Cond.fieldLink RX5 122 "CaskYardModel" "bolts" "I", Cond.fieldLink RX5 77 "CaskYardModel" "looked" "[I", Cond.fieldLink RX5 152 "CaskYardModel" "wideMany" "I", Cond.fieldLink RX5 149 "CaskYardModel" "narrowMany" "I", Cond.methodLink RX5 161 yX5_pieces, Cond.instanceMethod yX5_pieces, Cond.selects RX5 yX5_pieces yX5_pieces, Cond.code yX5_pieces cX5_pieces 5 none, Cond.fieldLink RX5 9 "CaskYardModel" "tall" "[I"]
def wsX5_fewest_r2 : List Cond := [Cond.constant RX5 142 (1000000), Cond.fieldLink RX5 19 "CaskYardModel" "staves" "[I", Cond.methodLink RX5 131 Lib.Math.min.name, Cond.static Lib.Math.min.name, Cond.initialized "java/lang/Math", Cond.code Lib.Math.min.name Lib.Math.min.code 2 (some .int), Cond.fieldLink RX5 143 "CaskYardModel" "narrow" "I", Cond.fieldLink RX5 146 "CaskYardModel" "wide" "I", Cond.methodLink RX5 106 yX5_widthOf, Cond.instanceMethod yX5_widthOf, Cond.selects RX5 yX5_widthOf yX5_widthOf, Cond.code yX5_widthOf cX5_widthOf 5 (some .int), Cond.methodLink RX5 102 yX5_girthOf, Cond.instanceMethod yX5_girthOf, Cond.selects RX5 yX5_girthOf yX5_girthOf, Cond.code yX5_girthOf cX5_girthOf 4 (some .int), Cond.fieldLink RX5 13 "CaskYardModel" "bilge" "[I", Cond.fieldLink RX5 16 "CaskYardModel" "headGirth" "[I", Cond.methodLink RX5 139 yX5_isRipe, Cond.instanceMethod yX5_isRipe, Cond.selects RX5 yX5_isRipe yX5_isRipe, Cond.code yX5_isRipe cX5_isRipe 2 (some .boolean), Cond.fieldLink RX5 117 "CaskYardModel" "now" "I", Cond.fieldLink RX5 22 "CaskYardModel" "splitOn" "[I"]
def wsX5_fewest_r3 : List Cond := [Cond.methodLink RX5 165 yX5_ones, Cond.static yX5_ones, Cond.code yX5_ones cX5_ones 3 (some .int), Cond.methodLink RX5 168 yX5_isAhead, Cond.static yX5_isAhead, Cond.code yX5_isAhead cX5_isAhead 3 (some .boolean), Cond.methodLink RX5 171 yX5_take, Cond.instanceMethod yX5_take, Cond.selects RX5 yX5_take yX5_take, Cond.code yX5_take cX5_take 4 none, Cond.fieldLink RX5 155 "CaskYardModel" "setMany" "I", Cond.fieldLink RX5 25 "CaskYardModel" "partMany" "[I", Cond.fieldLink RX5 62 "CaskYardModel" "setBolt" "[I", Cond.fieldLink RX5 65 "CaskYardModel" "setPart" "[I", Cond.methodLink RX5 174 yX5_reckon, Cond.instanceMethod yX5_reckon, Cond.selects RX5 yX5_reckon yX5_reckon, Cond.code yX5_reckon cX5_reckon 7 none, Cond.fieldLink RX5 68 "CaskYardModel" "most" "[I", Cond.methodLink RX5 136 Lib.Math.max.name, Cond.static Lib.Math.max.name, Cond.code Lib.Math.max.name Lib.Math.max.code 2 (some .int), Cond.methodLink RX5 158 yX5_length, Cond.instanceMethod yX5_length]
def wsX5_fewest_r4 : List Cond := [Cond.selects RX5 yX5_length yX5_length, Cond.code yX5_length cX5_length 3 (some .int), Cond.fieldLink RX5 31 "CaskYardModel" "to" "[I", Cond.fieldLink RX5 28 "CaskYardModel" "from" "[I", Cond.methodLink RX5 125 yX5_part, Cond.static yX5_part, Cond.code yX5_part cX5_part 2 (some .int), Cond.methodLink RX5 177 yX5_gives, Cond.instanceMethod yX5_gives, Cond.selects RX5 yX5_gives yX5_gives, Cond.code yX5_gives cX5_gives 4 (some .boolean)]
def wsX5_fewest : List Cond := .code yX5_fewest cX5_fewest 3 (some .int) :: ((wsX5_fewest_r1 ++ (wsX5_fewest_r2 ++ (wsX5_fewest_r3 ++ wsX5_fewest_r4))) ++ wsX50)
def wsX5_make_r1 : List Cond := [Cond.fieldLink RX5 83 "CaskYardModel" "code" "I", Cond.fieldLink RX5 184 "CaskYardModel" "casks" "I", Cond.fieldLink RX5 152 "CaskYardModel" "wideMany" "I", Cond.fieldLink RX5 149 "CaskYardModel" "narrowMany" "I", Cond.fieldLink RX5 155 "CaskYardModel" "setMany" "I", Cond.fieldLink RX5 146 "CaskYardModel" "wide" "I", Cond.methodLink RX5 131 Lib.Math.min.name, Cond.static Lib.Math.min.name, Cond.initialized "java/lang/Math", Cond.code Lib.Math.min.name Lib.Math.min.code 2 (some .int), Cond.fieldLink RX5 143 "CaskYardModel" "narrow" "I", Cond.fieldLink RX5 80 "CaskYardModel" "cutBolt" "[I", Cond.fieldLink RX5 62 "CaskYardModel" "setBolt" "[I", Cond.fieldLink RX5 65 "CaskYardModel" "setPart" "[I", Cond.fieldLink RX5 122 "CaskYardModel" "bolts" "I", Cond.fieldLink RX5 19 "CaskYardModel" "staves" "[I", Cond.fieldLink RX5 9 "CaskYardModel" "tall" "[I", Cond.fieldLink RX5 37 "CaskYardModel" "boltOf" "[I", Cond.fieldLink RX5 40 "CaskYardModel" "past" "[I", Cond.fieldLink RX5 34 "CaskYardModel" "caskForm" "[I", Cond.fieldLink RX5 43 "CaskYardModel" "entries" "[I", Cond.methodLink RX5 90 yX5_isForm, Cond.instanceMethod yX5_isForm, Cond.selects RX5 yX5_isForm yX5_isForm]
def wsX5_make_r2 : List Cond := [Cond.initialized RX5, Cond.code yX5_isForm cX5_isForm 2 (some .boolean), Cond.fieldLink RX5 87 "CaskYardModel" "forms" "I", Cond.methodLink RX5 94 yX5_fail, Cond.instanceMethod yX5_fail, Cond.selects RX5 yX5_fail yX5_fail, Cond.code yX5_fail cX5_fail 2 (some .int), Cond.methodLink RX5 181 yX5_bestSet, Cond.instanceMethod yX5_bestSet, Cond.selects RX5 yX5_bestSet yX5_bestSet, Cond.code yX5_bestSet cX5_bestSet 6 (some .int), Cond.fieldLink RX5 77 "CaskYardModel" "looked" "[I", Cond.methodLink RX5 161 yX5_pieces, Cond.instanceMethod yX5_pieces, Cond.selects RX5 yX5_pieces yX5_pieces, Cond.code yX5_pieces cX5_pieces 5 none, Cond.constant RX5 142 (1000000), Cond.methodLink RX5 106 yX5_widthOf, Cond.instanceMethod yX5_widthOf, Cond.selects RX5 yX5_widthOf yX5_widthOf, Cond.code yX5_widthOf cX5_widthOf 5 (some .int), Cond.methodLink RX5 102 yX5_girthOf, Cond.instanceMethod yX5_girthOf, Cond.selects RX5 yX5_girthOf yX5_girthOf]
def wsX5_make_r3 : List Cond := [Cond.code yX5_girthOf cX5_girthOf 4 (some .int), Cond.fieldLink RX5 13 "CaskYardModel" "bilge" "[I", Cond.fieldLink RX5 16 "CaskYardModel" "headGirth" "[I", Cond.methodLink RX5 139 yX5_isRipe, Cond.instanceMethod yX5_isRipe, Cond.selects RX5 yX5_isRipe yX5_isRipe, Cond.code yX5_isRipe cX5_isRipe 2 (some .boolean), Cond.fieldLink RX5 117 "CaskYardModel" "now" "I", Cond.fieldLink RX5 22 "CaskYardModel" "splitOn" "[I", Cond.methodLink RX5 165 yX5_ones, Cond.static yX5_ones, Cond.code yX5_ones cX5_ones 3 (some .int), Cond.methodLink RX5 168 yX5_isAhead, Cond.static yX5_isAhead, Cond.code yX5_isAhead cX5_isAhead 3 (some .boolean), Cond.methodLink RX5 171 yX5_take, Cond.instanceMethod yX5_take, Cond.selects RX5 yX5_take yX5_take, Cond.code yX5_take cX5_take 4 none, Cond.fieldLink RX5 25 "CaskYardModel" "partMany" "[I", Cond.methodLink RX5 174 yX5_reckon, Cond.instanceMethod yX5_reckon, Cond.selects RX5 yX5_reckon yX5_reckon, Cond.code yX5_reckon cX5_reckon 7 none]
def wsX5_make_r4 : List Cond := [Cond.fieldLink RX5 68 "CaskYardModel" "most" "[I", Cond.methodLink RX5 136 Lib.Math.max.name, Cond.static Lib.Math.max.name, Cond.code Lib.Math.max.name Lib.Math.max.code 2 (some .int), Cond.methodLink RX5 158 yX5_length, Cond.instanceMethod yX5_length, Cond.selects RX5 yX5_length yX5_length, Cond.code yX5_length cX5_length 3 (some .int), Cond.fieldLink RX5 31 "CaskYardModel" "to" "[I", Cond.fieldLink RX5 28 "CaskYardModel" "from" "[I", Cond.methodLink RX5 125 yX5_part, Cond.static yX5_part, Cond.code yX5_part cX5_part 2 (some .int), Cond.methodLink RX5 177 yX5_gives, Cond.instanceMethod yX5_gives, Cond.selects RX5 yX5_gives yX5_gives, Cond.code yX5_gives cX5_gives 4 (some .boolean), Cond.methodLink RX5 187 yX5_cut, Cond.instanceMethod yX5_cut, Cond.selects RX5 yX5_cut yX5_cut, Cond.code yX5_cut cX5_cut 4 none, Cond.methodLink RX5 191 yX5_tidy, Cond.instanceMethod yX5_tidy, Cond.selects RX5 yX5_tidy yX5_tidy]
def wsX5_make_r5 : List Cond := [Cond.code yX5_tidy cX5_tidy 4 none]
def wsX5_make : List Cond := .code yX5_make cX5_make 11 (some .int) :: ((wsX5_make_r1 ++ (wsX5_make_r2 ++ (wsX5_make_r3 ++ (wsX5_make_r4 ++ wsX5_make_r5)))) ++ wsX50)
def wsX5_isCask : List Cond := .code yX5_isCask cX5_isCask 2 (some .boolean) :: ([.fieldLink RX5 184 "CaskYardModel" "casks" "I"] ++ wsX50)
def wsX5_isStave : List Cond := .code yX5_isStave cX5_isStave 3 (some .boolean) :: ([.fieldLink RX5 19 "CaskYardModel" "staves" "[I", .fieldLink RX5 34 "CaskYardModel" "caskForm" "[I", .methodLink RX5 194 yX5_isCask, .instanceMethod yX5_isCask, .selects RX5 yX5_isCask yX5_isCask, .initialized RX5, .code yX5_isCask cX5_isCask 2 (some .boolean), .fieldLink RX5 184 "CaskYardModel" "casks" "I"] ++ wsX50)
def wsX5_middle : List Cond := .code yX5_middle cX5_middle 3 (some .int) :: ([.fieldLink RX5 34 "CaskYardModel" "caskForm" "[I", .fieldLink RX5 9 "CaskYardModel" "tall" "[I", .methodLink RX5 106 yX5_widthOf, .instanceMethod yX5_widthOf, .selects RX5 yX5_widthOf yX5_widthOf, .initialized RX5, .code yX5_widthOf cX5_widthOf 5 (some .int), .fieldLink RX5 19 "CaskYardModel" "staves" "[I", .methodLink RX5 102 yX5_girthOf, .instanceMethod yX5_girthOf, .selects RX5 yX5_girthOf yX5_girthOf, .code yX5_girthOf cX5_girthOf 4 (some .int), .fieldLink RX5 13 "CaskYardModel" "bilge" "[I", .fieldLink RX5 16 "CaskYardModel" "headGirth" "[I"] ++ wsX50)
def wsX5_stave_r1 : List Cond := [Cond.fieldLink RX5 83 "CaskYardModel" "code" "I", Cond.fieldLink RX5 37 "CaskYardModel" "boltOf" "[I", Cond.fieldLink RX5 40 "CaskYardModel" "past" "[I", Cond.methodLink RX5 197 yX5_isStave, Cond.instanceMethod yX5_isStave, Cond.selects RX5 yX5_isStave yX5_isStave, Cond.initialized RX5, Cond.code yX5_isStave cX5_isStave 3 (some .boolean), Cond.fieldLink RX5 19 "CaskYardModel" "staves" "[I", Cond.fieldLink RX5 34 "CaskYardModel" "caskForm" "[I", Cond.methodLink RX5 194 yX5_isCask, Cond.instanceMethod yX5_isCask, Cond.selects RX5 yX5_isCask yX5_isCask, Cond.code yX5_isCask cX5_isCask 2 (some .boolean), Cond.fieldLink RX5 184 "CaskYardModel" "casks" "I", Cond.methodLink RX5 94 yX5_fail, Cond.instanceMethod yX5_fail, Cond.selects RX5 yX5_fail yX5_fail, Cond.code yX5_fail cX5_fail 2 (some .int), Cond.methodLink RX5 200 yX5_middle, Cond.instanceMethod yX5_middle, Cond.selects RX5 yX5_middle yX5_middle, Cond.code yX5_middle cX5_middle 3 (some .int), Cond.fieldLink RX5 9 "CaskYardModel" "tall" "[I"]
def wsX5_stave_r2 : List Cond := [Cond.methodLink RX5 106 yX5_widthOf, Cond.instanceMethod yX5_widthOf, Cond.selects RX5 yX5_widthOf yX5_widthOf, Cond.code yX5_widthOf cX5_widthOf 5 (some .int), Cond.methodLink RX5 102 yX5_girthOf, Cond.instanceMethod yX5_girthOf, Cond.selects RX5 yX5_girthOf yX5_girthOf, Cond.code yX5_girthOf cX5_girthOf 4 (some .int), Cond.fieldLink RX5 13 "CaskYardModel" "bilge" "[I", Cond.fieldLink RX5 16 "CaskYardModel" "headGirth" "[I"]
def wsX5_stave : List Cond := .code yX5_stave cX5_stave 4 (some .int) :: ((wsX5_stave_r1 ++ wsX5_stave_r2) ++ wsX50)
def wsX5_formOf : List Cond := .code yX5_formOf cX5_formOf 2 (some .int) :: ([.fieldLink RX5 83 "CaskYardModel" "code" "I", .fieldLink RX5 34 "CaskYardModel" "caskForm" "[I", .methodLink RX5 194 yX5_isCask, .instanceMethod yX5_isCask, .selects RX5 yX5_isCask yX5_isCask, .initialized RX5, .code yX5_isCask cX5_isCask 2 (some .boolean), .fieldLink RX5 184 "CaskYardModel" "casks" "I", .methodLink RX5 94 yX5_fail, .instanceMethod yX5_fail, .selects RX5 yX5_fail yX5_fail, .code yX5_fail cX5_fail 2 (some .int)] ++ wsX50)
def wsX5_isKind : List Cond := .code yX5_isKind cX5_isKind 1 (some .boolean) :: ([])
def wsX5_bars : List Cond := .code yX5_bars cX5_bars 5 (some .boolean) :: ([.fieldLink RX5 83 "CaskYardModel" "code" "I", .fieldLink RX5 55 "CaskYardModel" "barsIt" "[Z", .methodLink RX5 203 yX5_isKind, .static yX5_isKind, .initialized RX5, .code yX5_isKind cX5_isKind 1 (some .boolean), .methodLink RX5 94 yX5_fail, .instanceMethod yX5_fail, .selects RX5 yX5_fail yX5_fail, .code yX5_fail cX5_fail 2 (some .int)] ++ wsX50)
def wsX5_mayIn : List Cond := .code yX5_mayIn cX5_mayIn 6 (some .boolean) :: ([.fieldLink RX5 19 "CaskYardModel" "staves" "[I", .fieldLink RX5 34 "CaskYardModel" "caskForm" "[I", .fieldLink RX5 40 "CaskYardModel" "past" "[I", .fieldLink RX5 55 "CaskYardModel" "barsIt" "[Z"] ++ wsX50)
def wsX5_may : List Cond := .code yX5_may cX5_may 3 (some .boolean) :: ([.fieldLink RX5 83 "CaskYardModel" "code" "I", .methodLink RX5 194 yX5_isCask, .instanceMethod yX5_isCask, .selects RX5 yX5_isCask yX5_isCask, .initialized RX5, .code yX5_isCask cX5_isCask 2 (some .boolean), .fieldLink RX5 184 "CaskYardModel" "casks" "I", .methodLink RX5 94 yX5_fail, .instanceMethod yX5_fail, .selects RX5 yX5_fail yX5_fail, .code yX5_fail cX5_fail 2 (some .int), .methodLink RX5 203 yX5_isKind, .static yX5_isKind, .code yX5_isKind cX5_isKind 1 (some .boolean), .methodLink RX5 206 yX5_mayIn, .instanceMethod yX5_mayIn, .selects RX5 yX5_mayIn yX5_mayIn, .code yX5_mayIn cX5_mayIn 6 (some .boolean), .fieldLink RX5 19 "CaskYardModel" "staves" "[I", .fieldLink RX5 34 "CaskYardModel" "caskForm" "[I", .fieldLink RX5 40 "CaskYardModel" "past" "[I", .fieldLink RX5 55 "CaskYardModel" "barsIt" "[Z"] ++ wsX50)
def wsX5_tell : List Cond := .code yX5_tell cX5_tell 6 (some .int) :: ([.fieldLink RX5 83 "CaskYardModel" "code" "I", .fieldLink RX5 117 "CaskYardModel" "now" "I", .fieldLink RX5 43 "CaskYardModel" "entries" "[I", .fieldLink RX5 46 "CaskYardModel" "entryDay" "[I", .fieldLink RX5 49 "CaskYardModel" "entryKind" "[I", .fieldLink RX5 52 "CaskYardModel" "entryTold" "[I", .fieldLink RX5 19 "CaskYardModel" "staves" "[I", .fieldLink RX5 34 "CaskYardModel" "caskForm" "[I", .fieldLink RX5 40 "CaskYardModel" "past" "[I", .methodLink RX5 194 yX5_isCask, .instanceMethod yX5_isCask, .selects RX5 yX5_isCask yX5_isCask, .initialized RX5, .code yX5_isCask cX5_isCask 2 (some .boolean), .fieldLink RX5 184 "CaskYardModel" "casks" "I", .methodLink RX5 94 yX5_fail, .instanceMethod yX5_fail, .selects RX5 yX5_fail yX5_fail, .code yX5_fail cX5_fail 2 (some .int), .methodLink RX5 206 yX5_mayIn, .instanceMethod yX5_mayIn, .selects RX5 yX5_mayIn yX5_mayIn, .code yX5_mayIn cX5_mayIn 6 (some .boolean), .fieldLink RX5 55 "CaskYardModel" "barsIt" "[Z"] ++ wsX50)
def wsX5_heldOn : List Cond := .code yX5_heldOn cX5_heldOn 7 (some .int) :: ([.fieldLink RX5 43 "CaskYardModel" "entries" "[I", .fieldLink RX5 52 "CaskYardModel" "entryTold" "[I", .fieldLink RX5 46 "CaskYardModel" "entryDay" "[I", .fieldLink RX5 49 "CaskYardModel" "entryKind" "[I"] ++ wsX50)
def wsX5_held : List Cond := .code yX5_held cX5_held 4 (some .int) :: ([.fieldLink RX5 83 "CaskYardModel" "code" "I", .methodLink RX5 194 yX5_isCask, .instanceMethod yX5_isCask, .selects RX5 yX5_isCask yX5_isCask, .initialized RX5, .code yX5_isCask cX5_isCask 2 (some .boolean), .fieldLink RX5 184 "CaskYardModel" "casks" "I", .methodLink RX5 209 yX5_heldOn, .instanceMethod yX5_heldOn, .selects RX5 yX5_heldOn yX5_heldOn, .code yX5_heldOn cX5_heldOn 7 (some .int), .fieldLink RX5 43 "CaskYardModel" "entries" "[I", .fieldLink RX5 52 "CaskYardModel" "entryTold" "[I", .fieldLink RX5 46 "CaskYardModel" "entryDay" "[I", .fieldLink RX5 49 "CaskYardModel" "entryKind" "[I", .methodLink RX5 94 yX5_fail, .instanceMethod yX5_fail, .selects RX5 yX5_fail yX5_fail, .code yX5_fail cX5_fail 2 (some .int)] ++ wsX50)
def wsX5_lacks : List Cond := .code yX5_lacks cX5_lacks 7 (some .int) :: ([.fieldLink RX5 83 "CaskYardModel" "code" "I", .constant RX5 212 (100000), .fieldLink RX5 117 "CaskYardModel" "now" "I", .methodLink RX5 194 yX5_isCask, .instanceMethod yX5_isCask, .selects RX5 yX5_isCask yX5_isCask, .initialized RX5, .code yX5_isCask cX5_isCask 2 (some .boolean), .fieldLink RX5 184 "CaskYardModel" "casks" "I", .methodLink RX5 94 yX5_fail, .instanceMethod yX5_fail, .selects RX5 yX5_fail yX5_fail, .code yX5_fail cX5_fail 2 (some .int), .methodLink RX5 209 yX5_heldOn, .instanceMethod yX5_heldOn, .selects RX5 yX5_heldOn yX5_heldOn, .code yX5_heldOn cX5_heldOn 7 (some .int), .fieldLink RX5 43 "CaskYardModel" "entries" "[I", .fieldLink RX5 52 "CaskYardModel" "entryTold" "[I", .fieldLink RX5 46 "CaskYardModel" "entryDay" "[I", .fieldLink RX5 49 "CaskYardModel" "entryKind" "[I"] ++ wsX50)
def wsX5_swap_r1 : List Cond := [Cond.fieldLink RX5 83 "CaskYardModel" "code" "I", Cond.fieldLink RX5 37 "CaskYardModel" "boltOf" "[I", Cond.fieldLink RX5 40 "CaskYardModel" "past" "[I", Cond.methodLink RX5 197 yX5_isStave, Cond.instanceMethod yX5_isStave, Cond.selects RX5 yX5_isStave yX5_isStave, Cond.initialized RX5, Cond.code yX5_isStave cX5_isStave 3 (some .boolean), Cond.fieldLink RX5 19 "CaskYardModel" "staves" "[I", Cond.fieldLink RX5 34 "CaskYardModel" "caskForm" "[I", Cond.methodLink RX5 194 yX5_isCask, Cond.instanceMethod yX5_isCask, Cond.selects RX5 yX5_isCask yX5_isCask, Cond.code yX5_isCask cX5_isCask 2 (some .boolean), Cond.fieldLink RX5 184 "CaskYardModel" "casks" "I", Cond.methodLink RX5 94 yX5_fail, Cond.instanceMethod yX5_fail, Cond.selects RX5 yX5_fail yX5_fail, Cond.code yX5_fail cX5_fail 2 (some .int), Cond.methodLink RX5 200 yX5_middle, Cond.instanceMethod yX5_middle, Cond.selects RX5 yX5_middle yX5_middle, Cond.code yX5_middle cX5_middle 3 (some .int), Cond.fieldLink RX5 9 "CaskYardModel" "tall" "[I"]
def wsX5_swap_r2 : List Cond := [Cond.methodLink RX5 106 yX5_widthOf, Cond.instanceMethod yX5_widthOf, Cond.selects RX5 yX5_widthOf yX5_widthOf, Cond.code yX5_widthOf cX5_widthOf 5 (some .int), Cond.methodLink RX5 102 yX5_girthOf, Cond.instanceMethod yX5_girthOf, Cond.selects RX5 yX5_girthOf yX5_girthOf, Cond.code yX5_girthOf cX5_girthOf 4 (some .int), Cond.fieldLink RX5 13 "CaskYardModel" "bilge" "[I", Cond.fieldLink RX5 16 "CaskYardModel" "headGirth" "[I"]
def wsX5_swap : List Cond := .code yX5_swap cX5_swap 9 (some .boolean) :: ((wsX5_swap_r1 ++ wsX5_swap_r2) ++ wsX50)
def wsX5_renew_r1 : List Cond := [Cond.fieldLink RX5 83 "CaskYardModel" "code" "I", Cond.fieldLink RX5 122 "CaskYardModel" "bolts" "I", Cond.fieldLink RX5 25 "CaskYardModel" "partMany" "[I", Cond.fieldLink RX5 31 "CaskYardModel" "to" "[I", Cond.fieldLink RX5 28 "CaskYardModel" "from" "[I", Cond.fieldLink RX5 37 "CaskYardModel" "boltOf" "[I", Cond.fieldLink RX5 40 "CaskYardModel" "past" "[I", Cond.methodLink RX5 197 yX5_isStave, Cond.instanceMethod yX5_isStave, Cond.selects RX5 yX5_isStave yX5_isStave, Cond.initialized RX5, Cond.code yX5_isStave cX5_isStave 3 (some .boolean), Cond.fieldLink RX5 19 "CaskYardModel" "staves" "[I", Cond.fieldLink RX5 34 "CaskYardModel" "caskForm" "[I", Cond.methodLink RX5 194 yX5_isCask, Cond.instanceMethod yX5_isCask, Cond.selects RX5 yX5_isCask yX5_isCask, Cond.code yX5_isCask cX5_isCask 2 (some .boolean), Cond.fieldLink RX5 184 "CaskYardModel" "casks" "I", Cond.methodLink RX5 94 yX5_fail, Cond.instanceMethod yX5_fail, Cond.selects RX5 yX5_fail yX5_fail, Cond.code yX5_fail cX5_fail 2 (some .int), Cond.methodLink RX5 200 yX5_middle]
def wsX5_renew_r2 : List Cond := [Cond.instanceMethod yX5_middle, Cond.selects RX5 yX5_middle yX5_middle, Cond.code yX5_middle cX5_middle 3 (some .int), Cond.fieldLink RX5 9 "CaskYardModel" "tall" "[I", Cond.methodLink RX5 106 yX5_widthOf, Cond.instanceMethod yX5_widthOf, Cond.selects RX5 yX5_widthOf yX5_widthOf, Cond.code yX5_widthOf cX5_widthOf 5 (some .int), Cond.methodLink RX5 102 yX5_girthOf, Cond.instanceMethod yX5_girthOf, Cond.selects RX5 yX5_girthOf yX5_girthOf, Cond.code yX5_girthOf cX5_girthOf 4 (some .int), Cond.fieldLink RX5 13 "CaskYardModel" "bilge" "[I", Cond.fieldLink RX5 16 "CaskYardModel" "headGirth" "[I", Cond.methodLink RX5 139 yX5_isRipe, Cond.instanceMethod yX5_isRipe, Cond.selects RX5 yX5_isRipe yX5_isRipe, Cond.code yX5_isRipe cX5_isRipe 2 (some .boolean), Cond.fieldLink RX5 117 "CaskYardModel" "now" "I", Cond.fieldLink RX5 22 "CaskYardModel" "splitOn" "[I", Cond.methodLink RX5 125 yX5_part, Cond.static yX5_part, Cond.code yX5_part cX5_part 2 (some .int), Cond.methodLink RX5 187 yX5_cut]
def wsX5_renew_r3 : List Cond := [Cond.instanceMethod yX5_cut, Cond.selects RX5 yX5_cut yX5_cut, Cond.code yX5_cut cX5_cut 4 none, Cond.methodLink RX5 191 yX5_tidy, Cond.instanceMethod yX5_tidy, Cond.selects RX5 yX5_tidy yX5_tidy, Cond.code yX5_tidy cX5_tidy 4 none]
def wsX5_renew : List Cond := .code yX5_renew cX5_renew 6 (some .int) :: ((wsX5_renew_r1 ++ (wsX5_renew_r2 ++ wsX5_renew_r3)) ++ wsX50)
def wsX5_weight : List Cond := .code yX5_weight cX5_weight 4 (some .int) :: ([.fieldLink RX5 83 "CaskYardModel" "code" "I", .fieldLink RX5 59 "CaskYardModel" "weights" "[I", .methodLink RX5 203 yX5_isKind, .static yX5_isKind, .initialized RX5, .code yX5_isKind cX5_isKind 1 (some .boolean), .methodLink RX5 94 yX5_fail, .instanceMethod yX5_fail, .selects RX5 yX5_fail yX5_fail, .code yX5_fail cX5_fail 2 (some .int)] ++ wsX50)
def wsX5_weighs_r1 : List Cond := [Cond.fieldLink RX5 83 "CaskYardModel" "code" "I", Cond.fieldLink RX5 34 "CaskYardModel" "caskForm" "[I", Cond.fieldLink RX5 117 "CaskYardModel" "now" "I", Cond.constantLong RX5 213 (-1), Cond.fieldLink RX5 59 "CaskYardModel" "weights" "[I", Cond.constantLong RX5 215 (1000), Cond.methodLink RX5 194 yX5_isCask, Cond.instanceMethod yX5_isCask, Cond.selects RX5 yX5_isCask yX5_isCask, Cond.initialized RX5, Cond.code yX5_isCask cX5_isCask 2 (some .boolean), Cond.fieldLink RX5 184 "CaskYardModel" "casks" "I", Cond.methodLink RX5 94 yX5_fail, Cond.instanceMethod yX5_fail, Cond.selects RX5 yX5_fail yX5_fail, Cond.code yX5_fail cX5_fail 2 (some .int), Cond.methodLink RX5 98 yX5_isHeight, Cond.instanceMethod yX5_isHeight, Cond.selects RX5 yX5_isHeight yX5_isHeight, Cond.code yX5_isHeight cX5_isHeight 3 (some .boolean), Cond.fieldLink RX5 9 "CaskYardModel" "tall" "[I", Cond.methodLink RX5 209 yX5_heldOn, Cond.instanceMethod yX5_heldOn, Cond.selects RX5 yX5_heldOn yX5_heldOn]
def wsX5_weighs_r2 : List Cond := [Cond.code yX5_heldOn cX5_heldOn 7 (some .int), Cond.fieldLink RX5 43 "CaskYardModel" "entries" "[I", Cond.fieldLink RX5 52 "CaskYardModel" "entryTold" "[I", Cond.fieldLink RX5 46 "CaskYardModel" "entryDay" "[I", Cond.fieldLink RX5 49 "CaskYardModel" "entryKind" "[I", Cond.methodLink RX5 114 yX5_holdsAt, Cond.instanceMethod yX5_holdsAt, Cond.selects RX5 yX5_holdsAt yX5_holdsAt, Cond.code yX5_holdsAt cX5_holdsAt 6 (some .int), Cond.constantLong RX5 110 (113), Cond.constantLong RX5 112 (1420), Cond.methodLink RX5 102 yX5_girthOf, Cond.instanceMethod yX5_girthOf, Cond.selects RX5 yX5_girthOf yX5_girthOf, Cond.code yX5_girthOf cX5_girthOf 4 (some .int), Cond.fieldLink RX5 13 "CaskYardModel" "bilge" "[I", Cond.fieldLink RX5 16 "CaskYardModel" "headGirth" "[I"]
def wsX5_weighs : List Cond := .code yX5_weighs cX5_weighs 4 (some .long) :: ((wsX5_weighs_r1 ++ wsX5_weighs_r2) ++ wsX50)
def wsX5_count : List Cond := .code yX5_count cX5_count 2 (some .int) :: ([.fieldLink RX5 83 "CaskYardModel" "code" "I", .fieldLink RX5 117 "CaskYardModel" "now" "I", .fieldLink RX5 87 "CaskYardModel" "forms" "I", .fieldLink RX5 122 "CaskYardModel" "bolts" "I", .fieldLink RX5 184 "CaskYardModel" "casks" "I", .methodLink RX5 94 yX5_fail, .instanceMethod yX5_fail, .selects RX5 yX5_fail yX5_fail, .initialized RX5, .code yX5_fail cX5_fail 2 (some .int)] ++ wsX50)
def wsJ9_max_7cf53 : List Cond := .code yJ9_max_7cf53 cJ9_max_7cf53 2 (some .int) :: ([])
def wsJ9_min_7cf53 : List Cond := .code yJ9_min_7cf53 cJ9_min_7cf53 2 (some .int) :: ([])
def wsL_girth_r1 : List Cond := [Cond.classLink RL 13 "java/util/NoSuchElementException", Cond.classLink RL 15 "java/lang/IllegalArgumentException", Cond.methodLink RL 7 yX4_girth, Cond.instanceMethod yX4_girth, Cond.selects RX4 yX4_girth yX4_girth, Cond.initialized RX4, Cond.code yX4_girth cX4_girth 4 (some .int), Cond.methodLink RX4 55 yX4_formAt, Cond.instanceMethod yX4_formAt, Cond.selects RX4 yX4_formAt yX4_formAt, Cond.code yX4_formAt cX4_formAt 3 (some (.object "CaskYard$Form")), Cond.classLink RX4 125 "java/util/NoSuchElementException", Cond.initialized "java/util/NoSuchElementException", Cond.fieldLink RX4 11 "CaskYard" "forms" "[LCaskYard$Form;", Cond.methodLink RX4 59 yX4_checkHeight, Cond.static yX4_checkHeight, Cond.code yX4_checkHeight cX4_checkHeight 2 none, Cond.classLink RX4 77 "java/lang/IllegalArgumentException", Cond.initialized "java/lang/IllegalArgumentException", Cond.fieldLink RX4 232 "CaskYard$Form" "height" "I", Cond.methodLink RX4 63 yX2_girthAt, Cond.instanceMethod yX2_girthAt, Cond.selects RX2 yX2_girthAt yX2_girthAt, Cond.initialized RX2]
def wsL_girth_r2 : List Cond := [Cond.code yX2_girthAt cX2_girthAt 3 (some .int), Cond.fieldLink RX2 9 "CaskYard$Form" "height" "I", Cond.fieldLink RX2 15 "CaskYard$Form" "bilge" "I", Cond.fieldLink RX2 18 "CaskYard$Form" "headGirth" "I", Cond.static yX4_parted, Cond.code yX4_parted cX4_parted 2 (some .int)]
def wsL_girth : List Cond := .codeWith yL_girth cL_girth 5 (some .int) [(0, 10, 13, 13), (0, 10, 17, 15)] :: ((wsL_girth_r1 ++ wsL_girth_r2) ++ wsX40 ++ wsX20 ++ (vx_atS RX4 129 "java/util/NoSuchElementException" ["java/lang/RuntimeException", "java/lang/Exception"]).filter goodWord ++ (vx_atS RX4 81 "java/lang/IllegalArgumentException" ["java/lang/RuntimeException", "java/lang/Exception"]).filter goodWord)
def wsL_width_r1 : List Cond := [Cond.classLink RL 13 "java/util/NoSuchElementException", Cond.classLink RL 15 "java/lang/IllegalArgumentException", Cond.methodLink RL 17 yX4_width, Cond.instanceMethod yX4_width, Cond.selects RX4 yX4_width yX4_width, Cond.initialized RX4, Cond.code yX4_width cX4_width 5 (some .int), Cond.methodLink RX4 55 yX4_formAt, Cond.instanceMethod yX4_formAt, Cond.selects RX4 yX4_formAt yX4_formAt, Cond.code yX4_formAt cX4_formAt 3 (some (.object "CaskYard$Form")), Cond.classLink RX4 125 "java/util/NoSuchElementException", Cond.initialized "java/util/NoSuchElementException", Cond.fieldLink RX4 11 "CaskYard" "forms" "[LCaskYard$Form;", Cond.methodLink RX4 67 yX4_checkStave, Cond.static yX4_checkStave, Cond.code yX4_checkStave cX4_checkStave 2 none, Cond.fieldLink RX4 227 "CaskYard$Form" "staves" "I", Cond.methodLink RX4 59 yX4_checkHeight, Cond.static yX4_checkHeight, Cond.code yX4_checkHeight cX4_checkHeight 2 none, Cond.classLink RX4 77 "java/lang/IllegalArgumentException", Cond.initialized "java/lang/IllegalArgumentException", Cond.fieldLink RX4 232 "CaskYard$Form" "height" "I"]
def wsL_width_r2 : List Cond := [Cond.methodLink RX4 70 yX2_widthAt, Cond.instanceMethod yX2_widthAt, Cond.selects RX2 yX2_widthAt yX2_widthAt, Cond.initialized RX2, Cond.code yX2_widthAt cX2_widthAt 4 (some .int), Cond.fieldLink RX2 21 "CaskYard$Form" "staves" "I", Cond.methodLink RX2 28 yX2_girthAt, Cond.instanceMethod yX2_girthAt, Cond.selects RX2 yX2_girthAt yX2_girthAt, Cond.code yX2_girthAt cX2_girthAt 3 (some .int), Cond.fieldLink RX2 9 "CaskYard$Form" "height" "I", Cond.fieldLink RX2 15 "CaskYard$Form" "bilge" "I", Cond.fieldLink RX2 18 "CaskYard$Form" "headGirth" "I", Cond.static yX4_parted, Cond.code yX4_parted cX4_parted 2 (some .int)]
def wsL_width : List Cond := .codeWith yL_width cL_width 6 (some .int) [(0, 12, 15, 13), (0, 12, 19, 15)] :: ((wsL_width_r1 ++ wsL_width_r2) ++ wsX40 ++ wsX20 ++ (vx_atS RX4 129 "java/util/NoSuchElementException" ["java/lang/RuntimeException", "java/lang/Exception"]).filter goodWord ++ (vx_atS RX4 81 "java/lang/IllegalArgumentException" ["java/lang/RuntimeException", "java/lang/Exception"]).filter goodWord)
def wsL_holds_r1 : List Cond := [Cond.classLink RL 13 "java/util/NoSuchElementException", Cond.classLink RL 15 "java/lang/IllegalArgumentException", Cond.methodLink RL 21 yX4_holds, Cond.instanceMethod yX4_holds, Cond.selects RX4 yX4_holds yX4_holds, Cond.initialized RX4, Cond.code yX4_holds cX4_holds 4 (some .int), Cond.methodLink RX4 55 yX4_formAt, Cond.instanceMethod yX4_formAt, Cond.selects RX4 yX4_formAt yX4_formAt, Cond.code yX4_formAt cX4_formAt 3 (some (.object "CaskYard$Form")), Cond.classLink RX4 125 "java/util/NoSuchElementException", Cond.initialized "java/util/NoSuchElementException", Cond.fieldLink RX4 11 "CaskYard" "forms" "[LCaskYard$Form;", Cond.methodLink RX4 59 yX4_checkHeight, Cond.static yX4_checkHeight, Cond.code yX4_checkHeight cX4_checkHeight 2 none, Cond.classLink RX4 77 "java/lang/IllegalArgumentException", Cond.initialized "java/lang/IllegalArgumentException", Cond.fieldLink RX4 232 "CaskYard$Form" "height" "I", Cond.methodLink RX4 74 yX2_contentTo, Cond.instanceMethod yX2_contentTo, Cond.selects RX2 yX2_contentTo yX2_contentTo, Cond.initialized RX2]
def wsL_holds_r2 : List Cond := [Cond.code yX2_contentTo cX2_contentTo 5 (some .int), Cond.methodLink RX2 35 yX2_squareAt, Cond.instanceMethod yX2_squareAt, Cond.selects RX2 yX2_squareAt yX2_squareAt, Cond.code yX2_squareAt cX2_squareAt 4 (some .long), Cond.methodLink RX2 28 yX2_girthAt, Cond.instanceMethod yX2_girthAt, Cond.selects RX2 yX2_girthAt yX2_girthAt, Cond.code yX2_girthAt cX2_girthAt 3 (some .int), Cond.fieldLink RX2 9 "CaskYard$Form" "height" "I", Cond.fieldLink RX2 15 "CaskYard$Form" "bilge" "I", Cond.fieldLink RX2 18 "CaskYard$Form" "headGirth" "I", Cond.static yX4_parted, Cond.code yX4_parted cX4_parted 2 (some .int), Cond.methodLink RX2 39 yX2_content, Cond.static yX2_content, Cond.code yX2_content cX2_content 2 (some .int), Cond.constantLong RX2 43 (113), Cond.constantLong RX2 45 (1420)]
def wsL_holds : List Cond := .codeWith yL_holds cL_holds 5 (some .int) [(0, 10, 13, 13), (0, 10, 17, 15)] :: ((wsL_holds_r1 ++ wsL_holds_r2) ++ wsX40 ++ wsX20 ++ (vx_atS RX4 129 "java/util/NoSuchElementException" ["java/lang/RuntimeException", "java/lang/Exception"]).filter goodWord ++ (vx_atS RX4 81 "java/lang/IllegalArgumentException" ["java/lang/RuntimeException", "java/lang/Exception"]).filter goodWord)
def wsL_level_r1 : List Cond := [Cond.classLink RL 13 "java/util/NoSuchElementException", Cond.classLink RL 15 "java/lang/IllegalArgumentException", Cond.methodLink RL 24 yX4_level, Cond.instanceMethod yX4_level, Cond.selects RX4 yX4_level yX4_level, Cond.initialized RX4, Cond.code yX4_level cX4_level 4 (some .int), Cond.classLink RX4 77 "java/lang/IllegalArgumentException", Cond.initialized "java/lang/IllegalArgumentException", Cond.methodLink RX4 55 yX4_formAt, Cond.instanceMethod yX4_formAt, Cond.selects RX4 yX4_formAt yX4_formAt, Cond.code yX4_formAt cX4_formAt 3 (some (.object "CaskYard$Form")), Cond.classLink RX4 125 "java/util/NoSuchElementException", Cond.initialized "java/util/NoSuchElementException", Cond.fieldLink RX4 11 "CaskYard" "forms" "[LCaskYard$Form;", Cond.methodLink RX4 84 yX2_leastLevel, Cond.instanceMethod yX2_leastLevel, Cond.selects RX2 yX2_leastLevel yX2_leastLevel, Cond.initialized RX2, Cond.code yX2_leastLevel cX2_leastLevel 5 (some .int), Cond.fieldLink RX2 9 "CaskYard$Form" "height" "I", Cond.methodLink RX2 39 yX2_content, Cond.static yX2_content]
def wsL_level_r2 : List Cond := [Cond.code yX2_content cX2_content 2 (some .int), Cond.constantLong RX2 43 (113), Cond.constantLong RX2 45 (1420), Cond.methodLink RX2 35 yX2_squareAt, Cond.instanceMethod yX2_squareAt, Cond.selects RX2 yX2_squareAt yX2_squareAt, Cond.code yX2_squareAt cX2_squareAt 4 (some .long), Cond.methodLink RX2 28 yX2_girthAt, Cond.instanceMethod yX2_girthAt, Cond.selects RX2 yX2_girthAt yX2_girthAt, Cond.code yX2_girthAt cX2_girthAt 3 (some .int), Cond.fieldLink RX2 15 "CaskYard$Form" "bilge" "I", Cond.fieldLink RX2 18 "CaskYard$Form" "headGirth" "I", Cond.static yX4_parted, Cond.code yX4_parted cX4_parted 2 (some .int)]
def wsL_level : List Cond := .codeWith yL_level cL_level 5 (some .int) [(0, 10, 13, 13), (0, 10, 17, 15)] :: ((wsL_level_r1 ++ wsL_level_r2) ++ wsX40 ++ wsX20 ++ (vx_atS RX4 81 "java/lang/IllegalArgumentException" ["java/lang/RuntimeException", "java/lang/Exception"]).filter goodWord ++ (vx_atS RX4 129 "java/util/NoSuchElementException" ["java/lang/RuntimeException", "java/lang/Exception"]).filter goodWord)
def wsL_head : List Cond := .codeWith yL_head cL_head 4 (some .int) [(0, 9, 12, 13)] :: ([.classLink RL 13 "java/util/NoSuchElementException", .methodLink RL 27 yX4_head, .instanceMethod yX4_head, .selects RX4 yX4_head yX4_head, .initialized RX4, .code yX4_head cX4_head 2 (some .int), .methodLink RX4 55 yX4_formAt, .instanceMethod yX4_formAt, .selects RX4 yX4_formAt yX4_formAt, .code yX4_formAt cX4_formAt 3 (some (.object "CaskYard$Form")), .classLink RX4 125 "java/util/NoSuchElementException", .initialized "java/util/NoSuchElementException", .fieldLink RX4 11 "CaskYard" "forms" "[LCaskYard$Form;", .methodLink RX4 63 yX2_girthAt, .instanceMethod yX2_girthAt, .selects RX2 yX2_girthAt yX2_girthAt, .initialized RX2, .code yX2_girthAt cX2_girthAt 3 (some .int), .fieldLink RX2 9 "CaskYard$Form" "height" "I", .fieldLink RX2 15 "CaskYard$Form" "bilge" "I", .fieldLink RX2 18 "CaskYard$Form" "headGirth" "I", .static yX4_parted, .code yX4_parted cX4_parted 2 (some .int)] ++ wsX40 ++ wsX20 ++ (vx_atS RX4 129 "java/util/NoSuchElementException" ["java/lang/RuntimeException", "java/lang/Exception"]).filter goodWord)
def wsL_days : List Cond := .codeWith yL_days cL_days 4 (some .int) [(0, 9, 12, 15)] :: ([.classLink RL 15 "java/lang/IllegalArgumentException", .methodLink RL 31 yX4_days, .instanceMethod yX4_days, .selects RX4 yX4_days yX4_days, .initialized RX4, .code yX4_days cX4_days 2 (some .int), .classLink RX4 77 "java/lang/IllegalArgumentException", .initialized "java/lang/IllegalArgumentException", .constant RX4 87 (100000), .fieldLink RX4 88 "CaskYard" "now" "I"] ++ wsX40 ++ (vx_atS RX4 81 "java/lang/IllegalArgumentException" ["java/lang/RuntimeException", "java/lang/Exception"]).filter goodWord)
def wsL_flaw_r1 : List Cond := [Cond.classLink RL 13 "java/util/NoSuchElementException", Cond.methodLink RL 34 yX4_flaw, Cond.instanceMethod yX4_flaw, Cond.selects RX4 yX4_flaw yX4_flaw, Cond.initialized RX4, Cond.code yX4_flaw cX4_flaw 7 (some .int), Cond.fieldLink RX4 44 "CaskYard" "spare" "LCaskYard$Bolt;", Cond.fieldLink RX4 100 "CaskYard$Bolt" "parts" "I", Cond.fieldLink RX4 103 "CaskYard$Bolt" "begin" "[I", Cond.fieldLink RX4 106 "CaskYard$Bolt" "end" "[I", Cond.methodLink RX4 109 Lib.Math.min.name, Cond.static Lib.Math.min.name, Cond.initialized "java/lang/Math", Cond.code Lib.Math.min.name Lib.Math.min.code 2 (some .int), Cond.methodLink RX4 118 Lib.Math.max.name, Cond.static Lib.Math.max.name, Cond.code Lib.Math.max.name Lib.Math.max.code 2 (some .int), Cond.methodLink RX4 96 yX4_boltAt, Cond.instanceMethod yX4_boltAt, Cond.selects RX4 yX4_boltAt yX4_boltAt, Cond.code yX4_boltAt cX4_boltAt 3 (some (.object "CaskYard$Bolt")), Cond.classLink RX4 125 "java/util/NoSuchElementException", Cond.initialized "java/util/NoSuchElementException", Cond.fieldLink RX4 17 "CaskYard" "bolts" "[LCaskYard$Bolt;"]
def wsL_flaw_r2 : List Cond := [Cond.methodLink RX4 114 yX0_addPart, Cond.instanceMethod yX0_addPart, Cond.selects RX0 yX0_addPart yX0_addPart, Cond.initialized RX0, Cond.code yX0_addPart cX0_addPart 3 (some .boolean), Cond.fieldLink RX0 22 "CaskYard$Bolt" "parts" "I", Cond.fieldLink RX0 9 "CaskYard$Bolt" "begin" "[I", Cond.fieldLink RX0 15 "CaskYard$Bolt" "end" "[I", Cond.methodLink RX4 121 yX0_takePartsOf, Cond.instanceMethod yX0_takePartsOf, Cond.selects RX0 yX0_takePartsOf yX0_takePartsOf, Cond.code yX0_takePartsOf cX0_takePartsOf 3 none]
def wsL_flaw : List Cond := .codeWith yL_flaw cL_flaw 6 (some .int) [(0, 12, 15, 13)] :: ((wsL_flaw_r1 ++ wsL_flaw_r2) ++ wsX40 ++ wsX00 ++ (vx_atS RX4 129 "java/util/NoSuchElementException" ["java/lang/RuntimeException", "java/lang/Exception"]).filter goodWord)
def wsL_clear : List Cond := .codeWith yL_clear cL_clear 6 (some .int) [(0, 12, 15, 13)] :: ([.classLink RL 13 "java/util/NoSuchElementException", .methodLink RL 37 yX4_clear, .instanceMethod yX4_clear, .selects RX4 yX4_clear yX4_clear, .initialized RX4, .code yX4_clear cX4_clear 5 (some .int), .classLink RX4 125 "java/util/NoSuchElementException", .initialized "java/util/NoSuchElementException", .fieldLink RX4 100 "CaskYard$Bolt" "parts" "I", .fieldLink RX4 103 "CaskYard$Bolt" "begin" "[I", .fieldLink RX4 106 "CaskYard$Bolt" "end" "[I", .methodLink RX4 96 yX4_boltAt, .instanceMethod yX4_boltAt, .selects RX4 yX4_boltAt yX4_boltAt, .code yX4_boltAt cX4_boltAt 3 (some (.object "CaskYard$Bolt")), .fieldLink RX4 17 "CaskYard" "bolts" "[LCaskYard$Bolt;"] ++ wsX00 ++ wsX40 ++ (vx_atS RX4 129 "java/util/NoSuchElementException" ["java/lang/RuntimeException", "java/lang/Exception"]).filter goodWord)
def wsL_ripe : List Cond := .codeWith yL_ripe cL_ripe 4 (some .int) [(0, 16, 19, 13)] :: ([.classLink RL 13 "java/util/NoSuchElementException", .methodLink RL 40 yX4_ripe, .instanceMethod yX4_ripe, .selects RX4 yX4_ripe yX4_ripe, .initialized RX4, .code yX4_ripe cX4_ripe 2 (some .boolean), .methodLink RX4 96 yX4_boltAt, .instanceMethod yX4_boltAt, .selects RX4 yX4_boltAt yX4_boltAt, .code yX4_boltAt cX4_boltAt 3 (some (.object "CaskYard$Bolt")), .classLink RX4 125 "java/util/NoSuchElementException", .initialized "java/util/NoSuchElementException", .fieldLink RX4 17 "CaskYard" "bolts" "[LCaskYard$Bolt;", .methodLink RX4 130 yX4_isRipe, .instanceMethod yX4_isRipe, .selects RX4 yX4_isRipe yX4_isRipe, .code yX4_isRipe cX4_isRipe 2 (some .boolean), .fieldLink RX4 88 "CaskYard" "now" "I", .fieldLink RX4 239 "CaskYard$Bolt" "split" "I"] ++ wsX40 ++ wsX00 ++ (vx_atS RX4 129 "java/util/NoSuchElementException" ["java/lang/RuntimeException", "java/lang/Exception"]).filter goodWord)
def wsL_fewest_r1 : List Cond := [Cond.classLink RL 13 "java/util/NoSuchElementException", Cond.methodLink RL 44 yX4_fewest, Cond.instanceMethod yX4_fewest, Cond.selects RX4 yX4_fewest yX4_fewest, Cond.initialized RX4, Cond.code yX4_fewest cX4_fewest 3 (some .int), Cond.methodLink RX4 55 yX4_formAt, Cond.instanceMethod yX4_formAt, Cond.selects RX4 yX4_formAt yX4_formAt, Cond.code yX4_formAt cX4_formAt 3 (some (.object "CaskYard$Form")), Cond.classLink RX4 125 "java/util/NoSuchElementException", Cond.initialized "java/util/NoSuchElementException", Cond.fieldLink RX4 11 "CaskYard" "forms" "[LCaskYard$Form;", Cond.methodLink RX4 134 yX4_setFor, Cond.instanceMethod yX4_setFor, Cond.selects RX4 yX4_setFor yX4_setFor, Cond.code yX4_setFor cX4_setFor 4 (some .int), Cond.fieldLink RX4 37 "CaskYard" "saw" "LCaskYard$Saw;", Cond.fieldLink RX4 93 "CaskYard" "boltCount" "I", Cond.fieldLink RX4 17 "CaskYard" "bolts" "[LCaskYard$Bolt;", Cond.methodLink RX4 245 yX2_narrowPiece, Cond.instanceMethod yX2_narrowPiece, Cond.selects RX2 yX2_narrowPiece yX2_narrowPiece, Cond.initialized RX2]
def wsL_fewest_r2 : List Cond := [Cond.code yX2_narrowPiece cX2_narrowPiece 1 (some .int), Cond.fieldLink RX2 15 "CaskYard$Form" "bilge" "I", Cond.fieldLink RX2 21 "CaskYard$Form" "staves" "I", Cond.static yX4_parted, Cond.code yX4_parted cX4_parted 2 (some .int), Cond.methodLink RX4 248 yX3_prepare, Cond.instanceMethod yX3_prepare, Cond.selects RX3 yX3_prepare yX3_prepare, Cond.initialized RX3, Cond.code yX3_prepare cX3_prepare 2 none, Cond.fieldLink RX3 49 "CaskYard$Saw" "boltsLaid" "I", Cond.fieldLink RX3 53 "CaskYard$Saw" "parts" "I", Cond.fieldLink RX3 56 "CaskYard$Saw" "narrow" "I", Cond.methodLink RX4 130 yX4_isRipe, Cond.instanceMethod yX4_isRipe, Cond.selects RX4 yX4_isRipe yX4_isRipe, Cond.code yX4_isRipe cX4_isRipe 2 (some .boolean), Cond.fieldLink RX4 88 "CaskYard" "now" "I", Cond.fieldLink RX4 239 "CaskYard$Bolt" "split" "I", Cond.methodLink RX4 251 yX3_lay, Cond.instanceMethod yX3_lay, Cond.selects RX3 yX3_lay yX3_lay, Cond.code yX3_lay cX3_lay 4 none, Cond.fieldLink RX3 59 "CaskYard$Bolt" "parts" "I"]
def wsL_fewest_r3 : List Cond := [Cond.fieldLink RX3 60 "CaskYard$Bolt" "end" "[I", Cond.fieldLink RX3 63 "CaskYard$Bolt" "begin" "[I", Cond.fieldLink RX3 11 "CaskYard$Saw" "laid" "[LCaskYard$Bolt;", Cond.methodLink RX3 66 yX3_layPart, Cond.instanceMethod yX3_layPart, Cond.selects RX3 yX3_layPart yX3_layPart, Cond.code yX3_layPart cX3_layPart 4 none, Cond.fieldLink RX3 17 "CaskYard$Saw" "place" "[I", Cond.fieldLink RX3 21 "CaskYard$Saw" "number" "[I", Cond.fieldLink RX3 24 "CaskYard$Saw" "length" "[I", Cond.fieldLink RX3 27 "CaskYard$Saw" "asWide" "[I", Cond.fieldLink RX3 30 "CaskYard$Saw" "more" "[I", Cond.fieldLink RX3 33 "CaskYard$Saw" "loss" "[I", Cond.methodLink RX3 74 yX3_sortIn, Cond.instanceMethod yX3_sortIn, Cond.selects RX3 yX3_sortIn yX3_sortIn, Cond.code yX3_sortIn cX3_sortIn 3 none, Cond.fieldLink RX3 36 "CaskYard$Saw" "byLoss" "[I", Cond.methodLink RX4 149 yX2_wides, Cond.instanceMethod yX2_wides, Cond.selects RX2 yX2_wides yX2_wides, Cond.code yX2_wides cX2_wides 1 (some .int), Cond.methodLink RX4 153 yX2_narrows, Cond.instanceMethod yX2_narrows]
def wsL_fewest_r4 : List Cond := [Cond.selects RX2 yX2_narrows yX2_narrows, Cond.code yX2_narrows cX2_narrows 1 (some .int), Cond.methodLink RX2 47 yX2_wides, Cond.methodLink RX4 255 yX3_fewestSet, Cond.instanceMethod yX3_fewestSet, Cond.selects RX3 yX3_fewestSet yX3_fewestSet, Cond.code yX3_fewestSet cX3_fewestSet 9 (some .int), Cond.methodLink RX3 78 yX3_openSet, Cond.instanceMethod yX3_openSet, Cond.selects RX3 yX3_openSet yX3_openSet, Cond.code yX3_openSet cX3_openSet 3 none, Cond.fieldLink RX3 39 "CaskYard$Saw" "open" "[Z", Cond.methodLink RX3 81 yX3_canGive, Cond.instanceMethod yX3_canGive, Cond.selects RX3 yX3_canGive yX3_canGive, Cond.code yX3_canGive cX3_canGive 8 (some .boolean), Cond.methodLink RX3 91 Lib.Math.max.name, Cond.static Lib.Math.max.name, Cond.initialized "java/lang/Math", Cond.code Lib.Math.max.name Lib.Math.max.code 2 (some .int), Cond.methodLink RX3 85 yJ6_bitCount_0f7a4, Cond.static yJ6_bitCount_0f7a4, Cond.initialized RJ6, Cond.code yJ6_bitCount_0f7a4 cJ6_bitCount_0f7a4 1 (some .int)]
def wsL_fewest_r5 : List Cond := [Cond.constant RJ6 265 (1431655765), Cond.constant RJ6 266 (858993459), Cond.constant RJ6 267 (252645135), Cond.methodLink RX4 138 yJ6_bitCount_0f7a4]
def wsL_fewest : List Cond := .codeWith yL_fewest cL_fewest 4 (some .int) [(0, 9, 12, 13)] :: ((wsL_fewest_r1 ++ (wsL_fewest_r2 ++ (wsL_fewest_r3 ++ (wsL_fewest_r4 ++ wsL_fewest_r5)))) ++ wsX40 ++ wsX20 ++ wsX30 ++ wsX00 ++ (vx_atS RX4 129 "java/util/NoSuchElementException" ["java/lang/RuntimeException", "java/lang/Exception"]).filter goodWord)
def wsL_make_r1 : List Cond := [Cond.classLink RL 13 "java/util/NoSuchElementException", Cond.methodLink RL 47 yX4_make, Cond.instanceMethod yX4_make, Cond.selects RX4 yX4_make yX4_make, Cond.initialized RX4, Cond.code yX4_make cX4_make 5 (some .int), Cond.fieldLink RX4 143 "CaskYard" "caskCount" "I", Cond.classLink RX4 21 RX1, Cond.instantiable RX1 8, Cond.initialized RX1, Cond.fieldLink RX4 37 "CaskYard" "saw" "LCaskYard$Saw;", Cond.fieldLink RX4 23 "CaskYard" "casks" "[LCaskYard$Cask;", Cond.methodLink RX4 55 yX4_formAt, Cond.instanceMethod yX4_formAt, Cond.selects RX4 yX4_formAt yX4_formAt, Cond.code yX4_formAt cX4_formAt 3 (some (.object "CaskYard$Form")), Cond.classLink RX4 125 "java/util/NoSuchElementException", Cond.initialized "java/util/NoSuchElementException", Cond.fieldLink RX4 11 "CaskYard" "forms" "[LCaskYard$Form;", Cond.methodLink RX4 134 yX4_setFor, Cond.instanceMethod yX4_setFor, Cond.selects RX4 yX4_setFor yX4_setFor, Cond.code yX4_setFor cX4_setFor 4 (some .int), Cond.fieldLink RX4 93 "CaskYard" "boltCount" "I"]
def wsL_make_r2 : List Cond := [Cond.fieldLink RX4 17 "CaskYard" "bolts" "[LCaskYard$Bolt;", Cond.methodLink RX4 245 yX2_narrowPiece, Cond.instanceMethod yX2_narrowPiece, Cond.selects RX2 yX2_narrowPiece yX2_narrowPiece, Cond.initialized RX2, Cond.code yX2_narrowPiece cX2_narrowPiece 1 (some .int), Cond.fieldLink RX2 15 "CaskYard$Form" "bilge" "I", Cond.fieldLink RX2 21 "CaskYard$Form" "staves" "I", Cond.static yX4_parted, Cond.code yX4_parted cX4_parted 2 (some .int), Cond.methodLink RX4 248 yX3_prepare, Cond.instanceMethod yX3_prepare, Cond.selects RX3 yX3_prepare yX3_prepare, Cond.initialized RX3, Cond.code yX3_prepare cX3_prepare 2 none, Cond.fieldLink RX3 49 "CaskYard$Saw" "boltsLaid" "I", Cond.fieldLink RX3 53 "CaskYard$Saw" "parts" "I", Cond.fieldLink RX3 56 "CaskYard$Saw" "narrow" "I", Cond.methodLink RX4 130 yX4_isRipe, Cond.instanceMethod yX4_isRipe, Cond.selects RX4 yX4_isRipe yX4_isRipe, Cond.code yX4_isRipe cX4_isRipe 2 (some .boolean), Cond.fieldLink RX4 88 "CaskYard" "now" "I", Cond.fieldLink RX4 239 "CaskYard$Bolt" "split" "I"]
def wsL_make_r3 : List Cond := [Cond.methodLink RX4 251 yX3_lay, Cond.instanceMethod yX3_lay, Cond.selects RX3 yX3_lay yX3_lay, Cond.code yX3_lay cX3_lay 4 none, Cond.fieldLink RX3 59 "CaskYard$Bolt" "parts" "I", Cond.fieldLink RX3 60 "CaskYard$Bolt" "end" "[I", Cond.fieldLink RX3 63 "CaskYard$Bolt" "begin" "[I", Cond.fieldLink RX3 11 "CaskYard$Saw" "laid" "[LCaskYard$Bolt;", Cond.methodLink RX3 66 yX3_layPart, Cond.instanceMethod yX3_layPart, Cond.selects RX3 yX3_layPart yX3_layPart, Cond.code yX3_layPart cX3_layPart 4 none, Cond.fieldLink RX3 17 "CaskYard$Saw" "place" "[I", Cond.fieldLink RX3 21 "CaskYard$Saw" "number" "[I", Cond.fieldLink RX3 24 "CaskYard$Saw" "length" "[I", Cond.fieldLink RX3 27 "CaskYard$Saw" "asWide" "[I", Cond.fieldLink RX3 30 "CaskYard$Saw" "more" "[I", Cond.fieldLink RX3 33 "CaskYard$Saw" "loss" "[I", Cond.methodLink RX3 74 yX3_sortIn, Cond.instanceMethod yX3_sortIn, Cond.selects RX3 yX3_sortIn yX3_sortIn, Cond.code yX3_sortIn cX3_sortIn 3 none, Cond.fieldLink RX3 36 "CaskYard$Saw" "byLoss" "[I", Cond.methodLink RX4 149 yX2_wides]
def wsL_make_r4 : List Cond := [Cond.instanceMethod yX2_wides, Cond.selects RX2 yX2_wides yX2_wides, Cond.code yX2_wides cX2_wides 1 (some .int), Cond.methodLink RX4 153 yX2_narrows, Cond.instanceMethod yX2_narrows, Cond.selects RX2 yX2_narrows yX2_narrows, Cond.code yX2_narrows cX2_narrows 1 (some .int), Cond.methodLink RX2 47 yX2_wides, Cond.methodLink RX4 255 yX3_fewestSet, Cond.instanceMethod yX3_fewestSet, Cond.selects RX3 yX3_fewestSet yX3_fewestSet, Cond.code yX3_fewestSet cX3_fewestSet 9 (some .int), Cond.methodLink RX3 78 yX3_openSet, Cond.instanceMethod yX3_openSet, Cond.selects RX3 yX3_openSet yX3_openSet, Cond.code yX3_openSet cX3_openSet 3 none, Cond.fieldLink RX3 39 "CaskYard$Saw" "open" "[Z", Cond.methodLink RX3 81 yX3_canGive, Cond.instanceMethod yX3_canGive, Cond.selects RX3 yX3_canGive yX3_canGive, Cond.code yX3_canGive cX3_canGive 8 (some .boolean), Cond.methodLink RX3 91 Lib.Math.max.name, Cond.static Lib.Math.max.name, Cond.initialized "java/lang/Math"]
def wsL_make_r5 : List Cond := [Cond.code Lib.Math.max.name Lib.Math.max.code 2 (some .int), Cond.methodLink RX3 85 yJ6_bitCount_0f7a4, Cond.static yJ6_bitCount_0f7a4, Cond.initialized RJ6, Cond.code yJ6_bitCount_0f7a4 cJ6_bitCount_0f7a4 1 (some .int), Cond.constant RJ6 265 (1431655765), Cond.constant RJ6 266 (858993459), Cond.constant RJ6 267 (252645135), Cond.methodLink RX4 146 yX1_init, Cond.instanceMethod yX1_init, Cond.code yX1_init cX1_init 3 none, Cond.methodLink RX1 3 objectInit, Cond.instanceMethod objectInit, Cond.code objectInit ⟨#[0xb1]⟩ 1 none, Cond.arrayClass .int, Cond.fieldLink RX1 9 "CaskYard$Cask" "boltOf" "[I", Cond.fieldLink RX1 15 "CaskYard$Cask" "past" "[I", Cond.fieldLink RX1 18 "CaskYard$Cask" "entryDay" "[I", Cond.fieldLink RX1 21 "CaskYard$Cask" "entryTold" "[I", Cond.fieldLink RX1 24 "CaskYard$Cask" "entryKind" "[I", Cond.fieldLink RX1 27 "CaskYard$Cask" "formNumber" "I", Cond.fieldLink RX1 31 "CaskYard$Cask" "shape" "LCaskYard$Form;", Cond.methodLink RX4 156 yX3_cutSet, Cond.instanceMethod yX3_cutSet]
def wsL_make_r6 : List Cond := [Cond.selects RX3 yX3_cutSet yX3_cutSet, Cond.code yX3_cutSet cX3_cutSet 7 none, Cond.fieldLink RX3 43 "CaskYard$Saw" "wideCut" "[I", Cond.fieldLink RX3 46 "CaskYard$Saw" "narrowCut" "[I", Cond.methodLink RX3 96 yX3_choose, Cond.instanceMethod yX3_choose, Cond.selects RX3 yX3_choose yX3_choose, Cond.code yX3_choose cX3_choose 6 none, Cond.methodLink RX3 103 Lib.Math.min.name, Cond.static Lib.Math.min.name, Cond.code Lib.Math.min.name Lib.Math.min.code 2 (some .int), Cond.methodLink RX3 100 yX3_shorten, Cond.instanceMethod yX3_shorten, Cond.selects RX3 yX3_shorten yX3_shorten, Cond.code yX3_shorten cX3_shorten 4 none, Cond.methodLink RX3 106 yX3_shortenBolt, Cond.instanceMethod yX3_shortenBolt, Cond.selects RX3 yX3_shortenBolt yX3_shortenBolt, Cond.code yX3_shortenBolt cX3_shortenBolt 5 (some .int), Cond.methodLink RX3 110 yX0_dropEmptyParts, Cond.instanceMethod yX0_dropEmptyParts, Cond.selects RX0 yX0_dropEmptyParts yX0_dropEmptyParts, Cond.initialized RX0, Cond.code yX0_dropEmptyParts cX0_dropEmptyParts 3 none]
def wsL_make_r7 : List Cond := [Cond.fieldLink RX0 22 "CaskYard$Bolt" "parts" "I", Cond.fieldLink RX0 9 "CaskYard$Bolt" "begin" "[I", Cond.fieldLink RX0 15 "CaskYard$Bolt" "end" "[I", Cond.methodLink RX0 28 yX0_addPart, Cond.instanceMethod yX0_addPart, Cond.selects RX0 yX0_addPart yX0_addPart, Cond.code yX0_addPart cX0_addPart 3 (some .boolean), Cond.methodLink RX4 160 yX4_handOut, Cond.instanceMethod yX4_handOut, Cond.selects RX4 yX4_handOut yX4_handOut, Cond.code yX4_handOut cX4_handOut 5 none, Cond.fieldLink RX4 258 "CaskYard$Saw" "parts" "I", Cond.fieldLink RX4 259 "CaskYard$Saw" "wideCut" "[I", Cond.fieldLink RX4 262 "CaskYard$Saw" "number" "[I", Cond.fieldLink RX4 269 "CaskYard$Saw" "narrowCut" "[I", Cond.methodLink RX4 265 yX1_takePieces, Cond.instanceMethod yX1_takePieces, Cond.selects RX1 yX1_takePieces yX1_takePieces, Cond.code yX1_takePieces cX1_takePieces 7 (some .int), Cond.fieldLink RX1 35 "CaskYard$Form" "staves" "I", Cond.methodLink RX1 40 yX2_isWide, Cond.instanceMethod yX2_isWide, Cond.selects RX2 yX2_isWide yX2_isWide, Cond.code yX2_isWide cX2_isWide 2 (some .boolean)]
def wsL_make_r8 : List Cond := [Cond.methodLink RX2 51 yX2_bilgeWidth, Cond.instanceMethod yX2_bilgeWidth, Cond.selects RX2 yX2_bilgeWidth yX2_bilgeWidth, Cond.code yX2_bilgeWidth cX2_bilgeWidth 2 (some .int), Cond.fieldLink RX2 9 "CaskYard$Form" "height" "I", Cond.methodLink RX2 32 yX2_widthAt, Cond.instanceMethod yX2_widthAt, Cond.selects RX2 yX2_widthAt yX2_widthAt, Cond.code yX2_widthAt cX2_widthAt 4 (some .int), Cond.methodLink RX2 28 yX2_girthAt, Cond.instanceMethod yX2_girthAt, Cond.selects RX2 yX2_girthAt yX2_girthAt, Cond.code yX2_girthAt cX2_girthAt 3 (some .int), Cond.fieldLink RX2 18 "CaskYard$Form" "headGirth" "I", Cond.methodLink RX2 54 yX2_narrowPiece]
def wsL_make : List Cond := .codeWith yL_make cL_make 4 (some .int) [(0, 9, 12, 13)] :: ((wsL_make_r1 ++ (wsL_make_r2 ++ (wsL_make_r3 ++ (wsL_make_r4 ++ (wsL_make_r5 ++ (wsL_make_r6 ++ (wsL_make_r7 ++ wsL_make_r8))))))) ++ wsX40 ++ wsX10 ++ wsX20 ++ wsX30 ++ wsX00 ++ (vx_atS RX4 129 "java/util/NoSuchElementException" ["java/lang/RuntimeException", "java/lang/Exception"]).filter goodWord)
def wsL_stave_r1 : List Cond := [Cond.classLink RL 13 "java/util/NoSuchElementException", Cond.methodLink RL 50 yX4_stave, Cond.instanceMethod yX4_stave, Cond.selects RX4 yX4_stave yX4_stave, Cond.initialized RX4, Cond.code yX4_stave cX4_stave 5 (some .int), Cond.classLink RX4 125 "java/util/NoSuchElementException", Cond.initialized "java/util/NoSuchElementException", Cond.fieldLink RX4 168 "CaskYard$Cask" "shape" "LCaskYard$Form;", Cond.fieldLink RX4 177 "CaskYard$Cask" "boltOf" "[I", Cond.fieldLink RX4 180 "CaskYard$Cask" "past" "[I", Cond.methodLink RX4 164 yX4_caskAt, Cond.instanceMethod yX4_caskAt, Cond.selects RX4 yX4_caskAt yX4_caskAt, Cond.code yX4_caskAt cX4_caskAt 3 (some (.object "CaskYard$Cask")), Cond.fieldLink RX4 23 "CaskYard" "casks" "[LCaskYard$Cask;", Cond.methodLink RX4 67 yX4_checkStave, Cond.static yX4_checkStave, Cond.code yX4_checkStave cX4_checkStave 2 none, Cond.fieldLink RX4 227 "CaskYard$Form" "staves" "I", Cond.methodLink RX4 174 yX2_bilgeWidth, Cond.instanceMethod yX2_bilgeWidth, Cond.selects RX2 yX2_bilgeWidth yX2_bilgeWidth, Cond.initialized RX2]
def wsL_stave_r2 : List Cond := [Cond.code yX2_bilgeWidth cX2_bilgeWidth 2 (some .int), Cond.fieldLink RX2 9 "CaskYard$Form" "height" "I", Cond.methodLink RX2 32 yX2_widthAt, Cond.instanceMethod yX2_widthAt, Cond.selects RX2 yX2_widthAt yX2_widthAt, Cond.code yX2_widthAt cX2_widthAt 4 (some .int), Cond.fieldLink RX2 21 "CaskYard$Form" "staves" "I", Cond.methodLink RX2 28 yX2_girthAt, Cond.instanceMethod yX2_girthAt, Cond.selects RX2 yX2_girthAt yX2_girthAt, Cond.code yX2_girthAt cX2_girthAt 3 (some .int), Cond.fieldLink RX2 15 "CaskYard$Form" "bilge" "I", Cond.fieldLink RX2 18 "CaskYard$Form" "headGirth" "I", Cond.static yX4_parted, Cond.code yX4_parted cX4_parted 2 (some .int)]
def wsL_stave : List Cond := .codeWith yL_stave cL_stave 6 (some .int) [(0, 12, 15, 13)] :: ((wsL_stave_r1 ++ wsL_stave_r2) ++ wsX10 ++ wsX40 ++ wsX20 ++ (vx_atS RX4 129 "java/util/NoSuchElementException" ["java/lang/RuntimeException", "java/lang/Exception"]).filter goodWord)
def wsL_formOf : List Cond := .codeWith yL_formOf cL_formOf 4 (some .int) [(0, 9, 12, 13)] :: ([.classLink RL 13 "java/util/NoSuchElementException", .methodLink RL 53 yX4_formOf, .instanceMethod yX4_formOf, .selects RX4 yX4_formOf yX4_formOf, .initialized RX4, .code yX4_formOf cX4_formOf 2 (some .int), .fieldLink RX4 183 "CaskYard$Cask" "formNumber" "I", .methodLink RX4 164 yX4_caskAt, .instanceMethod yX4_caskAt, .selects RX4 yX4_caskAt yX4_caskAt, .code yX4_caskAt cX4_caskAt 3 (some (.object "CaskYard$Cask")), .classLink RX4 125 "java/util/NoSuchElementException", .initialized "java/util/NoSuchElementException", .fieldLink RX4 23 "CaskYard" "casks" "[LCaskYard$Cask;"] ++ wsX10 ++ wsX40 ++ (vx_atS RX4 129 "java/util/NoSuchElementException" ["java/lang/RuntimeException", "java/lang/Exception"]).filter goodWord)
def wsL_bars : List Cond := .codeWith yL_bars cL_bars 6 (some .int) [(0, 19, 22, 15)] :: ([.classLink RL 15 "java/lang/IllegalArgumentException", .methodLink RL 56 yX4_bars, .instanceMethod yX4_bars, .selects RX4 yX4_bars yX4_bars, .initialized RX4, .code yX4_bars cX4_bars 5 (some .boolean), .fieldLink RX4 27 "CaskYard" "barred" "[I", .methodLink RX4 186 yX4_checkKind, .static yX4_checkKind, .code yX4_checkKind cX4_checkKind 1 none, .classLink RX4 77 "java/lang/IllegalArgumentException", .initialized "java/lang/IllegalArgumentException"] ++ wsX40 ++ (vx_atS RX4 81 "java/lang/IllegalArgumentException" ["java/lang/RuntimeException", "java/lang/Exception"]).filter goodWord)
def wsL_may_r1 : List Cond := [Cond.classLink RL 13 "java/util/NoSuchElementException", Cond.classLink RL 15 "java/lang/IllegalArgumentException", Cond.methodLink RL 60 yX4_may, Cond.instanceMethod yX4_may, Cond.selects RX4 yX4_may yX4_may, Cond.initialized RX4, Cond.code yX4_may cX4_may 4 (some .boolean), Cond.methodLink RX4 164 yX4_caskAt, Cond.instanceMethod yX4_caskAt, Cond.selects RX4 yX4_caskAt yX4_caskAt, Cond.code yX4_caskAt cX4_caskAt 3 (some (.object "CaskYard$Cask")), Cond.classLink RX4 125 "java/util/NoSuchElementException", Cond.initialized "java/util/NoSuchElementException", Cond.fieldLink RX4 23 "CaskYard" "casks" "[LCaskYard$Cask;", Cond.methodLink RX4 186 yX4_checkKind, Cond.static yX4_checkKind, Cond.code yX4_checkKind cX4_checkKind 1 none, Cond.classLink RX4 77 "java/lang/IllegalArgumentException", Cond.initialized "java/lang/IllegalArgumentException", Cond.methodLink RX4 190 yX4_isLet, Cond.instanceMethod yX4_isLet, Cond.selects RX4 yX4_isLet yX4_isLet, Cond.code yX4_isLet cX4_isLet 5 (some .boolean), Cond.fieldLink RX4 27 "CaskYard" "barred" "[I"]
def wsL_may_r2 : List Cond := [Cond.methodLink RX4 242 yX1_wholePast, Cond.instanceMethod yX1_wholePast, Cond.selects RX1 yX1_wholePast yX1_wholePast, Cond.initialized RX1, Cond.code yX1_wholePast cX1_wholePast 3 (some .int), Cond.fieldLink RX1 31 "CaskYard$Cask" "shape" "LCaskYard$Form;", Cond.fieldLink RX1 35 "CaskYard$Form" "staves" "I", Cond.fieldLink RX1 15 "CaskYard$Cask" "past" "[I"]
def wsL_may : List Cond := .codeWith yL_may cL_may 5 (some .int) [(0, 17, 20, 13), (0, 17, 24, 15)] :: ((wsL_may_r1 ++ wsL_may_r2) ++ wsX40 ++ wsX10 ++ wsX20 ++ (vx_atS RX4 129 "java/util/NoSuchElementException" ["java/lang/RuntimeException", "java/lang/Exception"]).filter goodWord ++ (vx_atS RX4 81 "java/lang/IllegalArgumentException" ["java/lang/RuntimeException", "java/lang/Exception"]).filter goodWord)
def wsL_tell_r1 : List Cond := [Cond.classLink RL 13 "java/util/NoSuchElementException", Cond.classLink RL 15 "java/lang/IllegalArgumentException", Cond.methodLink RL 64 yX4_tell, Cond.instanceMethod yX4_tell, Cond.selects RX4 yX4_tell yX4_tell, Cond.initialized RX4, Cond.code yX4_tell cX4_tell 5 (some .int), Cond.fieldLink RX4 88 "CaskYard" "now" "I", Cond.fieldLink RX4 194 "CaskYard$Cask" "entries" "I", Cond.methodLink RX4 164 yX4_caskAt, Cond.instanceMethod yX4_caskAt, Cond.selects RX4 yX4_caskAt yX4_caskAt, Cond.code yX4_caskAt cX4_caskAt 3 (some (.object "CaskYard$Cask")), Cond.classLink RX4 125 "java/util/NoSuchElementException", Cond.initialized "java/util/NoSuchElementException", Cond.fieldLink RX4 23 "CaskYard" "casks" "[LCaskYard$Cask;", Cond.methodLink RX4 186 yX4_checkKind, Cond.static yX4_checkKind, Cond.code yX4_checkKind cX4_checkKind 1 none, Cond.classLink RX4 77 "java/lang/IllegalArgumentException", Cond.initialized "java/lang/IllegalArgumentException", Cond.methodLink RX4 190 yX4_isLet, Cond.instanceMethod yX4_isLet, Cond.selects RX4 yX4_isLet yX4_isLet]
def wsL_tell_r2 : List Cond := [Cond.code yX4_isLet cX4_isLet 5 (some .boolean), Cond.fieldLink RX4 27 "CaskYard" "barred" "[I", Cond.methodLink RX4 242 yX1_wholePast, Cond.instanceMethod yX1_wholePast, Cond.selects RX1 yX1_wholePast yX1_wholePast, Cond.initialized RX1, Cond.code yX1_wholePast cX1_wholePast 3 (some .int), Cond.fieldLink RX1 31 "CaskYard$Cask" "shape" "LCaskYard$Form;", Cond.fieldLink RX1 35 "CaskYard$Form" "staves" "I", Cond.fieldLink RX1 15 "CaskYard$Cask" "past" "[I", Cond.methodLink RX4 197 yX1_meet, Cond.instanceMethod yX1_meet, Cond.selects RX1 yX1_meet yX1_meet, Cond.code yX1_meet cX1_meet 3 none, Cond.methodLink RX4 200 yX1_addEntry, Cond.instanceMethod yX1_addEntry, Cond.selects RX1 yX1_addEntry yX1_addEntry, Cond.code yX1_addEntry cX1_addEntry 4 none, Cond.fieldLink RX1 44 "CaskYard$Cask" "entries" "I", Cond.fieldLink RX1 18 "CaskYard$Cask" "entryDay" "[I", Cond.fieldLink RX1 21 "CaskYard$Cask" "entryTold" "[I", Cond.fieldLink RX1 24 "CaskYard$Cask" "entryKind" "[I"]
def wsL_tell : List Cond := .codeWith yL_tell cL_tell 6 (some .int) [(0, 12, 15, 13), (0, 12, 19, 15)] :: ((wsL_tell_r1 ++ wsL_tell_r2) ++ wsX40 ++ wsX10 ++ wsX20 ++ (vx_atS RX4 129 "java/util/NoSuchElementException" ["java/lang/RuntimeException", "java/lang/Exception"]).filter goodWord ++ (vx_atS RX4 81 "java/lang/IllegalArgumentException" ["java/lang/RuntimeException", "java/lang/Exception"]).filter goodWord)
def wsL_held : List Cond := .codeWith yL_held cL_held 6 (some .int) [(0, 12, 15, 13)] :: ([.classLink RL 13 "java/util/NoSuchElementException", .methodLink RL 67 yX4_held, .instanceMethod yX4_held, .selects RX4 yX4_held yX4_held, .initialized RX4, .code yX4_held cX4_held 4 (some .int), .methodLink RX4 164 yX4_caskAt, .instanceMethod yX4_caskAt, .selects RX4 yX4_caskAt yX4_caskAt, .code yX4_caskAt cX4_caskAt 3 (some (.object "CaskYard$Cask")), .classLink RX4 125 "java/util/NoSuchElementException", .initialized "java/util/NoSuchElementException", .fieldLink RX4 23 "CaskYard" "casks" "[LCaskYard$Cask;", .methodLink RX4 203 yX1_heldOn, .instanceMethod yX1_heldOn, .selects RX1 yX1_heldOn yX1_heldOn, .initialized RX1, .code yX1_heldOn cX1_heldOn 6 (some .int), .fieldLink RX1 44 "CaskYard$Cask" "entries" "I", .fieldLink RX1 21 "CaskYard$Cask" "entryTold" "[I", .fieldLink RX1 18 "CaskYard$Cask" "entryDay" "[I", .fieldLink RX1 24 "CaskYard$Cask" "entryKind" "[I"] ++ wsX40 ++ wsX10 ++ (vx_atS RX4 129 "java/util/NoSuchElementException" ["java/lang/RuntimeException", "java/lang/Exception"]).filter goodWord)
def wsL_lacks_r1 : List Cond := [Cond.classLink RL 13 "java/util/NoSuchElementException", Cond.classLink RL 15 "java/lang/IllegalArgumentException", Cond.methodLink RL 70 yX4_lacks, Cond.instanceMethod yX4_lacks, Cond.selects RX4 yX4_lacks yX4_lacks, Cond.initialized RX4, Cond.code yX4_lacks cX4_lacks 11 (some .int), Cond.classLink RX4 77 "java/lang/IllegalArgumentException", Cond.initialized "java/lang/IllegalArgumentException", Cond.constant RX4 87 (100000), Cond.methodLink RX4 109 Lib.Math.min.name, Cond.static Lib.Math.min.name, Cond.initialized "java/lang/Math", Cond.code Lib.Math.min.name Lib.Math.min.code 2 (some .int), Cond.fieldLink RX4 88 "CaskYard" "now" "I", Cond.methodLink RX4 164 yX4_caskAt, Cond.instanceMethod yX4_caskAt, Cond.selects RX4 yX4_caskAt yX4_caskAt, Cond.code yX4_caskAt cX4_caskAt 3 (some (.object "CaskYard$Cask")), Cond.classLink RX4 125 "java/util/NoSuchElementException", Cond.initialized "java/util/NoSuchElementException", Cond.fieldLink RX4 23 "CaskYard" "casks" "[LCaskYard$Cask;", Cond.methodLink RX4 208 yX1_nextEntryDay, Cond.instanceMethod yX1_nextEntryDay]
def wsL_lacks_r2 : List Cond := [Cond.selects RX1 yX1_nextEntryDay yX1_nextEntryDay, Cond.initialized RX1, Cond.code yX1_nextEntryDay cX1_nextEntryDay 4 (some .int), Cond.constant RX1 47 (100001), Cond.fieldLink RX1 44 "CaskYard$Cask" "entries" "I", Cond.fieldLink RX1 18 "CaskYard$Cask" "entryDay" "[I", Cond.methodLink RX1 48 Lib.Math.min.name, Cond.methodLink RX4 203 yX1_heldOn, Cond.instanceMethod yX1_heldOn, Cond.selects RX1 yX1_heldOn yX1_heldOn, Cond.code yX1_heldOn cX1_heldOn 6 (some .int), Cond.fieldLink RX1 21 "CaskYard$Cask" "entryTold" "[I", Cond.fieldLink RX1 24 "CaskYard$Cask" "entryKind" "[I"]
def wsL_lacks : List Cond := .codeWith yL_lacks cL_lacks 7 (some .int) [(0, 14, 17, 13), (0, 14, 21, 15)] :: ((wsL_lacks_r1 ++ wsL_lacks_r2) ++ wsX40 ++ wsX10 ++ (vx_atS RX4 81 "java/lang/IllegalArgumentException" ["java/lang/RuntimeException", "java/lang/Exception"]).filter goodWord ++ (vx_atS RX4 129 "java/util/NoSuchElementException" ["java/lang/RuntimeException", "java/lang/Exception"]).filter goodWord)
def wsL_swap_r1 : List Cond := [Cond.classLink RL 13 "java/util/NoSuchElementException", Cond.methodLink RL 74 yX4_swap, Cond.instanceMethod yX4_swap, Cond.selects RX4 yX4_swap yX4_swap, Cond.initialized RX4, Cond.code yX4_swap cX4_swap 9 (some .boolean), Cond.fieldLink RX4 168 "CaskYard$Cask" "shape" "LCaskYard$Form;", Cond.fieldLink RX4 177 "CaskYard$Cask" "boltOf" "[I", Cond.fieldLink RX4 180 "CaskYard$Cask" "past" "[I", Cond.methodLink RX4 164 yX4_caskAt, Cond.instanceMethod yX4_caskAt, Cond.selects RX4 yX4_caskAt yX4_caskAt, Cond.code yX4_caskAt cX4_caskAt 3 (some (.object "CaskYard$Cask")), Cond.classLink RX4 125 "java/util/NoSuchElementException", Cond.initialized "java/util/NoSuchElementException", Cond.fieldLink RX4 23 "CaskYard" "casks" "[LCaskYard$Cask;", Cond.methodLink RX4 67 yX4_checkStave, Cond.static yX4_checkStave, Cond.code yX4_checkStave cX4_checkStave 2 none, Cond.fieldLink RX4 227 "CaskYard$Form" "staves" "I", Cond.methodLink RX4 174 yX2_bilgeWidth, Cond.instanceMethod yX2_bilgeWidth, Cond.selects RX2 yX2_bilgeWidth yX2_bilgeWidth, Cond.initialized RX2]
def wsL_swap_r2 : List Cond := [Cond.code yX2_bilgeWidth cX2_bilgeWidth 2 (some .int), Cond.fieldLink RX2 9 "CaskYard$Form" "height" "I", Cond.methodLink RX2 32 yX2_widthAt, Cond.instanceMethod yX2_widthAt, Cond.selects RX2 yX2_widthAt yX2_widthAt, Cond.code yX2_widthAt cX2_widthAt 4 (some .int), Cond.fieldLink RX2 21 "CaskYard$Form" "staves" "I", Cond.methodLink RX2 28 yX2_girthAt, Cond.instanceMethod yX2_girthAt, Cond.selects RX2 yX2_girthAt yX2_girthAt, Cond.code yX2_girthAt cX2_girthAt 3 (some .int), Cond.fieldLink RX2 15 "CaskYard$Form" "bilge" "I", Cond.fieldLink RX2 18 "CaskYard$Form" "headGirth" "I", Cond.static yX4_parted, Cond.code yX4_parted cX4_parted 2 (some .int)]
def wsL_swap : List Cond := .codeWith yL_swap cL_swap 7 (some .int) [(0, 21, 24, 13)] :: ((wsL_swap_r1 ++ wsL_swap_r2) ++ wsX10 ++ wsX40 ++ wsX20 ++ (vx_atS RX4 129 "java/util/NoSuchElementException" ["java/lang/RuntimeException", "java/lang/Exception"]).filter goodWord)
def wsL_renew_r1 : List Cond := [Cond.classLink RL 13 "java/util/NoSuchElementException", Cond.methodLink RL 78 yX4_renew, Cond.instanceMethod yX4_renew, Cond.selects RX4 yX4_renew yX4_renew, Cond.initialized RX4, Cond.code yX4_renew cX4_renew 7 (some .int), Cond.fieldLink RX4 168 "CaskYard$Cask" "shape" "LCaskYard$Form;", Cond.fieldLink RX4 93 "CaskYard" "boltCount" "I", Cond.fieldLink RX4 17 "CaskYard" "bolts" "[LCaskYard$Bolt;", Cond.fieldLink RX4 177 "CaskYard$Cask" "boltOf" "[I", Cond.fieldLink RX4 180 "CaskYard$Cask" "past" "[I", Cond.methodLink RX4 164 yX4_caskAt, Cond.instanceMethod yX4_caskAt, Cond.selects RX4 yX4_caskAt yX4_caskAt, Cond.code yX4_caskAt cX4_caskAt 3 (some (.object "CaskYard$Cask")), Cond.classLink RX4 125 "java/util/NoSuchElementException", Cond.initialized "java/util/NoSuchElementException", Cond.fieldLink RX4 23 "CaskYard" "casks" "[LCaskYard$Cask;", Cond.methodLink RX4 67 yX4_checkStave, Cond.static yX4_checkStave, Cond.code yX4_checkStave cX4_checkStave 2 none, Cond.fieldLink RX4 227 "CaskYard$Form" "staves" "I", Cond.methodLink RX4 174 yX2_bilgeWidth, Cond.instanceMethod yX2_bilgeWidth]
def wsL_renew_r2 : List Cond := [Cond.selects RX2 yX2_bilgeWidth yX2_bilgeWidth, Cond.initialized RX2, Cond.code yX2_bilgeWidth cX2_bilgeWidth 2 (some .int), Cond.fieldLink RX2 9 "CaskYard$Form" "height" "I", Cond.methodLink RX2 32 yX2_widthAt, Cond.instanceMethod yX2_widthAt, Cond.selects RX2 yX2_widthAt yX2_widthAt, Cond.code yX2_widthAt cX2_widthAt 4 (some .int), Cond.fieldLink RX2 21 "CaskYard$Form" "staves" "I", Cond.methodLink RX2 28 yX2_girthAt, Cond.instanceMethod yX2_girthAt, Cond.selects RX2 yX2_girthAt yX2_girthAt, Cond.code yX2_girthAt cX2_girthAt 3 (some .int), Cond.fieldLink RX2 15 "CaskYard$Form" "bilge" "I", Cond.fieldLink RX2 18 "CaskYard$Form" "headGirth" "I", Cond.static yX4_parted, Cond.code yX4_parted cX4_parted 2 (some .int), Cond.methodLink RX4 130 yX4_isRipe, Cond.instanceMethod yX4_isRipe, Cond.selects RX4 yX4_isRipe yX4_isRipe, Cond.code yX4_isRipe cX4_isRipe 2 (some .boolean), Cond.fieldLink RX4 88 "CaskYard" "now" "I", Cond.fieldLink RX4 239 "CaskYard$Bolt" "split" "I", Cond.methodLink RX4 211 yX0_cutFirst]
def wsL_renew_r3 : List Cond := [Cond.instanceMethod yX0_cutFirst, Cond.selects RX0 yX0_cutFirst yX0_cutFirst, Cond.initialized RX0, Cond.code yX0_cutFirst cX0_cutFirst 3 (some .boolean), Cond.fieldLink RX0 22 "CaskYard$Bolt" "parts" "I", Cond.fieldLink RX0 15 "CaskYard$Bolt" "end" "[I", Cond.fieldLink RX0 9 "CaskYard$Bolt" "begin" "[I", Cond.methodLink RX0 25 yX0_dropEmptyParts, Cond.instanceMethod yX0_dropEmptyParts, Cond.selects RX0 yX0_dropEmptyParts yX0_dropEmptyParts, Cond.code yX0_dropEmptyParts cX0_dropEmptyParts 3 none, Cond.methodLink RX0 28 yX0_addPart, Cond.instanceMethod yX0_addPart, Cond.selects RX0 yX0_addPart yX0_addPart, Cond.code yX0_addPart cX0_addPart 3 (some .boolean)]
def wsL_renew : List Cond := .codeWith yL_renew cL_renew 5 (some .int) [(0, 10, 13, 13)] :: ((wsL_renew_r1 ++ (wsL_renew_r2 ++ wsL_renew_r3)) ++ wsX10 ++ wsX40 ++ wsX20 ++ wsX00 ++ (vx_atS RX4 129 "java/util/NoSuchElementException" ["java/lang/RuntimeException", "java/lang/Exception"]).filter goodWord)
def wsL_weight : List Cond := .codeWith yL_weight cL_weight 5 (some .int) [(0, 10, 13, 15)] :: ([.classLink RL 15 "java/lang/IllegalArgumentException", .methodLink RL 81 yX4_weight, .instanceMethod yX4_weight, .selects RX4 yX4_weight yX4_weight, .initialized RX4, .code yX4_weight cX4_weight 4 (some .int), .classLink RX4 77 "java/lang/IllegalArgumentException", .initialized "java/lang/IllegalArgumentException", .fieldLink RX4 31 "CaskYard" "weights" "[I", .methodLink RX4 186 yX4_checkKind, .static yX4_checkKind, .code yX4_checkKind cX4_checkKind 1 none] ++ wsX40 ++ (vx_atS RX4 81 "java/lang/IllegalArgumentException" ["java/lang/RuntimeException", "java/lang/Exception"]).filter goodWord)
def wsL_weighs_r1 : List Cond := [Cond.classLink RL 13 "java/util/NoSuchElementException", Cond.classLink RL 15 "java/lang/IllegalArgumentException", Cond.methodLink RL 84 yX4_weighs, Cond.instanceMethod yX4_weighs, Cond.selects RX4 yX4_weighs yX4_weighs, Cond.initialized RX4, Cond.code yX4_weighs cX4_weighs 5 (some .long), Cond.fieldLink RX4 168 "CaskYard$Cask" "shape" "LCaskYard$Form;", Cond.fieldLink RX4 88 "CaskYard" "now" "I", Cond.constantLong RX4 217 (-1), Cond.fieldLink RX4 31 "CaskYard" "weights" "[I", Cond.constantLong RX4 219 (1000), Cond.methodLink RX4 164 yX4_caskAt, Cond.instanceMethod yX4_caskAt, Cond.selects RX4 yX4_caskAt yX4_caskAt, Cond.code yX4_caskAt cX4_caskAt 3 (some (.object "CaskYard$Cask")), Cond.classLink RX4 125 "java/util/NoSuchElementException", Cond.initialized "java/util/NoSuchElementException", Cond.fieldLink RX4 23 "CaskYard" "casks" "[LCaskYard$Cask;", Cond.methodLink RX4 59 yX4_checkHeight, Cond.static yX4_checkHeight, Cond.code yX4_checkHeight cX4_checkHeight 2 none, Cond.classLink RX4 77 "java/lang/IllegalArgumentException", Cond.initialized "java/lang/IllegalArgumentException"]
def wsL_weighs_r2 : List Cond := [Cond.fieldLink RX4 232 "CaskYard$Form" "height" "I", Cond.methodLink RX4 203 yX1_heldOn, Cond.instanceMethod yX1_heldOn, Cond.selects RX1 yX1_heldOn yX1_heldOn, Cond.initialized RX1, Cond.code yX1_heldOn cX1_heldOn 6 (some .int), Cond.fieldLink RX1 44 "CaskYard$Cask" "entries" "I", Cond.fieldLink RX1 21 "CaskYard$Cask" "entryTold" "[I", Cond.fieldLink RX1 18 "CaskYard$Cask" "entryDay" "[I", Cond.fieldLink RX1 24 "CaskYard$Cask" "entryKind" "[I", Cond.methodLink RX4 74 yX2_contentTo, Cond.instanceMethod yX2_contentTo, Cond.selects RX2 yX2_contentTo yX2_contentTo, Cond.initialized RX2, Cond.code yX2_contentTo cX2_contentTo 5 (some .int), Cond.methodLink RX2 35 yX2_squareAt, Cond.instanceMethod yX2_squareAt, Cond.selects RX2 yX2_squareAt yX2_squareAt, Cond.code yX2_squareAt cX2_squareAt 4 (some .long), Cond.methodLink RX2 28 yX2_girthAt, Cond.instanceMethod yX2_girthAt, Cond.selects RX2 yX2_girthAt yX2_girthAt, Cond.code yX2_girthAt cX2_girthAt 3 (some .int), Cond.fieldLink RX2 9 "CaskYard$Form" "height" "I"]
def wsL_weighs_r3 : List Cond := [Cond.fieldLink RX2 15 "CaskYard$Form" "bilge" "I", Cond.fieldLink RX2 18 "CaskYard$Form" "headGirth" "I", Cond.static yX4_parted, Cond.code yX4_parted cX4_parted 2 (some .int), Cond.methodLink RX2 39 yX2_content, Cond.static yX2_content, Cond.code yX2_content cX2_content 2 (some .int), Cond.constantLong RX2 43 (113), Cond.constantLong RX2 45 (1420)]
def wsL_weighs : List Cond := .codeWith yL_weighs cL_weighs 5 (some .int) [(0, 9, 12, 13), (0, 9, 16, 15)] :: ((wsL_weighs_r1 ++ (wsL_weighs_r2 ++ wsL_weighs_r3)) ++ wsX10 ++ wsX40 ++ wsX20 ++ (vx_atS RX4 129 "java/util/NoSuchElementException" ["java/lang/RuntimeException", "java/lang/Exception"]).filter goodWord ++ (vx_atS RX4 81 "java/lang/IllegalArgumentException" ["java/lang/RuntimeException", "java/lang/Exception"]).filter goodWord)
def wsL_count : List Cond := .codeWith yL_count cL_count 4 (some .int) [(0, 9, 12, 13)] :: ([.classLink RL 13 "java/util/NoSuchElementException", .methodLink RL 88 yX4_count, .instanceMethod yX4_count, .selects RX4 yX4_count yX4_count, .initialized RX4, .code yX4_count cX4_count 2 (some .int), .classLink RX4 125 "java/util/NoSuchElementException", .initialized "java/util/NoSuchElementException", .fieldLink RX4 88 "CaskYard" "now" "I", .fieldLink RX4 48 "CaskYard" "formCount" "I", .fieldLink RX4 93 "CaskYard" "boltCount" "I", .fieldLink RX4 143 "CaskYard" "caskCount" "I"] ++ wsX40 ++ (vx_atS RX4 129 "java/util/NoSuchElementException" ["java/lang/RuntimeException", "java/lang/Exception"]).filter goodWord)
abbrev vwCl : List vw_C := [(RX0, TX0, 4), (RX1, TX1, 8), (RX2, TX2, 4), (RX3, TX3, 14), (RX4, TX4, 11), (RX5, TX5, 34)]
end
section
theorem dX0_init_0 : decode cX0_init 0 = .ok (.aload_n 0, 1) := by decide +kernel
theorem dX0_init_1 : decode cX0_init 1 = .ok (.invokespecial 3, 3) := by decide +kernel
theorem dX0_init_4 : decode cX0_init 4 = .ok (.aload_n 0, 1) := by decide +kernel
theorem dX0_init_5 : decode cX0_init 5 = .ok (.iconst 4, 1) := by decide +kernel
theorem dX0_init_6 : decode cX0_init 6 = .ok (.newarray .int, 2) := by decide +kernel
theorem dX0_init_8 : decode cX0_init 8 = .ok (.putfield 9, 3) := by decide +kernel
theorem dX0_init_11 : decode cX0_init 11 = .ok (.aload_n 0, 1) := by decide +kernel
theorem dX0_init_12 : decode cX0_init 12 = .ok (.iconst 4, 1) := by decide +kernel
theorem dX0_init_13 : decode cX0_init 13 = .ok (.newarray .int, 2) := by decide +kernel
theorem dX0_init_15 : decode cX0_init 15 = .ok (.putfield 15, 3) := by decide +kernel
theorem dX0_init_18 : decode cX0_init 18 = .ok (.aload_n 0, 1) := by decide +kernel
theorem dX0_init_19 : decode cX0_init 19 = .ok (.iload_n 2, 1) := by decide +kernel
theorem dX0_init_20 : decode cX0_init 20 = .ok (.putfield 18, 3) := by decide +kernel
theorem dX0_init_23 : decode cX0_init 23 = .ok (.aload_n 0, 1) := by decide +kernel
theorem dX0_init_24 : decode cX0_init 24 = .ok (.getfield 15, 3) := by decide +kernel
theorem dX0_init_27 : decode cX0_init 27 = .ok (.iconst 0, 1) := by decide +kernel
theorem dX0_init_28 : decode cX0_init 28 = .ok (.iload_n 1, 1) := by decide +kernel
theorem dX0_init_29 : decode cX0_init 29 = .ok (.iastore, 1) := by decide +kernel
theorem dX0_init_30 : decode cX0_init 30 = .ok (.aload_n 0, 1) := by decide +kernel
theorem dX0_init_31 : decode cX0_init 31 = .ok (.iconst 1, 1) := by decide +kernel
theorem dX0_init_32 : decode cX0_init 32 = .ok (.putfield 22, 3) := by decide +kernel
theorem dX0_init_35 : decode cX0_init 35 = .ok (.return_, 1) := by decide +kernel
theorem dX0_addPart_0 : decode cX0_addPart 0 = .ok (.iload_n 1, 1) := by decide +kernel
theorem dX0_addPart_1 : decode cX0_addPart 1 = .ok (.iload_n 2, 1) := by decide +kernel
theorem dX0_addPart_2 : decode cX0_addPart 2 = .ok (.if_icmp .lt 5, 3) := by decide +kernel
theorem dX0_addPart_5 : decode cX0_addPart 5 = .ok (.iconst 1, 1) := by decide +kernel
theorem dX0_addPart_6 : decode cX0_addPart 6 = .ok (.ireturn, 1) := by decide +kernel
theorem dX0_addPart_7 : decode cX0_addPart 7 = .ok (.aload_n 0, 1) := by decide +kernel
theorem dX0_addPart_8 : decode cX0_addPart 8 = .ok (.getfield 22, 3) := by decide +kernel
theorem dX0_addPart_11 : decode cX0_addPart 11 = .ok (.iconst 4, 1) := by decide +kernel
theorem dX0_addPart_12 : decode cX0_addPart 12 = .ok (.if_icmp .lt 5, 3) := by decide +kernel
theorem dX0_addPart_15 : decode cX0_addPart 15 = .ok (.iconst 0, 1) := by decide +kernel
theorem dX0_addPart_16 : decode cX0_addPart 16 = .ok (.ireturn, 1) := by decide +kernel
theorem dX0_addPart_17 : decode cX0_addPart 17 = .ok (.aload_n 0, 1) := by decide +kernel
theorem dX0_addPart_18 : decode cX0_addPart 18 = .ok (.getfield 9, 3) := by decide +kernel
theorem dX0_addPart_21 : decode cX0_addPart 21 = .ok (.aload_n 0, 1) := by decide +kernel
theorem dX0_addPart_22 : decode cX0_addPart 22 = .ok (.getfield 22, 3) := by decide +kernel
theorem dX0_addPart_25 : decode cX0_addPart 25 = .ok (.iload_n 1, 1) := by decide +kernel
theorem dX0_addPart_26 : decode cX0_addPart 26 = .ok (.iastore, 1) := by decide +kernel
theorem dX0_addPart_27 : decode cX0_addPart 27 = .ok (.aload_n 0, 1) := by decide +kernel
theorem dX0_addPart_28 : decode cX0_addPart 28 = .ok (.getfield 15, 3) := by decide +kernel
theorem dX0_addPart_31 : decode cX0_addPart 31 = .ok (.aload_n 0, 1) := by decide +kernel
theorem dX0_addPart_32 : decode cX0_addPart 32 = .ok (.getfield 22, 3) := by decide +kernel
theorem dX0_addPart_35 : decode cX0_addPart 35 = .ok (.iload_n 2, 1) := by decide +kernel
theorem dX0_addPart_36 : decode cX0_addPart 36 = .ok (.iastore, 1) := by decide +kernel
theorem dX0_addPart_37 : decode cX0_addPart 37 = .ok (.aload_n 0, 1) := by decide +kernel
theorem dX0_addPart_38 : decode cX0_addPart 38 = .ok (.dup, 1) := by decide +kernel
theorem dX0_addPart_39 : decode cX0_addPart 39 = .ok (.getfield 22, 3) := by decide +kernel
theorem dX0_addPart_42 : decode cX0_addPart 42 = .ok (.iconst 1, 1) := by decide +kernel
theorem dX0_addPart_43 : decode cX0_addPart 43 = .ok (.iadd, 1) := by decide +kernel
theorem dX0_addPart_44 : decode cX0_addPart 44 = .ok (.putfield 22, 3) := by decide +kernel
theorem dX0_addPart_47 : decode cX0_addPart 47 = .ok (.iconst 1, 1) := by decide +kernel
theorem dX0_addPart_48 : decode cX0_addPart 48 = .ok (.ireturn, 1) := by decide +kernel
theorem dX0_takePartsOf_0 : decode cX0_takePartsOf 0 = .ok (.aload_n 0, 1) := by decide +kernel
theorem dX0_takePartsOf_1 : decode cX0_takePartsOf 1 = .ok (.aload_n 1, 1) := by decide +kernel
theorem dX0_takePartsOf_2 : decode cX0_takePartsOf 2 = .ok (.getfield 22, 3) := by decide +kernel
theorem dX0_takePartsOf_5 : decode cX0_takePartsOf 5 = .ok (.putfield 22, 3) := by decide +kernel
theorem dX0_takePartsOf_8 : decode cX0_takePartsOf 8 = .ok (.iconst 0, 1) := by decide +kernel
theorem dX0_takePartsOf_9 : decode cX0_takePartsOf 9 = .ok (.istore_n 2, 1) := by decide +kernel
theorem dX0_takePartsOf_10 : decode cX0_takePartsOf 10 = .ok (.iload_n 2, 1) := by decide +kernel
theorem dX0_takePartsOf_11 : decode cX0_takePartsOf 11 = .ok (.aload_n 0, 1) := by decide +kernel
theorem dX0_takePartsOf_12 : decode cX0_takePartsOf 12 = .ok (.getfield 22, 3) := by decide +kernel
theorem dX0_takePartsOf_15 : decode cX0_takePartsOf 15 = .ok (.if_icmp .ge 33, 3) := by decide +kernel
theorem dX0_takePartsOf_18 : decode cX0_takePartsOf 18 = .ok (.aload_n 0, 1) := by decide +kernel
theorem dX0_takePartsOf_19 : decode cX0_takePartsOf 19 = .ok (.getfield 9, 3) := by decide +kernel
theorem dX0_takePartsOf_22 : decode cX0_takePartsOf 22 = .ok (.iload_n 2, 1) := by decide +kernel
theorem dX0_takePartsOf_23 : decode cX0_takePartsOf 23 = .ok (.aload_n 1, 1) := by decide +kernel
theorem dX0_takePartsOf_24 : decode cX0_takePartsOf 24 = .ok (.getfield 9, 3) := by decide +kernel
theorem dX0_takePartsOf_27 : decode cX0_takePartsOf 27 = .ok (.iload_n 2, 1) := by decide +kernel
theorem dX0_takePartsOf_28 : decode cX0_takePartsOf 28 = .ok (.iaload, 1) := by decide +kernel
theorem dX0_takePartsOf_29 : decode cX0_takePartsOf 29 = .ok (.iastore, 1) := by decide +kernel
theorem dX0_takePartsOf_30 : decode cX0_takePartsOf 30 = .ok (.aload_n 0, 1) := by decide +kernel
theorem dX0_takePartsOf_31 : decode cX0_takePartsOf 31 = .ok (.getfield 15, 3) := by decide +kernel
theorem dX0_takePartsOf_34 : decode cX0_takePartsOf 34 = .ok (.iload_n 2, 1) := by decide +kernel
theorem dX0_takePartsOf_35 : decode cX0_takePartsOf 35 = .ok (.aload_n 1, 1) := by decide +kernel
theorem dX0_takePartsOf_36 : decode cX0_takePartsOf 36 = .ok (.getfield 15, 3) := by decide +kernel
theorem dX0_takePartsOf_39 : decode cX0_takePartsOf 39 = .ok (.iload_n 2, 1) := by decide +kernel
theorem dX0_takePartsOf_40 : decode cX0_takePartsOf 40 = .ok (.iaload, 1) := by decide +kernel
theorem dX0_takePartsOf_41 : decode cX0_takePartsOf 41 = .ok (.iastore, 1) := by decide +kernel
theorem dX0_takePartsOf_42 : decode cX0_takePartsOf 42 = .ok (.iinc 2 1, 3) := by decide +kernel
theorem dX0_takePartsOf_45 : decode cX0_takePartsOf 45 = .ok (.goto (-35), 3) := by decide +kernel
theorem dX0_takePartsOf_48 : decode cX0_takePartsOf 48 = .ok (.return_, 1) := by decide +kernel
set_option maxRecDepth 20000 in
theorem ggX0_cutFirst_X0_dropEmptyParts : GoodIn wsX0_cutFirst wsX0_dropEmptyParts := goodIn_r _ [8, 1, 3, 2, 9, 10, 11, 7, 12, 13, 14, 15, 16] (by decide +kernel) (by decide +kernel)
set_option maxRecDepth 20000 in
theorem gX0_cutFirst_X0_dropEmptyParts : GoodIn wsX0_cutFirst (wsV RX0 25 RX0 yX0_dropEmptyParts wsX0_dropEmptyParts) := goodIn_app (goodIn_of _ (by decide +kernel)) ggX0_cutFirst_X0_dropEmptyParts
theorem dX0_cutFirst_0 : decode cX0_cutFirst 0 = .ok (.iconst 0, 1) := by decide +kernel
theorem dX0_cutFirst_1 : decode cX0_cutFirst 1 = .ok (.istore_n 2, 1) := by decide +kernel
theorem dX0_cutFirst_2 : decode cX0_cutFirst 2 = .ok (.iload_n 2, 1) := by decide +kernel
theorem dX0_cutFirst_3 : decode cX0_cutFirst 3 = .ok (.aload_n 0, 1) := by decide +kernel
theorem dX0_cutFirst_4 : decode cX0_cutFirst 4 = .ok (.getfield 22, 3) := by decide +kernel
theorem dX0_cutFirst_7 : decode cX0_cutFirst 7 = .ok (.if_icmp .ge 42, 3) := by decide +kernel
theorem dX0_cutFirst_10 : decode cX0_cutFirst 10 = .ok (.aload_n 0, 1) := by decide +kernel
theorem dX0_cutFirst_11 : decode cX0_cutFirst 11 = .ok (.getfield 15, 3) := by decide +kernel
theorem dX0_cutFirst_14 : decode cX0_cutFirst 14 = .ok (.iload_n 2, 1) := by decide +kernel
theorem dX0_cutFirst_15 : decode cX0_cutFirst 15 = .ok (.iaload, 1) := by decide +kernel
theorem dX0_cutFirst_16 : decode cX0_cutFirst 16 = .ok (.aload_n 0, 1) := by decide +kernel
theorem dX0_cutFirst_17 : decode cX0_cutFirst 17 = .ok (.getfield 9, 3) := by decide +kernel
theorem dX0_cutFirst_20 : decode cX0_cutFirst 20 = .ok (.iload_n 2, 1) := by decide +kernel
theorem dX0_cutFirst_21 : decode cX0_cutFirst 21 = .ok (.iaload, 1) := by decide +kernel
theorem dX0_cutFirst_22 : decode cX0_cutFirst 22 = .ok (.isub, 1) := by decide +kernel
theorem dX0_cutFirst_23 : decode cX0_cutFirst 23 = .ok (.iload_n 1, 1) := by decide +kernel
theorem dX0_cutFirst_24 : decode cX0_cutFirst 24 = .ok (.if_icmp .lt 19, 3) := by decide +kernel
theorem dX0_cutFirst_27 : decode cX0_cutFirst 27 = .ok (.aload_n 0, 1) := by decide +kernel
theorem dX0_cutFirst_28 : decode cX0_cutFirst 28 = .ok (.getfield 9, 3) := by decide +kernel
theorem dX0_cutFirst_31 : decode cX0_cutFirst 31 = .ok (.iload_n 2, 1) := by decide +kernel
theorem dX0_cutFirst_32 : decode cX0_cutFirst 32 = .ok (.dup2, 1) := by decide +kernel
theorem dX0_cutFirst_33 : decode cX0_cutFirst 33 = .ok (.iaload, 1) := by decide +kernel
theorem dX0_cutFirst_34 : decode cX0_cutFirst 34 = .ok (.iload_n 1, 1) := by decide +kernel
theorem dX0_cutFirst_35 : decode cX0_cutFirst 35 = .ok (.iadd, 1) := by decide +kernel
theorem dX0_cutFirst_36 : decode cX0_cutFirst 36 = .ok (.iastore, 1) := by decide +kernel
theorem dX0_cutFirst_37 : decode cX0_cutFirst 37 = .ok (.aload_n 0, 1) := by decide +kernel
theorem dX0_cutFirst_38 : decode cX0_cutFirst 38 = .ok (.invokevirtual 25, 3) := by decide +kernel
theorem dX0_cutFirst_41 : decode cX0_cutFirst 41 = .ok (.iconst 1, 1) := by decide +kernel
theorem dX0_cutFirst_42 : decode cX0_cutFirst 42 = .ok (.ireturn, 1) := by decide +kernel
theorem dX0_cutFirst_43 : decode cX0_cutFirst 43 = .ok (.iinc 2 1, 3) := by decide +kernel
theorem dX0_cutFirst_46 : decode cX0_cutFirst 46 = .ok (.goto (-44), 3) := by decide +kernel
theorem dX0_cutFirst_49 : decode cX0_cutFirst 49 = .ok (.iconst 0, 1) := by decide +kernel
theorem dX0_cutFirst_50 : decode cX0_cutFirst 50 = .ok (.ireturn, 1) := by decide +kernel
set_option maxRecDepth 20000 in
theorem ggX0_dropEmptyParts_X0_addPart : GoodIn wsX0_dropEmptyParts wsX0_addPart := goodIn_r _ [8, 1, 2, 3, 9, 10, 11, 12] (by decide +kernel) (by decide +kernel)
set_option maxRecDepth 20000 in
theorem gX0_dropEmptyParts_X0_addPart : GoodIn wsX0_dropEmptyParts (wsV RX0 28 RX0 yX0_addPart wsX0_addPart) := goodIn_app (goodIn_of _ (by decide +kernel)) ggX0_dropEmptyParts_X0_addPart
theorem dX0_dropEmptyParts_0 : decode cX0_dropEmptyParts 0 = .ok (.aload_n 0, 1) := by decide +kernel
theorem dX0_dropEmptyParts_1 : decode cX0_dropEmptyParts 1 = .ok (.getfield 22, 3) := by decide +kernel
theorem dX0_dropEmptyParts_4 : decode cX0_dropEmptyParts 4 = .ok (.istore_n 1, 1) := by decide +kernel
theorem dX0_dropEmptyParts_5 : decode cX0_dropEmptyParts 5 = .ok (.aload_n 0, 1) := by decide +kernel
theorem dX0_dropEmptyParts_6 : decode cX0_dropEmptyParts 6 = .ok (.iconst 0, 1) := by decide +kernel
theorem dX0_dropEmptyParts_7 : decode cX0_dropEmptyParts 7 = .ok (.putfield 22, 3) := by decide +kernel
theorem dX0_dropEmptyParts_10 : decode cX0_dropEmptyParts 10 = .ok (.iconst 0, 1) := by decide +kernel
theorem dX0_dropEmptyParts_11 : decode cX0_dropEmptyParts 11 = .ok (.istore_n 2, 1) := by decide +kernel
theorem dX0_dropEmptyParts_12 : decode cX0_dropEmptyParts 12 = .ok (.iload_n 2, 1) := by decide +kernel
theorem dX0_dropEmptyParts_13 : decode cX0_dropEmptyParts 13 = .ok (.iload_n 1, 1) := by decide +kernel
theorem dX0_dropEmptyParts_14 : decode cX0_dropEmptyParts 14 = .ok (.if_icmp .ge 26, 3) := by decide +kernel
theorem dX0_dropEmptyParts_17 : decode cX0_dropEmptyParts 17 = .ok (.aload_n 0, 1) := by decide +kernel
theorem dX0_dropEmptyParts_18 : decode cX0_dropEmptyParts 18 = .ok (.aload_n 0, 1) := by decide +kernel
theorem dX0_dropEmptyParts_19 : decode cX0_dropEmptyParts 19 = .ok (.getfield 9, 3) := by decide +kernel
theorem dX0_dropEmptyParts_22 : decode cX0_dropEmptyParts 22 = .ok (.iload_n 2, 1) := by decide +kernel
theorem dX0_dropEmptyParts_23 : decode cX0_dropEmptyParts 23 = .ok (.iaload, 1) := by decide +kernel
theorem dX0_dropEmptyParts_24 : decode cX0_dropEmptyParts 24 = .ok (.aload_n 0, 1) := by decide +kernel
theorem dX0_dropEmptyParts_25 : decode cX0_dropEmptyParts 25 = .ok (.getfield 15, 3) := by decide +kernel
theorem dX0_dropEmptyParts_28 : decode cX0_dropEmptyParts 28 = .ok (.iload_n 2, 1) := by decide +kernel
theorem dX0_dropEmptyParts_29 : decode cX0_dropEmptyParts 29 = .ok (.iaload, 1) := by decide +kernel
theorem dX0_dropEmptyParts_30 : decode cX0_dropEmptyParts 30 = .ok (.invokevirtual 28, 3) := by decide +kernel
theorem dX0_dropEmptyParts_33 : decode cX0_dropEmptyParts 33 = .ok (.pop, 1) := by decide +kernel
theorem dX0_dropEmptyParts_34 : decode cX0_dropEmptyParts 34 = .ok (.iinc 2 1, 3) := by decide +kernel
theorem dX0_dropEmptyParts_37 : decode cX0_dropEmptyParts 37 = .ok (.goto (-25), 3) := by decide +kernel
theorem dX0_dropEmptyParts_40 : decode cX0_dropEmptyParts 40 = .ok (.return_, 1) := by decide +kernel
theorem dX1_init_0 : decode cX1_init 0 = .ok (.aload_n 0, 1) := by decide +kernel
theorem dX1_init_1 : decode cX1_init 1 = .ok (.invokespecial 3, 3) := by decide +kernel
theorem dX1_init_4 : decode cX1_init 4 = .ok (.aload_n 0, 1) := by decide +kernel
theorem dX1_init_5 : decode cX1_init 5 = .ok (.bipush 40, 2) := by decide +kernel
theorem dX1_init_7 : decode cX1_init 7 = .ok (.newarray .int, 2) := by decide +kernel
theorem dX1_init_9 : decode cX1_init 9 = .ok (.putfield 9, 3) := by decide +kernel
theorem dX1_init_12 : decode cX1_init 12 = .ok (.aload_n 0, 1) := by decide +kernel
theorem dX1_init_13 : decode cX1_init 13 = .ok (.bipush 40, 2) := by decide +kernel
theorem dX1_init_15 : decode cX1_init 15 = .ok (.newarray .int, 2) := by decide +kernel
theorem dX1_init_17 : decode cX1_init 17 = .ok (.putfield 15, 3) := by decide +kernel
theorem dX1_init_20 : decode cX1_init 20 = .ok (.aload_n 0, 1) := by decide +kernel
theorem dX1_init_21 : decode cX1_init 21 = .ok (.bipush 40, 2) := by decide +kernel
theorem dX1_init_23 : decode cX1_init 23 = .ok (.newarray .int, 2) := by decide +kernel
theorem dX1_init_25 : decode cX1_init 25 = .ok (.putfield 18, 3) := by decide +kernel
theorem dX1_init_28 : decode cX1_init 28 = .ok (.aload_n 0, 1) := by decide +kernel
theorem dX1_init_29 : decode cX1_init 29 = .ok (.bipush 40, 2) := by decide +kernel
theorem dX1_init_31 : decode cX1_init 31 = .ok (.newarray .int, 2) := by decide +kernel
theorem dX1_init_33 : decode cX1_init 33 = .ok (.putfield 21, 3) := by decide +kernel
theorem dX1_init_36 : decode cX1_init 36 = .ok (.aload_n 0, 1) := by decide +kernel
theorem dX1_init_37 : decode cX1_init 37 = .ok (.bipush 40, 2) := by decide +kernel
theorem dX1_init_39 : decode cX1_init 39 = .ok (.newarray .int, 2) := by decide +kernel
theorem dX1_init_41 : decode cX1_init 41 = .ok (.putfield 24, 3) := by decide +kernel
theorem dX1_init_44 : decode cX1_init 44 = .ok (.aload_n 0, 1) := by decide +kernel
theorem dX1_init_45 : decode cX1_init 45 = .ok (.iload_n 1, 1) := by decide +kernel
theorem dX1_init_46 : decode cX1_init 46 = .ok (.putfield 27, 3) := by decide +kernel
theorem dX1_init_49 : decode cX1_init 49 = .ok (.aload_n 0, 1) := by decide +kernel
theorem dX1_init_50 : decode cX1_init 50 = .ok (.aload_n 2, 1) := by decide +kernel
theorem dX1_init_51 : decode cX1_init 51 = .ok (.putfield 31, 3) := by decide +kernel
theorem dX1_init_54 : decode cX1_init 54 = .ok (.return_, 1) := by decide +kernel
set_option maxRecDepth 20000 in
theorem ggX1_takePieces_X2_isWide : GoodIn wsX1_takePieces wsX2_isWide := goodIn_r _ [8, 9, 10, 11, 7, 12, 13, 14, 15, 16, 17, 18, 19, 20, 21, 22, 23, 24, 25, 26, 27, 28, 29, 30, 31, 40, 41, 42, 43] (by decide +kernel) (by decide +kernel)
set_option maxRecDepth 20000 in
theorem gX1_takePieces_X2_isWide : GoodIn wsX1_takePieces (wsV RX1 40 RX2 yX2_isWide wsX2_isWide) := goodIn_app (goodIn_of _ (by decide +kernel)) ggX1_takePieces_X2_isWide
theorem dX1_takePieces_0 : decode cX1_takePieces 0 = .ok (.iload_n 1, 1) := by decide +kernel
theorem dX1_takePieces_1 : decode cX1_takePieces 1 = .ok (.istore 5, 2) := by decide +kernel
theorem dX1_takePieces_3 : decode cX1_takePieces 3 = .ok (.iload_n 3, 1) := by decide +kernel
theorem dX1_takePieces_4 : decode cX1_takePieces 4 = .ok (.istore 6, 2) := by decide +kernel
theorem dX1_takePieces_6 : decode cX1_takePieces 6 = .ok (.iload 5, 2) := by decide +kernel
theorem dX1_takePieces_8 : decode cX1_takePieces 8 = .ok (.ifCond .le 46, 3) := by decide +kernel
theorem dX1_takePieces_11 : decode cX1_takePieces 11 = .ok (.iload 6, 2) := by decide +kernel
theorem dX1_takePieces_13 : decode cX1_takePieces 13 = .ok (.aload_n 0, 1) := by decide +kernel
theorem dX1_takePieces_14 : decode cX1_takePieces 14 = .ok (.getfield 31, 3) := by decide +kernel
theorem dX1_takePieces_17 : decode cX1_takePieces 17 = .ok (.getfield 35, 3) := by decide +kernel
theorem dX1_takePieces_20 : decode cX1_takePieces 20 = .ok (.if_icmp .ge 34, 3) := by decide +kernel
theorem dX1_takePieces_23 : decode cX1_takePieces 23 = .ok (.aload_n 0, 1) := by decide +kernel
theorem dX1_takePieces_24 : decode cX1_takePieces 24 = .ok (.getfield 31, 3) := by decide +kernel
theorem dX1_takePieces_27 : decode cX1_takePieces 27 = .ok (.iload 6, 2) := by decide +kernel
theorem dX1_takePieces_29 : decode cX1_takePieces 29 = .ok (.invokevirtual 40, 3) := by decide +kernel
theorem dX1_takePieces_32 : decode cX1_takePieces 32 = .ok (.iload_n 2, 1) := by decide +kernel
theorem dX1_takePieces_33 : decode cX1_takePieces 33 = .ok (.if_icmp .ne 15, 3) := by decide +kernel
theorem dX1_takePieces_36 : decode cX1_takePieces 36 = .ok (.aload_n 0, 1) := by decide +kernel
theorem dX1_takePieces_37 : decode cX1_takePieces 37 = .ok (.getfield 9, 3) := by decide +kernel
theorem dX1_takePieces_40 : decode cX1_takePieces 40 = .ok (.iload 6, 2) := by decide +kernel
theorem dX1_takePieces_42 : decode cX1_takePieces 42 = .ok (.iload 4, 2) := by decide +kernel
theorem dX1_takePieces_44 : decode cX1_takePieces 44 = .ok (.iastore, 1) := by decide +kernel
theorem dX1_takePieces_45 : decode cX1_takePieces 45 = .ok (.iinc 5 (-1), 3) := by decide +kernel
theorem dX1_takePieces_48 : decode cX1_takePieces 48 = .ok (.iinc 6 1, 3) := by decide +kernel
theorem dX1_takePieces_51 : decode cX1_takePieces 51 = .ok (.goto (-45), 3) := by decide +kernel
theorem dX1_takePieces_54 : decode cX1_takePieces 54 = .ok (.iload 6, 2) := by decide +kernel
theorem dX1_takePieces_56 : decode cX1_takePieces 56 = .ok (.ireturn, 1) := by decide +kernel
theorem dX1_wholePast_0 : decode cX1_wholePast 0 = .ok (.iconst 0, 1) := by decide +kernel
theorem dX1_wholePast_1 : decode cX1_wholePast 1 = .ok (.istore_n 1, 1) := by decide +kernel
theorem dX1_wholePast_2 : decode cX1_wholePast 2 = .ok (.iconst 0, 1) := by decide +kernel
theorem dX1_wholePast_3 : decode cX1_wholePast 3 = .ok (.istore_n 2, 1) := by decide +kernel
theorem dX1_wholePast_4 : decode cX1_wholePast 4 = .ok (.iload_n 2, 1) := by decide +kernel
theorem dX1_wholePast_5 : decode cX1_wholePast 5 = .ok (.aload_n 0, 1) := by decide +kernel
theorem dX1_wholePast_6 : decode cX1_wholePast 6 = .ok (.getfield 31, 3) := by decide +kernel
theorem dX1_wholePast_9 : decode cX1_wholePast 9 = .ok (.getfield 35, 3) := by decide +kernel
theorem dX1_wholePast_12 : decode cX1_wholePast 12 = .ok (.if_icmp .ge 18, 3) := by decide +kernel
theorem dX1_wholePast_15 : decode cX1_wholePast 15 = .ok (.iload_n 1, 1) := by decide +kernel
theorem dX1_wholePast_16 : decode cX1_wholePast 16 = .ok (.aload_n 0, 1) := by decide +kernel
theorem dX1_wholePast_17 : decode cX1_wholePast 17 = .ok (.getfield 15, 3) := by decide +kernel
theorem dX1_wholePast_20 : decode cX1_wholePast 20 = .ok (.iload_n 2, 1) := by decide +kernel
theorem dX1_wholePast_21 : decode cX1_wholePast 21 = .ok (.iaload, 1) := by decide +kernel
theorem dX1_wholePast_22 : decode cX1_wholePast 22 = .ok (.ior, 1) := by decide +kernel
theorem dX1_wholePast_23 : decode cX1_wholePast 23 = .ok (.istore_n 1, 1) := by decide +kernel
theorem dX1_wholePast_24 : decode cX1_wholePast 24 = .ok (.iinc 2 1, 3) := by decide +kernel
theorem dX1_wholePast_27 : decode cX1_wholePast 27 = .ok (.goto (-23), 3) := by decide +kernel
theorem dX1_wholePast_30 : decode cX1_wholePast 30 = .ok (.iload_n 1, 1) := by decide +kernel
theorem dX1_wholePast_31 : decode cX1_wholePast 31 = .ok (.ireturn, 1) := by decide +kernel
theorem dX1_meet_0 : decode cX1_meet 0 = .ok (.iconst 0, 1) := by decide +kernel
theorem dX1_meet_1 : decode cX1_meet 1 = .ok (.istore_n 2, 1) := by decide +kernel
theorem dX1_meet_2 : decode cX1_meet 2 = .ok (.iload_n 2, 1) := by decide +kernel
theorem dX1_meet_3 : decode cX1_meet 3 = .ok (.aload_n 0, 1) := by decide +kernel
theorem dX1_meet_4 : decode cX1_meet 4 = .ok (.getfield 31, 3) := by decide +kernel
theorem dX1_meet_7 : decode cX1_meet 7 = .ok (.getfield 35, 3) := by decide +kernel
theorem dX1_meet_10 : decode cX1_meet 10 = .ok (.if_icmp .ge 21, 3) := by decide +kernel
theorem dX1_meet_13 : decode cX1_meet 13 = .ok (.aload_n 0, 1) := by decide +kernel
theorem dX1_meet_14 : decode cX1_meet 14 = .ok (.getfield 15, 3) := by decide +kernel
theorem dX1_meet_17 : decode cX1_meet 17 = .ok (.iload_n 2, 1) := by decide +kernel
theorem dX1_meet_18 : decode cX1_meet 18 = .ok (.dup2, 1) := by decide +kernel
theorem dX1_meet_19 : decode cX1_meet 19 = .ok (.iaload, 1) := by decide +kernel
theorem dX1_meet_20 : decode cX1_meet 20 = .ok (.iconst 1, 1) := by decide +kernel
theorem dX1_meet_21 : decode cX1_meet 21 = .ok (.iload_n 1, 1) := by decide +kernel
theorem dX1_meet_22 : decode cX1_meet 22 = .ok (.ishl, 1) := by decide +kernel
theorem dX1_meet_23 : decode cX1_meet 23 = .ok (.ior, 1) := by decide +kernel
theorem dX1_meet_24 : decode cX1_meet 24 = .ok (.iastore, 1) := by decide +kernel
theorem dX1_meet_25 : decode cX1_meet 25 = .ok (.iinc 2 1, 3) := by decide +kernel
theorem dX1_meet_28 : decode cX1_meet 28 = .ok (.goto (-26), 3) := by decide +kernel
theorem dX1_meet_31 : decode cX1_meet 31 = .ok (.return_, 1) := by decide +kernel
theorem dX1_addEntry_0 : decode cX1_addEntry 0 = .ok (.aload_n 0, 1) := by decide +kernel
theorem dX1_addEntry_1 : decode cX1_addEntry 1 = .ok (.getfield 44, 3) := by decide +kernel
theorem dX1_addEntry_4 : decode cX1_addEntry 4 = .ok (.bipush 40, 2) := by decide +kernel
theorem dX1_addEntry_6 : decode cX1_addEntry 6 = .ok (.if_icmp .ge 43, 3) := by decide +kernel
theorem dX1_addEntry_9 : decode cX1_addEntry 9 = .ok (.aload_n 0, 1) := by decide +kernel
theorem dX1_addEntry_10 : decode cX1_addEntry 10 = .ok (.getfield 18, 3) := by decide +kernel
theorem dX1_addEntry_13 : decode cX1_addEntry 13 = .ok (.aload_n 0, 1) := by decide +kernel
theorem dX1_addEntry_14 : decode cX1_addEntry 14 = .ok (.getfield 44, 3) := by decide +kernel
theorem dX1_addEntry_17 : decode cX1_addEntry 17 = .ok (.iload_n 1, 1) := by decide +kernel
theorem dX1_addEntry_18 : decode cX1_addEntry 18 = .ok (.iastore, 1) := by decide +kernel
theorem dX1_addEntry_19 : decode cX1_addEntry 19 = .ok (.aload_n 0, 1) := by decide +kernel
theorem dX1_addEntry_20 : decode cX1_addEntry 20 = .ok (.getfield 21, 3) := by decide +kernel
theorem dX1_addEntry_23 : decode cX1_addEntry 23 = .ok (.aload_n 0, 1) := by decide +kernel
theorem dX1_addEntry_24 : decode cX1_addEntry 24 = .ok (.getfield 44, 3) := by decide +kernel
theorem dX1_addEntry_27 : decode cX1_addEntry 27 = .ok (.iload_n 2, 1) := by decide +kernel
theorem dX1_addEntry_28 : decode cX1_addEntry 28 = .ok (.iastore, 1) := by decide +kernel
theorem dX1_addEntry_29 : decode cX1_addEntry 29 = .ok (.aload_n 0, 1) := by decide +kernel
theorem dX1_addEntry_30 : decode cX1_addEntry 30 = .ok (.getfield 24, 3) := by decide +kernel
theorem dX1_addEntry_33 : decode cX1_addEntry 33 = .ok (.aload_n 0, 1) := by decide +kernel
theorem dX1_addEntry_34 : decode cX1_addEntry 34 = .ok (.getfield 44, 3) := by decide +kernel
theorem dX1_addEntry_37 : decode cX1_addEntry 37 = .ok (.iload_n 3, 1) := by decide +kernel
theorem dX1_addEntry_38 : decode cX1_addEntry 38 = .ok (.iastore, 1) := by decide +kernel
theorem dX1_addEntry_39 : decode cX1_addEntry 39 = .ok (.aload_n 0, 1) := by decide +kernel
theorem dX1_addEntry_40 : decode cX1_addEntry 40 = .ok (.dup, 1) := by decide +kernel
theorem dX1_addEntry_41 : decode cX1_addEntry 41 = .ok (.getfield 44, 3) := by decide +kernel
theorem dX1_addEntry_44 : decode cX1_addEntry 44 = .ok (.iconst 1, 1) := by decide +kernel
theorem dX1_addEntry_45 : decode cX1_addEntry 45 = .ok (.iadd, 1) := by decide +kernel
theorem dX1_addEntry_46 : decode cX1_addEntry 46 = .ok (.putfield 44, 3) := by decide +kernel
theorem dX1_addEntry_49 : decode cX1_addEntry 49 = .ok (.return_, 1) := by decide +kernel
theorem dX1_heldOn_0 : decode cX1_heldOn 0 = .ok (.iconst (-1), 1) := by decide +kernel
theorem dX1_heldOn_1 : decode cX1_heldOn 1 = .ok (.istore_n 3, 1) := by decide +kernel
theorem dX1_heldOn_2 : decode cX1_heldOn 2 = .ok (.iconst (-1), 1) := by decide +kernel
theorem dX1_heldOn_3 : decode cX1_heldOn 3 = .ok (.istore 4, 2) := by decide +kernel
theorem dX1_heldOn_5 : decode cX1_heldOn 5 = .ok (.iconst 0, 1) := by decide +kernel
theorem dX1_heldOn_6 : decode cX1_heldOn 6 = .ok (.istore 5, 2) := by decide +kernel
theorem dX1_heldOn_8 : decode cX1_heldOn 8 = .ok (.iload 5, 2) := by decide +kernel
theorem dX1_heldOn_10 : decode cX1_heldOn 10 = .ok (.aload_n 0, 1) := by decide +kernel
theorem dX1_heldOn_11 : decode cX1_heldOn 11 = .ok (.getfield 44, 3) := by decide +kernel
theorem dX1_heldOn_14 : decode cX1_heldOn 14 = .ok (.if_icmp .ge 59, 3) := by decide +kernel
theorem dX1_heldOn_17 : decode cX1_heldOn 17 = .ok (.aload_n 0, 1) := by decide +kernel
theorem dX1_heldOn_18 : decode cX1_heldOn 18 = .ok (.getfield 21, 3) := by decide +kernel
theorem dX1_heldOn_21 : decode cX1_heldOn 21 = .ok (.iload 5, 2) := by decide +kernel
theorem dX1_heldOn_23 : decode cX1_heldOn 23 = .ok (.iaload, 1) := by decide +kernel
theorem dX1_heldOn_24 : decode cX1_heldOn 24 = .ok (.iload_n 2, 1) := by decide +kernel
theorem dX1_heldOn_25 : decode cX1_heldOn 25 = .ok (.if_icmp .gt 42, 3) := by decide +kernel
theorem dX1_heldOn_28 : decode cX1_heldOn 28 = .ok (.aload_n 0, 1) := by decide +kernel
theorem dX1_heldOn_29 : decode cX1_heldOn 29 = .ok (.getfield 18, 3) := by decide +kernel
theorem dX1_heldOn_32 : decode cX1_heldOn 32 = .ok (.iload 5, 2) := by decide +kernel
theorem dX1_heldOn_34 : decode cX1_heldOn 34 = .ok (.iaload, 1) := by decide +kernel
theorem dX1_heldOn_35 : decode cX1_heldOn 35 = .ok (.iload_n 1, 1) := by decide +kernel
theorem dX1_heldOn_36 : decode cX1_heldOn 36 = .ok (.if_icmp .gt 31, 3) := by decide +kernel
theorem dX1_heldOn_39 : decode cX1_heldOn 39 = .ok (.aload_n 0, 1) := by decide +kernel
theorem dX1_heldOn_40 : decode cX1_heldOn 40 = .ok (.getfield 18, 3) := by decide +kernel
theorem dX1_heldOn_43 : decode cX1_heldOn 43 = .ok (.iload 5, 2) := by decide +kernel
theorem dX1_heldOn_45 : decode cX1_heldOn 45 = .ok (.iaload, 1) := by decide +kernel
theorem dX1_heldOn_46 : decode cX1_heldOn 46 = .ok (.iload_n 3, 1) := by decide +kernel
theorem dX1_heldOn_47 : decode cX1_heldOn 47 = .ok (.if_icmp .lt 20, 3) := by decide +kernel
theorem dX1_heldOn_50 : decode cX1_heldOn 50 = .ok (.aload_n 0, 1) := by decide +kernel
theorem dX1_heldOn_51 : decode cX1_heldOn 51 = .ok (.getfield 18, 3) := by decide +kernel
theorem dX1_heldOn_54 : decode cX1_heldOn 54 = .ok (.iload 5, 2) := by decide +kernel
theorem dX1_heldOn_56 : decode cX1_heldOn 56 = .ok (.iaload, 1) := by decide +kernel
theorem dX1_heldOn_57 : decode cX1_heldOn 57 = .ok (.istore_n 3, 1) := by decide +kernel
theorem dX1_heldOn_58 : decode cX1_heldOn 58 = .ok (.aload_n 0, 1) := by decide +kernel
theorem dX1_heldOn_59 : decode cX1_heldOn 59 = .ok (.getfield 24, 3) := by decide +kernel
theorem dX1_heldOn_62 : decode cX1_heldOn 62 = .ok (.iload 5, 2) := by decide +kernel
theorem dX1_heldOn_64 : decode cX1_heldOn 64 = .ok (.iaload, 1) := by decide +kernel
theorem dX1_heldOn_65 : decode cX1_heldOn 65 = .ok (.istore 4, 2) := by decide +kernel
theorem dX1_heldOn_67 : decode cX1_heldOn 67 = .ok (.iinc 5 1, 3) := by decide +kernel
theorem dX1_heldOn_70 : decode cX1_heldOn 70 = .ok (.goto (-62), 3) := by decide +kernel
theorem dX1_heldOn_73 : decode cX1_heldOn 73 = .ok (.iload 4, 2) := by decide +kernel
theorem dX1_heldOn_75 : decode cX1_heldOn 75 = .ok (.ireturn, 1) := by decide +kernel
theorem dX1_nextEntryDay_0 : decode cX1_nextEntryDay 0 = .ok (.ldc 47, 2) := by decide +kernel
theorem dX1_nextEntryDay_2 : decode cX1_nextEntryDay 2 = .ok (.istore_n 2, 1) := by decide +kernel
theorem dX1_nextEntryDay_3 : decode cX1_nextEntryDay 3 = .ok (.iconst 0, 1) := by decide +kernel
theorem dX1_nextEntryDay_4 : decode cX1_nextEntryDay 4 = .ok (.istore_n 3, 1) := by decide +kernel
theorem dX1_nextEntryDay_5 : decode cX1_nextEntryDay 5 = .ok (.iload_n 3, 1) := by decide +kernel
theorem dX1_nextEntryDay_6 : decode cX1_nextEntryDay 6 = .ok (.aload_n 0, 1) := by decide +kernel
theorem dX1_nextEntryDay_7 : decode cX1_nextEntryDay 7 = .ok (.getfield 44, 3) := by decide +kernel
theorem dX1_nextEntryDay_10 : decode cX1_nextEntryDay 10 = .ok (.if_icmp .ge 30, 3) := by decide +kernel
theorem dX1_nextEntryDay_13 : decode cX1_nextEntryDay 13 = .ok (.aload_n 0, 1) := by decide +kernel
theorem dX1_nextEntryDay_14 : decode cX1_nextEntryDay 14 = .ok (.getfield 18, 3) := by decide +kernel
theorem dX1_nextEntryDay_17 : decode cX1_nextEntryDay 17 = .ok (.iload_n 3, 1) := by decide +kernel
theorem dX1_nextEntryDay_18 : decode cX1_nextEntryDay 18 = .ok (.iaload, 1) := by decide +kernel
theorem dX1_nextEntryDay_19 : decode cX1_nextEntryDay 19 = .ok (.iload_n 1, 1) := by decide +kernel
theorem dX1_nextEntryDay_20 : decode cX1_nextEntryDay 20 = .ok (.if_icmp .le 14, 3) := by decide +kernel
theorem dX1_nextEntryDay_23 : decode cX1_nextEntryDay 23 = .ok (.iload_n 2, 1) := by decide +kernel
theorem dX1_nextEntryDay_24 : decode cX1_nextEntryDay 24 = .ok (.aload_n 0, 1) := by decide +kernel
theorem dX1_nextEntryDay_25 : decode cX1_nextEntryDay 25 = .ok (.getfield 18, 3) := by decide +kernel
theorem dX1_nextEntryDay_28 : decode cX1_nextEntryDay 28 = .ok (.iload_n 3, 1) := by decide +kernel
theorem dX1_nextEntryDay_29 : decode cX1_nextEntryDay 29 = .ok (.iaload, 1) := by decide +kernel
theorem dX1_nextEntryDay_30 : decode cX1_nextEntryDay 30 = .ok (.invokestatic 48, 3) := by decide +kernel
theorem dX1_nextEntryDay_33 : decode cX1_nextEntryDay 33 = .ok (.istore_n 2, 1) := by decide +kernel
theorem dX1_nextEntryDay_34 : decode cX1_nextEntryDay 34 = .ok (.iinc 3 1, 3) := by decide +kernel
theorem dX1_nextEntryDay_37 : decode cX1_nextEntryDay 37 = .ok (.goto (-32), 3) := by decide +kernel
theorem dX1_nextEntryDay_40 : decode cX1_nextEntryDay 40 = .ok (.iload_n 2, 1) := by decide +kernel
theorem dX1_nextEntryDay_41 : decode cX1_nextEntryDay 41 = .ok (.ireturn, 1) := by decide +kernel
theorem dX2_init_0 : decode cX2_init 0 = .ok (.aload_n 0, 1) := by decide +kernel
theorem dX2_init_1 : decode cX2_init 1 = .ok (.invokespecial 3, 3) := by decide +kernel
theorem dX2_init_4 : decode cX2_init 4 = .ok (.aload_n 0, 1) := by decide +kernel
theorem dX2_init_5 : decode cX2_init 5 = .ok (.iload_n 1, 1) := by decide +kernel
theorem dX2_init_6 : decode cX2_init 6 = .ok (.putfield 9, 3) := by decide +kernel
theorem dX2_init_9 : decode cX2_init 9 = .ok (.aload_n 0, 1) := by decide +kernel
theorem dX2_init_10 : decode cX2_init 10 = .ok (.iload_n 2, 1) := by decide +kernel
theorem dX2_init_11 : decode cX2_init 11 = .ok (.putfield 15, 3) := by decide +kernel
theorem dX2_init_14 : decode cX2_init 14 = .ok (.aload_n 0, 1) := by decide +kernel
theorem dX2_init_15 : decode cX2_init 15 = .ok (.iload_n 3, 1) := by decide +kernel
theorem dX2_init_16 : decode cX2_init 16 = .ok (.putfield 18, 3) := by decide +kernel
theorem dX2_init_19 : decode cX2_init 19 = .ok (.aload_n 0, 1) := by decide +kernel
theorem dX2_init_20 : decode cX2_init 20 = .ok (.iload 4, 2) := by decide +kernel
theorem dX2_init_22 : decode cX2_init 22 = .ok (.putfield 21, 3) := by decide +kernel
theorem dX2_init_25 : decode cX2_init 25 = .ok (.return_, 1) := by decide +kernel
set_option maxRecDepth 20000 in
theorem ggX2_girthAt_X4_parted : GoodIn wsX2_girthAt wsX4_parted := goodIn_r _ [6] (by decide +kernel) (by decide +kernel)
set_option maxRecDepth 20000 in
theorem gX2_girthAt_X4_parted_n24 : GoodIn wsX2_girthAt (wsX4_parted) := ggX2_girthAt_X4_parted
theorem dX2_girthAt_0 : decode cX2_girthAt 0 = .ok (.iconst 2, 1) := by decide +kernel
theorem dX2_girthAt_1 : decode cX2_girthAt 1 = .ok (.iload_n 1, 1) := by decide +kernel
theorem dX2_girthAt_2 : decode cX2_girthAt 2 = .ok (.imul, 1) := by decide +kernel
theorem dX2_girthAt_3 : decode cX2_girthAt 3 = .ok (.aload_n 0, 1) := by decide +kernel
theorem dX2_girthAt_4 : decode cX2_girthAt 4 = .ok (.getfield 9, 3) := by decide +kernel
theorem dX2_girthAt_7 : decode cX2_girthAt 7 = .ok (.isub, 1) := by decide +kernel
theorem dX2_girthAt_8 : decode cX2_girthAt 8 = .ok (.istore_n 2, 1) := by decide +kernel
theorem dX2_girthAt_9 : decode cX2_girthAt 9 = .ok (.aload_n 0, 1) := by decide +kernel
theorem dX2_girthAt_10 : decode cX2_girthAt 10 = .ok (.getfield 15, 3) := by decide +kernel
theorem dX2_girthAt_13 : decode cX2_girthAt 13 = .ok (.aload_n 0, 1) := by decide +kernel
theorem dX2_girthAt_14 : decode cX2_girthAt 14 = .ok (.getfield 15, 3) := by decide +kernel
theorem dX2_girthAt_17 : decode cX2_girthAt 17 = .ok (.aload_n 0, 1) := by decide +kernel
theorem dX2_girthAt_18 : decode cX2_girthAt 18 = .ok (.getfield 18, 3) := by decide +kernel
theorem dX2_girthAt_21 : decode cX2_girthAt 21 = .ok (.isub, 1) := by decide +kernel
theorem dX2_girthAt_22 : decode cX2_girthAt 22 = .ok (.iload_n 2, 1) := by decide +kernel
theorem dX2_girthAt_23 : decode cX2_girthAt 23 = .ok (.imul, 1) := by decide +kernel
theorem dX2_girthAt_24 : decode cX2_girthAt 24 = .ok (.iload_n 2, 1) := by decide +kernel
theorem dX2_girthAt_25 : decode cX2_girthAt 25 = .ok (.imul, 1) := by decide +kernel
theorem dX2_girthAt_26 : decode cX2_girthAt 26 = .ok (.aload_n 0, 1) := by decide +kernel
theorem dX2_girthAt_27 : decode cX2_girthAt 27 = .ok (.getfield 9, 3) := by decide +kernel
theorem dX2_girthAt_30 : decode cX2_girthAt 30 = .ok (.aload_n 0, 1) := by decide +kernel
theorem dX2_girthAt_31 : decode cX2_girthAt 31 = .ok (.getfield 9, 3) := by decide +kernel
theorem dX2_girthAt_34 : decode cX2_girthAt 34 = .ok (.imul, 1) := by decide +kernel
theorem dX2_girthAt_35 : decode cX2_girthAt 35 = .ok (.invokestatic 24, 3) := by decide +kernel
theorem dX2_girthAt_38 : decode cX2_girthAt 38 = .ok (.isub, 1) := by decide +kernel
theorem dX2_girthAt_39 : decode cX2_girthAt 39 = .ok (.ireturn, 1) := by decide +kernel
set_option maxRecDepth 20000 in
theorem ggX2_widthAt_X2_girthAt : GoodIn wsX2_widthAt wsX2_girthAt := goodIn_r _ [6, 7, 8, 9, 10, 11, 12, 13, 14, 15, 16] (by decide +kernel) (by decide +kernel)
set_option maxRecDepth 20000 in
theorem gX2_widthAt_X2_girthAt : GoodIn wsX2_widthAt (wsV RX2 28 RX2 yX2_girthAt wsX2_girthAt) := goodIn_app (goodIn_of _ (by decide +kernel)) ggX2_widthAt_X2_girthAt
set_option maxRecDepth 20000 in
theorem ggX2_widthAt_X4_parted : GoodIn wsX2_widthAt wsX4_parted := goodIn_r _ [12] (by decide +kernel) (by decide +kernel)
set_option maxRecDepth 20000 in
theorem gX2_widthAt_X4_parted_n24 : GoodIn wsX2_widthAt (wsX4_parted) := ggX2_widthAt_X4_parted
theorem dX2_widthAt_0 : decode cX2_widthAt 0 = .ok (.aload_n 0, 1) := by decide +kernel
theorem dX2_widthAt_1 : decode cX2_widthAt 1 = .ok (.iload_n 2, 1) := by decide +kernel
theorem dX2_widthAt_2 : decode cX2_widthAt 2 = .ok (.invokevirtual 28, 3) := by decide +kernel
theorem dX2_widthAt_5 : decode cX2_widthAt 5 = .ok (.istore_n 3, 1) := by decide +kernel
theorem dX2_widthAt_6 : decode cX2_widthAt 6 = .ok (.iload_n 3, 1) := by decide +kernel
theorem dX2_widthAt_7 : decode cX2_widthAt 7 = .ok (.iload_n 1, 1) := by decide +kernel
theorem dX2_widthAt_8 : decode cX2_widthAt 8 = .ok (.iconst 1, 1) := by decide +kernel
theorem dX2_widthAt_9 : decode cX2_widthAt 9 = .ok (.iadd, 1) := by decide +kernel
theorem dX2_widthAt_10 : decode cX2_widthAt 10 = .ok (.imul, 1) := by decide +kernel
theorem dX2_widthAt_11 : decode cX2_widthAt 11 = .ok (.aload_n 0, 1) := by decide +kernel
theorem dX2_widthAt_12 : decode cX2_widthAt 12 = .ok (.getfield 21, 3) := by decide +kernel
theorem dX2_widthAt_15 : decode cX2_widthAt 15 = .ok (.invokestatic 24, 3) := by decide +kernel
theorem dX2_widthAt_18 : decode cX2_widthAt 18 = .ok (.iload_n 3, 1) := by decide +kernel
theorem dX2_widthAt_19 : decode cX2_widthAt 19 = .ok (.iload_n 1, 1) := by decide +kernel
theorem dX2_widthAt_20 : decode cX2_widthAt 20 = .ok (.imul, 1) := by decide +kernel
theorem dX2_widthAt_21 : decode cX2_widthAt 21 = .ok (.aload_n 0, 1) := by decide +kernel
theorem dX2_widthAt_22 : decode cX2_widthAt 22 = .ok (.getfield 21, 3) := by decide +kernel
theorem dX2_widthAt_25 : decode cX2_widthAt 25 = .ok (.invokestatic 24, 3) := by decide +kernel
theorem dX2_widthAt_28 : decode cX2_widthAt 28 = .ok (.isub, 1) := by decide +kernel
theorem dX2_widthAt_29 : decode cX2_widthAt 29 = .ok (.ireturn, 1) := by decide +kernel
set_option maxRecDepth 20000 in
theorem ggX2_bilgeWidth_X2_widthAt : GoodIn wsX2_bilgeWidth wsX2_widthAt := goodIn_r _ [6, 7, 8, 9, 10, 5, 11, 1, 12, 13, 14, 15, 16, 17, 18, 19, 20] (by decide +kernel) (by decide +kernel)
set_option maxRecDepth 20000 in
theorem gX2_bilgeWidth_X2_widthAt : GoodIn wsX2_bilgeWidth (wsV RX2 32 RX2 yX2_widthAt wsX2_widthAt) := goodIn_app (goodIn_of _ (by decide +kernel)) ggX2_bilgeWidth_X2_widthAt
theorem dX2_bilgeWidth_0 : decode cX2_bilgeWidth 0 = .ok (.aload_n 0, 1) := by decide +kernel
theorem dX2_bilgeWidth_1 : decode cX2_bilgeWidth 1 = .ok (.iload_n 1, 1) := by decide +kernel
theorem dX2_bilgeWidth_2 : decode cX2_bilgeWidth 2 = .ok (.aload_n 0, 1) := by decide +kernel
theorem dX2_bilgeWidth_3 : decode cX2_bilgeWidth 3 = .ok (.getfield 9, 3) := by decide +kernel
theorem dX2_bilgeWidth_6 : decode cX2_bilgeWidth 6 = .ok (.iconst 2, 1) := by decide +kernel
theorem dX2_bilgeWidth_7 : decode cX2_bilgeWidth 7 = .ok (.idiv, 1) := by decide +kernel
theorem dX2_bilgeWidth_8 : decode cX2_bilgeWidth 8 = .ok (.invokevirtual 32, 3) := by decide +kernel
theorem dX2_bilgeWidth_11 : decode cX2_bilgeWidth 11 = .ok (.ireturn, 1) := by decide +kernel
set_option maxRecDepth 20000 in
theorem ggX2_contentTo_X2_squareAt : GoodIn wsX2_contentTo wsX2_squareAt := goodIn_r _ [5, 6, 7, 8, 4, 9, 10, 11, 12, 13, 14, 15, 21, 22, 23, 24] (by decide +kernel) (by decide +kernel)
set_option maxRecDepth 20000 in
theorem gX2_contentTo_X2_squareAt : GoodIn wsX2_contentTo (wsV RX2 35 RX2 yX2_squareAt wsX2_squareAt) := goodIn_app (goodIn_of _ (by decide +kernel)) ggX2_contentTo_X2_squareAt
set_option maxRecDepth 20000 in
theorem ggX2_contentTo_X2_content : GoodIn wsX2_contentTo wsX2_content := goodIn_r _ [18, 19, 20] (by decide +kernel) (by decide +kernel)
set_option maxRecDepth 20000 in
theorem gX2_contentTo_X2_content : GoodIn wsX2_contentTo (va_wsS RX2 39 yX2_content wsX2_content) := goodIn_app (goodIn_of _ (by decide +kernel)) ggX2_contentTo_X2_content
theorem dX2_contentTo_0 : decode cX2_contentTo 0 = .ok (.lconst 0, 1) := by decide +kernel
theorem dX2_contentTo_1 : decode cX2_contentTo 1 = .ok (.lstore_n 2, 1) := by decide +kernel
theorem dX2_contentTo_2 : decode cX2_contentTo 2 = .ok (.iconst 0, 1) := by decide +kernel
theorem dX2_contentTo_3 : decode cX2_contentTo 3 = .ok (.istore 4, 2) := by decide +kernel
theorem dX2_contentTo_5 : decode cX2_contentTo 5 = .ok (.iload 4, 2) := by decide +kernel
theorem dX2_contentTo_7 : decode cX2_contentTo 7 = .ok (.iload_n 1, 1) := by decide +kernel
theorem dX2_contentTo_8 : decode cX2_contentTo 8 = .ok (.if_icmp .ge 18, 3) := by decide +kernel
theorem dX2_contentTo_11 : decode cX2_contentTo 11 = .ok (.lload_n 2, 1) := by decide +kernel
theorem dX2_contentTo_12 : decode cX2_contentTo 12 = .ok (.aload_n 0, 1) := by decide +kernel
theorem dX2_contentTo_13 : decode cX2_contentTo 13 = .ok (.iload 4, 2) := by decide +kernel
theorem dX2_contentTo_15 : decode cX2_contentTo 15 = .ok (.invokevirtual 35, 3) := by decide +kernel
theorem dX2_contentTo_18 : decode cX2_contentTo 18 = .ok (.ladd, 1) := by decide +kernel
theorem dX2_contentTo_19 : decode cX2_contentTo 19 = .ok (.lstore_n 2, 1) := by decide +kernel
theorem dX2_contentTo_20 : decode cX2_contentTo 20 = .ok (.iinc 4 1, 3) := by decide +kernel
theorem dX2_contentTo_23 : decode cX2_contentTo 23 = .ok (.goto (-18), 3) := by decide +kernel
theorem dX2_contentTo_26 : decode cX2_contentTo 26 = .ok (.lload_n 2, 1) := by decide +kernel
theorem dX2_contentTo_27 : decode cX2_contentTo 27 = .ok (.invokestatic 39, 3) := by decide +kernel
theorem dX2_contentTo_30 : decode cX2_contentTo 30 = .ok (.ireturn, 1) := by decide +kernel
set_option maxRecDepth 20000 in
theorem ggX2_leastLevel_X2_content : GoodIn wsX2_leastLevel wsX2_content := goodIn_r _ [5, 6, 7] (by decide +kernel) (by decide +kernel)
set_option maxRecDepth 20000 in
theorem gX2_leastLevel_X2_content : GoodIn wsX2_leastLevel (va_wsS RX2 39 yX2_content wsX2_content) := goodIn_app (goodIn_of _ (by decide +kernel)) ggX2_leastLevel_X2_content
set_option maxRecDepth 20000 in
theorem ggX2_leastLevel_X2_squareAt : GoodIn wsX2_leastLevel wsX2_squareAt := goodIn_r _ [11, 12, 13, 14, 4, 15, 1, 16, 17, 18, 19, 20, 21, 22, 23, 24] (by decide +kernel) (by decide +kernel)
set_option maxRecDepth 20000 in
theorem gX2_leastLevel_X2_squareAt : GoodIn wsX2_leastLevel (wsV RX2 35 RX2 yX2_squareAt wsX2_squareAt) := goodIn_app (goodIn_of _ (by decide +kernel)) ggX2_leastLevel_X2_squareAt
theorem dX2_leastLevel_0 : decode cX2_leastLevel 0 = .ok (.lconst 0, 1) := by decide +kernel
theorem dX2_leastLevel_1 : decode cX2_leastLevel 1 = .ok (.lstore_n 2, 1) := by decide +kernel
theorem dX2_leastLevel_2 : decode cX2_leastLevel 2 = .ok (.iconst 0, 1) := by decide +kernel
theorem dX2_leastLevel_3 : decode cX2_leastLevel 3 = .ok (.istore 4, 2) := by decide +kernel
theorem dX2_leastLevel_5 : decode cX2_leastLevel 5 = .ok (.iload 4, 2) := by decide +kernel
theorem dX2_leastLevel_7 : decode cX2_leastLevel 7 = .ok (.aload_n 0, 1) := by decide +kernel
theorem dX2_leastLevel_8 : decode cX2_leastLevel 8 = .ok (.getfield 9, 3) := by decide +kernel
theorem dX2_leastLevel_11 : decode cX2_leastLevel 11 = .ok (.if_icmp .gt 29, 3) := by decide +kernel
theorem dX2_leastLevel_14 : decode cX2_leastLevel 14 = .ok (.lload_n 2, 1) := by decide +kernel
theorem dX2_leastLevel_15 : decode cX2_leastLevel 15 = .ok (.invokestatic 39, 3) := by decide +kernel
theorem dX2_leastLevel_18 : decode cX2_leastLevel 18 = .ok (.iload_n 1, 1) := by decide +kernel
theorem dX2_leastLevel_19 : decode cX2_leastLevel 19 = .ok (.if_icmp .lt 6, 3) := by decide +kernel
theorem dX2_leastLevel_22 : decode cX2_leastLevel 22 = .ok (.iload 4, 2) := by decide +kernel
theorem dX2_leastLevel_24 : decode cX2_leastLevel 24 = .ok (.ireturn, 1) := by decide +kernel
theorem dX2_leastLevel_25 : decode cX2_leastLevel 25 = .ok (.lload_n 2, 1) := by decide +kernel
theorem dX2_leastLevel_26 : decode cX2_leastLevel 26 = .ok (.aload_n 0, 1) := by decide +kernel
theorem dX2_leastLevel_27 : decode cX2_leastLevel 27 = .ok (.iload 4, 2) := by decide +kernel
theorem dX2_leastLevel_29 : decode cX2_leastLevel 29 = .ok (.invokevirtual 35, 3) := by decide +kernel
theorem dX2_leastLevel_32 : decode cX2_leastLevel 32 = .ok (.ladd, 1) := by decide +kernel
theorem dX2_leastLevel_33 : decode cX2_leastLevel 33 = .ok (.lstore_n 2, 1) := by decide +kernel
theorem dX2_leastLevel_34 : decode cX2_leastLevel 34 = .ok (.iinc 4 1, 3) := by decide +kernel
theorem dX2_leastLevel_37 : decode cX2_leastLevel 37 = .ok (.goto (-32), 3) := by decide +kernel
theorem dX2_leastLevel_40 : decode cX2_leastLevel 40 = .ok (.iconst (-1), 1) := by decide +kernel
theorem dX2_leastLevel_41 : decode cX2_leastLevel 41 = .ok (.ireturn, 1) := by decide +kernel
set_option maxRecDepth 20000 in
theorem ggX2_squareAt_X2_girthAt : GoodIn wsX2_squareAt wsX2_girthAt := goodIn_r _ [5, 6, 7, 8, 9, 10, 11, 12, 13, 14, 15] (by decide +kernel) (by decide +kernel)
set_option maxRecDepth 20000 in
theorem gX2_squareAt_X2_girthAt : GoodIn wsX2_squareAt (wsV RX2 28 RX2 yX2_girthAt wsX2_girthAt) := goodIn_app (goodIn_of _ (by decide +kernel)) ggX2_squareAt_X2_girthAt
theorem dX2_squareAt_0 : decode cX2_squareAt 0 = .ok (.aload_n 0, 1) := by decide +kernel
theorem dX2_squareAt_1 : decode cX2_squareAt 1 = .ok (.iload_n 1, 1) := by decide +kernel
theorem dX2_squareAt_2 : decode cX2_squareAt 2 = .ok (.invokevirtual 28, 3) := by decide +kernel
theorem dX2_squareAt_5 : decode cX2_squareAt 5 = .ok (.i2l, 1) := by decide +kernel
theorem dX2_squareAt_6 : decode cX2_squareAt 6 = .ok (.lstore_n 2, 1) := by decide +kernel
theorem dX2_squareAt_7 : decode cX2_squareAt 7 = .ok (.lload_n 2, 1) := by decide +kernel
theorem dX2_squareAt_8 : decode cX2_squareAt 8 = .ok (.lload_n 2, 1) := by decide +kernel
theorem dX2_squareAt_9 : decode cX2_squareAt 9 = .ok (.lmul, 1) := by decide +kernel
theorem dX2_squareAt_10 : decode cX2_squareAt 10 = .ok (.lreturn, 1) := by decide +kernel
theorem dX2_content_0 : decode cX2_content 0 = .ok (.lload_n 0, 1) := by decide +kernel
theorem dX2_content_1 : decode cX2_content 1 = .ok (.ldc2_w 43, 3) := by decide +kernel
theorem dX2_content_4 : decode cX2_content 4 = .ok (.lmul, 1) := by decide +kernel
theorem dX2_content_5 : decode cX2_content 5 = .ok (.ldc2_w 45, 3) := by decide +kernel
theorem dX2_content_8 : decode cX2_content 8 = .ok (.ldiv, 1) := by decide +kernel
theorem dX2_content_9 : decode cX2_content 9 = .ok (.l2i, 1) := by decide +kernel
theorem dX2_content_10 : decode cX2_content 10 = .ok (.ireturn, 1) := by decide +kernel
set_option maxRecDepth 20000 in
theorem ggX2_narrowPiece_X4_parted : GoodIn wsX2_narrowPiece wsX4_parted := goodIn_r _ [5] (by decide +kernel) (by decide +kernel)
set_option maxRecDepth 20000 in
theorem gX2_narrowPiece_X4_parted_n24 : GoodIn wsX2_narrowPiece (wsX4_parted) := ggX2_narrowPiece_X4_parted
theorem dX2_narrowPiece_0 : decode cX2_narrowPiece 0 = .ok (.aload_n 0, 1) := by decide +kernel
theorem dX2_narrowPiece_1 : decode cX2_narrowPiece 1 = .ok (.getfield 15, 3) := by decide +kernel
theorem dX2_narrowPiece_4 : decode cX2_narrowPiece 4 = .ok (.aload_n 0, 1) := by decide +kernel
theorem dX2_narrowPiece_5 : decode cX2_narrowPiece 5 = .ok (.getfield 21, 3) := by decide +kernel
theorem dX2_narrowPiece_8 : decode cX2_narrowPiece 8 = .ok (.invokestatic 24, 3) := by decide +kernel
theorem dX2_narrowPiece_11 : decode cX2_narrowPiece 11 = .ok (.iconst 2, 1) := by decide +kernel
theorem dX2_narrowPiece_12 : decode cX2_narrowPiece 12 = .ok (.iadd, 1) := by decide +kernel
theorem dX2_narrowPiece_13 : decode cX2_narrowPiece 13 = .ok (.ireturn, 1) := by decide +kernel
set_option maxRecDepth 20000 in
theorem ggX2_wides_X4_parted : GoodIn wsX2_wides wsX4_parted := goodIn_r _ [5] (by decide +kernel) (by decide +kernel)
set_option maxRecDepth 20000 in
theorem gX2_wides_X4_parted_n24 : GoodIn wsX2_wides (wsX4_parted) := ggX2_wides_X4_parted
theorem dX2_wides_0 : decode cX2_wides 0 = .ok (.aload_n 0, 1) := by decide +kernel
theorem dX2_wides_1 : decode cX2_wides 1 = .ok (.getfield 15, 3) := by decide +kernel
theorem dX2_wides_4 : decode cX2_wides 4 = .ok (.aload_n 0, 1) := by decide +kernel
theorem dX2_wides_5 : decode cX2_wides 5 = .ok (.getfield 15, 3) := by decide +kernel
theorem dX2_wides_8 : decode cX2_wides 8 = .ok (.aload_n 0, 1) := by decide +kernel
theorem dX2_wides_9 : decode cX2_wides 9 = .ok (.getfield 21, 3) := by decide +kernel
theorem dX2_wides_12 : decode cX2_wides 12 = .ok (.invokestatic 24, 3) := by decide +kernel
theorem dX2_wides_15 : decode cX2_wides 15 = .ok (.aload_n 0, 1) := by decide +kernel
theorem dX2_wides_16 : decode cX2_wides 16 = .ok (.getfield 21, 3) := by decide +kernel
theorem dX2_wides_19 : decode cX2_wides 19 = .ok (.imul, 1) := by decide +kernel
theorem dX2_wides_20 : decode cX2_wides 20 = .ok (.isub, 1) := by decide +kernel
theorem dX2_wides_21 : decode cX2_wides 21 = .ok (.ireturn, 1) := by decide +kernel
set_option maxRecDepth 20000 in
theorem ggX2_narrows_X2_wides : GoodIn wsX2_narrows wsX2_wides := goodIn_r _ [6, 7, 1, 8, 9, 10, 11, 12, 13, 14] (by decide +kernel) (by decide +kernel)
set_option maxRecDepth 20000 in
theorem gX2_narrows_X2_wides : GoodIn wsX2_narrows (wsV RX2 47 RX2 yX2_wides wsX2_wides) := goodIn_app (goodIn_of _ (by decide +kernel)) ggX2_narrows_X2_wides
theorem dX2_narrows_0 : decode cX2_narrows 0 = .ok (.aload_n 0, 1) := by decide +kernel
theorem dX2_narrows_1 : decode cX2_narrows 1 = .ok (.getfield 21, 3) := by decide +kernel
theorem dX2_narrows_4 : decode cX2_narrows 4 = .ok (.aload_n 0, 1) := by decide +kernel
theorem dX2_narrows_5 : decode cX2_narrows 5 = .ok (.invokevirtual 47, 3) := by decide +kernel
theorem dX2_narrows_8 : decode cX2_narrows 8 = .ok (.isub, 1) := by decide +kernel
theorem dX2_narrows_9 : decode cX2_narrows 9 = .ok (.ireturn, 1) := by decide +kernel
set_option maxRecDepth 20000 in
theorem ggX2_isWide_X2_bilgeWidth : GoodIn wsX2_isWide wsX2_bilgeWidth := goodIn_r _ [5, 6, 7, 8, 9, 4, 10, 11, 12, 13, 14, 15, 16, 17, 18, 19, 20, 25, 26, 27, 28] (by decide +kernel) (by decide +kernel)
set_option maxRecDepth 20000 in
theorem gX2_isWide_X2_bilgeWidth : GoodIn wsX2_isWide (wsV RX2 51 RX2 yX2_bilgeWidth wsX2_bilgeWidth) := goodIn_app (goodIn_of _ (by decide +kernel)) ggX2_isWide_X2_bilgeWidth
set_option maxRecDepth 20000 in
theorem ggX2_isWide_X2_narrowPiece : GoodIn wsX2_isWide wsX2_narrowPiece := goodIn_r _ [24, 16, 11, 18, 19, 20, 25, 26, 27, 28] (by decide +kernel) (by decide +kernel)
set_option maxRecDepth 20000 in
theorem gX2_isWide_X2_narrowPiece : GoodIn wsX2_isWide (wsV RX2 54 RX2 yX2_narrowPiece wsX2_narrowPiece) := goodIn_app (goodIn_of _ (by decide +kernel)) ggX2_isWide_X2_narrowPiece
theorem dX2_isWide_0 : decode cX2_isWide 0 = .ok (.aload_n 0, 1) := by decide +kernel
theorem dX2_isWide_1 : decode cX2_isWide 1 = .ok (.iload_n 1, 1) := by decide +kernel
theorem dX2_isWide_2 : decode cX2_isWide 2 = .ok (.invokevirtual 51, 3) := by decide +kernel
theorem dX2_isWide_5 : decode cX2_isWide 5 = .ok (.iconst 2, 1) := by decide +kernel
theorem dX2_isWide_6 : decode cX2_isWide 6 = .ok (.iadd, 1) := by decide +kernel
theorem dX2_isWide_7 : decode cX2_isWide 7 = .ok (.aload_n 0, 1) := by decide +kernel
theorem dX2_isWide_8 : decode cX2_isWide 8 = .ok (.invokevirtual 54, 3) := by decide +kernel
theorem dX2_isWide_11 : decode cX2_isWide 11 = .ok (.if_icmp .le 7, 3) := by decide +kernel
theorem dX2_isWide_14 : decode cX2_isWide 14 = .ok (.iconst 1, 1) := by decide +kernel
theorem dX2_isWide_15 : decode cX2_isWide 15 = .ok (.goto 4, 3) := by decide +kernel
theorem dX2_isWide_18 : decode cX2_isWide 18 = .ok (.iconst 0, 1) := by decide +kernel
theorem dX2_isWide_19 : decode cX2_isWide 19 = .ok (.ireturn, 1) := by decide +kernel
theorem dJ6_bitCount_0f7a4_0 : decode cJ6_bitCount_0f7a4 0 = .ok (.iload_n 0, 1) := by decide +kernel
theorem dJ6_bitCount_0f7a4_1 : decode cJ6_bitCount_0f7a4 1 = .ok (.iload_n 0, 1) := by decide +kernel
theorem dJ6_bitCount_0f7a4_2 : decode cJ6_bitCount_0f7a4 2 = .ok (.iconst 1, 1) := by decide +kernel
theorem dJ6_bitCount_0f7a4_3 : decode cJ6_bitCount_0f7a4 3 = .ok (.iushr, 1) := by decide +kernel
theorem dJ6_bitCount_0f7a4_4 : decode cJ6_bitCount_0f7a4 4 = .ok (.ldc_w 265, 3) := by decide +kernel
theorem dJ6_bitCount_0f7a4_7 : decode cJ6_bitCount_0f7a4 7 = .ok (.iand, 1) := by decide +kernel
theorem dJ6_bitCount_0f7a4_8 : decode cJ6_bitCount_0f7a4 8 = .ok (.isub, 1) := by decide +kernel
theorem dJ6_bitCount_0f7a4_9 : decode cJ6_bitCount_0f7a4 9 = .ok (.istore_n 0, 1) := by decide +kernel
theorem dJ6_bitCount_0f7a4_10 : decode cJ6_bitCount_0f7a4 10 = .ok (.iload_n 0, 1) := by decide +kernel
theorem dJ6_bitCount_0f7a4_11 : decode cJ6_bitCount_0f7a4 11 = .ok (.ldc_w 266, 3) := by decide +kernel
theorem dJ6_bitCount_0f7a4_14 : decode cJ6_bitCount_0f7a4 14 = .ok (.iand, 1) := by decide +kernel
theorem dJ6_bitCount_0f7a4_15 : decode cJ6_bitCount_0f7a4 15 = .ok (.iload_n 0, 1) := by decide +kernel
theorem dJ6_bitCount_0f7a4_16 : decode cJ6_bitCount_0f7a4 16 = .ok (.iconst 2, 1) := by decide +kernel
theorem dJ6_bitCount_0f7a4_17 : decode cJ6_bitCount_0f7a4 17 = .ok (.iushr, 1) := by decide +kernel
theorem dJ6_bitCount_0f7a4_18 : decode cJ6_bitCount_0f7a4 18 = .ok (.ldc_w 266, 3) := by decide +kernel
theorem dJ6_bitCount_0f7a4_21 : decode cJ6_bitCount_0f7a4 21 = .ok (.iand, 1) := by decide +kernel
theorem dJ6_bitCount_0f7a4_22 : decode cJ6_bitCount_0f7a4 22 = .ok (.iadd, 1) := by decide +kernel
theorem dJ6_bitCount_0f7a4_23 : decode cJ6_bitCount_0f7a4 23 = .ok (.istore_n 0, 1) := by decide +kernel
theorem dJ6_bitCount_0f7a4_24 : decode cJ6_bitCount_0f7a4 24 = .ok (.iload_n 0, 1) := by decide +kernel
theorem dJ6_bitCount_0f7a4_25 : decode cJ6_bitCount_0f7a4 25 = .ok (.iload_n 0, 1) := by decide +kernel
theorem dJ6_bitCount_0f7a4_26 : decode cJ6_bitCount_0f7a4 26 = .ok (.iconst 4, 1) := by decide +kernel
theorem dJ6_bitCount_0f7a4_27 : decode cJ6_bitCount_0f7a4 27 = .ok (.iushr, 1) := by decide +kernel
theorem dJ6_bitCount_0f7a4_28 : decode cJ6_bitCount_0f7a4 28 = .ok (.iadd, 1) := by decide +kernel
theorem dJ6_bitCount_0f7a4_29 : decode cJ6_bitCount_0f7a4 29 = .ok (.ldc_w 267, 3) := by decide +kernel
theorem dJ6_bitCount_0f7a4_32 : decode cJ6_bitCount_0f7a4 32 = .ok (.iand, 1) := by decide +kernel
theorem dJ6_bitCount_0f7a4_33 : decode cJ6_bitCount_0f7a4 33 = .ok (.istore_n 0, 1) := by decide +kernel
theorem dJ6_bitCount_0f7a4_34 : decode cJ6_bitCount_0f7a4 34 = .ok (.iload_n 0, 1) := by decide +kernel
theorem dJ6_bitCount_0f7a4_35 : decode cJ6_bitCount_0f7a4 35 = .ok (.iload_n 0, 1) := by decide +kernel
theorem dJ6_bitCount_0f7a4_36 : decode cJ6_bitCount_0f7a4 36 = .ok (.bipush 8, 2) := by decide +kernel
theorem dJ6_bitCount_0f7a4_38 : decode cJ6_bitCount_0f7a4 38 = .ok (.iushr, 1) := by decide +kernel
theorem dJ6_bitCount_0f7a4_39 : decode cJ6_bitCount_0f7a4 39 = .ok (.iadd, 1) := by decide +kernel
theorem dJ6_bitCount_0f7a4_40 : decode cJ6_bitCount_0f7a4 40 = .ok (.istore_n 0, 1) := by decide +kernel
theorem dJ6_bitCount_0f7a4_41 : decode cJ6_bitCount_0f7a4 41 = .ok (.iload_n 0, 1) := by decide +kernel
theorem dJ6_bitCount_0f7a4_42 : decode cJ6_bitCount_0f7a4 42 = .ok (.iload_n 0, 1) := by decide +kernel
theorem dJ6_bitCount_0f7a4_43 : decode cJ6_bitCount_0f7a4 43 = .ok (.bipush 16, 2) := by decide +kernel
theorem dJ6_bitCount_0f7a4_45 : decode cJ6_bitCount_0f7a4 45 = .ok (.iushr, 1) := by decide +kernel
theorem dJ6_bitCount_0f7a4_46 : decode cJ6_bitCount_0f7a4 46 = .ok (.iadd, 1) := by decide +kernel
theorem dJ6_bitCount_0f7a4_47 : decode cJ6_bitCount_0f7a4 47 = .ok (.istore_n 0, 1) := by decide +kernel
theorem dJ6_bitCount_0f7a4_48 : decode cJ6_bitCount_0f7a4 48 = .ok (.iload_n 0, 1) := by decide +kernel
theorem dJ6_bitCount_0f7a4_49 : decode cJ6_bitCount_0f7a4 49 = .ok (.bipush 63, 2) := by decide +kernel
theorem dJ6_bitCount_0f7a4_51 : decode cJ6_bitCount_0f7a4 51 = .ok (.iand, 1) := by decide +kernel
theorem dJ6_bitCount_0f7a4_52 : decode cJ6_bitCount_0f7a4 52 = .ok (.ireturn, 1) := by decide +kernel
theorem dJ9_max_7cf53_0 : decode cJ9_max_7cf53 0 = .ok (.iload_n 0, 1) := by decide +kernel
theorem dJ9_max_7cf53_1 : decode cJ9_max_7cf53 1 = .ok (.iload_n 1, 1) := by decide +kernel
theorem dJ9_max_7cf53_2 : decode cJ9_max_7cf53 2 = .ok (.if_icmp .lt 7, 3) := by decide +kernel
theorem dJ9_max_7cf53_5 : decode cJ9_max_7cf53 5 = .ok (.iload_n 0, 1) := by decide +kernel
theorem dJ9_max_7cf53_6 : decode cJ9_max_7cf53 6 = .ok (.goto 4, 3) := by decide +kernel
theorem dJ9_max_7cf53_9 : decode cJ9_max_7cf53 9 = .ok (.iload_n 1, 1) := by decide +kernel
theorem dJ9_max_7cf53_10 : decode cJ9_max_7cf53 10 = .ok (.ireturn, 1) := by decide +kernel
theorem dJ9_min_7cf53_0 : decode cJ9_min_7cf53 0 = .ok (.iload_n 0, 1) := by decide +kernel
theorem dJ9_min_7cf53_1 : decode cJ9_min_7cf53 1 = .ok (.iload_n 1, 1) := by decide +kernel
theorem dJ9_min_7cf53_2 : decode cJ9_min_7cf53 2 = .ok (.if_icmp .gt 7, 3) := by decide +kernel
theorem dJ9_min_7cf53_5 : decode cJ9_min_7cf53 5 = .ok (.iload_n 0, 1) := by decide +kernel
theorem dJ9_min_7cf53_6 : decode cJ9_min_7cf53 6 = .ok (.goto 4, 3) := by decide +kernel
theorem dJ9_min_7cf53_9 : decode cJ9_min_7cf53 9 = .ok (.iload_n 1, 1) := by decide +kernel
theorem dJ9_min_7cf53_10 : decode cJ9_min_7cf53 10 = .ok (.ireturn, 1) := by decide +kernel
end
section
theorem dX3_init_0 : decode cX3_init 0 = .ok (.aload_n 0, 1) := by decide +kernel
theorem dX3_init_1 : decode cX3_init 1 = .ok (.invokespecial 3, 3) := by decide +kernel
theorem dX3_init_4 : decode cX3_init 4 = .ok (.aload_n 0, 1) := by decide +kernel
theorem dX3_init_5 : decode cX3_init 5 = .ok (.bipush 8, 2) := by decide +kernel
theorem dX3_init_7 : decode cX3_init 7 = .ok (.anewarray 9, 3) := by decide +kernel
theorem dX3_init_10 : decode cX3_init 10 = .ok (.putfield 11, 3) := by decide +kernel
theorem dX3_init_13 : decode cX3_init 13 = .ok (.aload_n 0, 1) := by decide +kernel
theorem dX3_init_14 : decode cX3_init 14 = .ok (.bipush 32, 2) := by decide +kernel
theorem dX3_init_16 : decode cX3_init 16 = .ok (.newarray .int, 2) := by decide +kernel
theorem dX3_init_18 : decode cX3_init 18 = .ok (.putfield 17, 3) := by decide +kernel
theorem dX3_init_21 : decode cX3_init 21 = .ok (.aload_n 0, 1) := by decide +kernel
theorem dX3_init_22 : decode cX3_init 22 = .ok (.bipush 32, 2) := by decide +kernel
theorem dX3_init_24 : decode cX3_init 24 = .ok (.newarray .int, 2) := by decide +kernel
theorem dX3_init_26 : decode cX3_init 26 = .ok (.putfield 21, 3) := by decide +kernel
theorem dX3_init_29 : decode cX3_init 29 = .ok (.aload_n 0, 1) := by decide +kernel
theorem dX3_init_30 : decode cX3_init 30 = .ok (.bipush 32, 2) := by decide +kernel
theorem dX3_init_32 : decode cX3_init 32 = .ok (.newarray .int, 2) := by decide +kernel
theorem dX3_init_34 : decode cX3_init 34 = .ok (.putfield 24, 3) := by decide +kernel
theorem dX3_init_37 : decode cX3_init 37 = .ok (.aload_n 0, 1) := by decide +kernel
theorem dX3_init_38 : decode cX3_init 38 = .ok (.bipush 32, 2) := by decide +kernel
theorem dX3_init_40 : decode cX3_init 40 = .ok (.newarray .int, 2) := by decide +kernel
theorem dX3_init_42 : decode cX3_init 42 = .ok (.putfield 27, 3) := by decide +kernel
theorem dX3_init_45 : decode cX3_init 45 = .ok (.aload_n 0, 1) := by decide +kernel
theorem dX3_init_46 : decode cX3_init 46 = .ok (.bipush 32, 2) := by decide +kernel
theorem dX3_init_48 : decode cX3_init 48 = .ok (.newarray .int, 2) := by decide +kernel
theorem dX3_init_50 : decode cX3_init 50 = .ok (.putfield 30, 3) := by decide +kernel
theorem dX3_init_53 : decode cX3_init 53 = .ok (.aload_n 0, 1) := by decide +kernel
theorem dX3_init_54 : decode cX3_init 54 = .ok (.bipush 32, 2) := by decide +kernel
theorem dX3_init_56 : decode cX3_init 56 = .ok (.newarray .int, 2) := by decide +kernel
theorem dX3_init_58 : decode cX3_init 58 = .ok (.putfield 33, 3) := by decide +kernel
theorem dX3_init_61 : decode cX3_init 61 = .ok (.aload_n 0, 1) := by decide +kernel
theorem dX3_init_62 : decode cX3_init 62 = .ok (.bipush 32, 2) := by decide +kernel
theorem dX3_init_64 : decode cX3_init 64 = .ok (.newarray .int, 2) := by decide +kernel
theorem dX3_init_66 : decode cX3_init 66 = .ok (.putfield 36, 3) := by decide +kernel
theorem dX3_init_69 : decode cX3_init 69 = .ok (.aload_n 0, 1) := by decide +kernel
theorem dX3_init_70 : decode cX3_init 70 = .ok (.bipush 32, 2) := by decide +kernel
theorem dX3_init_72 : decode cX3_init 72 = .ok (.newarray .boolean, 2) := by decide +kernel
theorem dX3_init_74 : decode cX3_init 74 = .ok (.putfield 39, 3) := by decide +kernel
theorem dX3_init_77 : decode cX3_init 77 = .ok (.aload_n 0, 1) := by decide +kernel
theorem dX3_init_78 : decode cX3_init 78 = .ok (.bipush 32, 2) := by decide +kernel
theorem dX3_init_80 : decode cX3_init 80 = .ok (.newarray .int, 2) := by decide +kernel
theorem dX3_init_82 : decode cX3_init 82 = .ok (.putfield 43, 3) := by decide +kernel
theorem dX3_init_85 : decode cX3_init 85 = .ok (.aload_n 0, 1) := by decide +kernel
theorem dX3_init_86 : decode cX3_init 86 = .ok (.bipush 32, 2) := by decide +kernel
theorem dX3_init_88 : decode cX3_init 88 = .ok (.newarray .int, 2) := by decide +kernel
theorem dX3_init_90 : decode cX3_init 90 = .ok (.putfield 46, 3) := by decide +kernel
theorem dX3_init_93 : decode cX3_init 93 = .ok (.return_, 1) := by decide +kernel
theorem dX3_prepare_0 : decode cX3_prepare 0 = .ok (.aload_n 0, 1) := by decide +kernel
theorem dX3_prepare_1 : decode cX3_prepare 1 = .ok (.iconst 0, 1) := by decide +kernel
theorem dX3_prepare_2 : decode cX3_prepare 2 = .ok (.putfield 49, 3) := by decide +kernel
theorem dX3_prepare_5 : decode cX3_prepare 5 = .ok (.aload_n 0, 1) := by decide +kernel
theorem dX3_prepare_6 : decode cX3_prepare 6 = .ok (.iconst 0, 1) := by decide +kernel
theorem dX3_prepare_7 : decode cX3_prepare 7 = .ok (.putfield 53, 3) := by decide +kernel
theorem dX3_prepare_10 : decode cX3_prepare 10 = .ok (.aload_n 0, 1) := by decide +kernel
theorem dX3_prepare_11 : decode cX3_prepare 11 = .ok (.iload_n 1, 1) := by decide +kernel
theorem dX3_prepare_12 : decode cX3_prepare 12 = .ok (.putfield 56, 3) := by decide +kernel
theorem dX3_prepare_15 : decode cX3_prepare 15 = .ok (.return_, 1) := by decide +kernel
set_option maxRecDepth 20000 in
theorem ggX3_lay_X3_layPart : GoodIn wsX3_lay wsX3_layPart := goodIn_r _ [10, 11, 12, 13, 1, 14, 15, 16, 17, 18, 19, 20, 21, 22, 23, 24, 9, 25, 26, 27, 28, 29, 30, 31, 32, 33, 34, 35, 36, 37, 38, 39, 40] (by decide +kernel) (by decide +kernel)
set_option maxRecDepth 20000 in
theorem gX3_lay_X3_layPart : GoodIn wsX3_lay (wsV RX3 66 RX3 yX3_layPart wsX3_layPart) := goodIn_app (goodIn_of _ (by decide +kernel)) ggX3_lay_X3_layPart
theorem dX3_lay_0 : decode cX3_lay 0 = .ok (.aload_n 0, 1) := by decide +kernel
theorem dX3_lay_1 : decode cX3_lay 1 = .ok (.getfield 49, 3) := by decide +kernel
theorem dX3_lay_4 : decode cX3_lay 4 = .ok (.bipush 8, 2) := by decide +kernel
theorem dX3_lay_6 : decode cX3_lay 6 = .ok (.if_icmp .lt 4, 3) := by decide +kernel
theorem dX3_lay_9 : decode cX3_lay 9 = .ok (.return_, 1) := by decide +kernel
theorem dX3_lay_10 : decode cX3_lay 10 = .ok (.iconst 0, 1) := by decide +kernel
theorem dX3_lay_11 : decode cX3_lay 11 = .ok (.istore_n 3, 1) := by decide +kernel
theorem dX3_lay_12 : decode cX3_lay 12 = .ok (.iload_n 3, 1) := by decide +kernel
theorem dX3_lay_13 : decode cX3_lay 13 = .ok (.aload_n 1, 1) := by decide +kernel
theorem dX3_lay_14 : decode cX3_lay 14 = .ok (.getfield 59, 3) := by decide +kernel
theorem dX3_lay_17 : decode cX3_lay 17 = .ok (.if_icmp .ge 27, 3) := by decide +kernel
theorem dX3_lay_20 : decode cX3_lay 20 = .ok (.aload_n 0, 1) := by decide +kernel
theorem dX3_lay_21 : decode cX3_lay 21 = .ok (.aload_n 1, 1) := by decide +kernel
theorem dX3_lay_22 : decode cX3_lay 22 = .ok (.getfield 60, 3) := by decide +kernel
theorem dX3_lay_25 : decode cX3_lay 25 = .ok (.iload_n 3, 1) := by decide +kernel
theorem dX3_lay_26 : decode cX3_lay 26 = .ok (.iaload, 1) := by decide +kernel
theorem dX3_lay_27 : decode cX3_lay 27 = .ok (.aload_n 1, 1) := by decide +kernel
theorem dX3_lay_28 : decode cX3_lay 28 = .ok (.getfield 63, 3) := by decide +kernel
theorem dX3_lay_31 : decode cX3_lay 31 = .ok (.iload_n 3, 1) := by decide +kernel
theorem dX3_lay_32 : decode cX3_lay 32 = .ok (.iaload, 1) := by decide +kernel
theorem dX3_lay_33 : decode cX3_lay 33 = .ok (.isub, 1) := by decide +kernel
theorem dX3_lay_34 : decode cX3_lay 34 = .ok (.iload_n 2, 1) := by decide +kernel
theorem dX3_lay_35 : decode cX3_lay 35 = .ok (.invokevirtual 66, 3) := by decide +kernel
theorem dX3_lay_38 : decode cX3_lay 38 = .ok (.iinc 3 1, 3) := by decide +kernel
theorem dX3_lay_41 : decode cX3_lay 41 = .ok (.goto (-29), 3) := by decide +kernel
theorem dX3_lay_44 : decode cX3_lay 44 = .ok (.aload_n 0, 1) := by decide +kernel
theorem dX3_lay_45 : decode cX3_lay 45 = .ok (.getfield 11, 3) := by decide +kernel
theorem dX3_lay_48 : decode cX3_lay 48 = .ok (.aload_n 0, 1) := by decide +kernel
theorem dX3_lay_49 : decode cX3_lay 49 = .ok (.getfield 49, 3) := by decide +kernel
theorem dX3_lay_52 : decode cX3_lay 52 = .ok (.aload_n 1, 1) := by decide +kernel
theorem dX3_lay_53 : decode cX3_lay 53 = .ok (.aastore, 1) := by decide +kernel
theorem dX3_lay_54 : decode cX3_lay 54 = .ok (.aload_n 0, 1) := by decide +kernel
theorem dX3_lay_55 : decode cX3_lay 55 = .ok (.dup, 1) := by decide +kernel
theorem dX3_lay_56 : decode cX3_lay 56 = .ok (.getfield 49, 3) := by decide +kernel
theorem dX3_lay_59 : decode cX3_lay 59 = .ok (.iconst 1, 1) := by decide +kernel
theorem dX3_lay_60 : decode cX3_lay 60 = .ok (.iadd, 1) := by decide +kernel
theorem dX3_lay_61 : decode cX3_lay 61 = .ok (.putfield 49, 3) := by decide +kernel
theorem dX3_lay_64 : decode cX3_lay 64 = .ok (.return_, 1) := by decide +kernel
set_option maxRecDepth 20000 in
theorem ggX3_layPart_X4_parted : GoodIn wsX3_layPart wsX4_parted := goodIn_r _ [12] (by decide +kernel) (by decide +kernel)
set_option maxRecDepth 20000 in
theorem gX3_layPart_X4_parted_n70 : GoodIn wsX3_layPart (wsX4_parted) := ggX3_layPart_X4_parted
set_option maxRecDepth 20000 in
theorem ggX3_layPart_X3_sortIn : GoodIn wsX3_layPart wsX3_sortIn := goodIn_r _ [17, 9, 18, 19, 20, 21, 22, 23, 24, 25, 26, 27, 28, 29, 30, 31, 32] (by decide +kernel) (by decide +kernel)
set_option maxRecDepth 20000 in
theorem gX3_layPart_X3_sortIn : GoodIn wsX3_layPart (wsV RX3 74 RX3 yX3_sortIn wsX3_sortIn) := goodIn_app (goodIn_of _ (by decide +kernel)) ggX3_layPart_X3_sortIn
theorem dX3_layPart_0 : decode cX3_layPart 0 = .ok (.aload_n 0, 1) := by decide +kernel
theorem dX3_layPart_1 : decode cX3_layPart 1 = .ok (.getfield 53, 3) := by decide +kernel
theorem dX3_layPart_4 : decode cX3_layPart 4 = .ok (.bipush 32, 2) := by decide +kernel
theorem dX3_layPart_6 : decode cX3_layPart 6 = .ok (.if_icmp .lt 4, 3) := by decide +kernel
theorem dX3_layPart_9 : decode cX3_layPart 9 = .ok (.return_, 1) := by decide +kernel
theorem dX3_layPart_10 : decode cX3_layPart 10 = .ok (.iload_n 1, 1) := by decide +kernel
theorem dX3_layPart_11 : decode cX3_layPart 11 = .ok (.aload_n 0, 1) := by decide +kernel
theorem dX3_layPart_12 : decode cX3_layPart 12 = .ok (.getfield 56, 3) := by decide +kernel
theorem dX3_layPart_15 : decode cX3_layPart 15 = .ok (.iconst 1, 1) := by decide +kernel
theorem dX3_layPart_16 : decode cX3_layPart 16 = .ok (.iadd, 1) := by decide +kernel
theorem dX3_layPart_17 : decode cX3_layPart 17 = .ok (.invokestatic 70, 3) := by decide +kernel
theorem dX3_layPart_20 : decode cX3_layPart 20 = .ok (.istore_n 3, 1) := by decide +kernel
theorem dX3_layPart_21 : decode cX3_layPart 21 = .ok (.aload_n 0, 1) := by decide +kernel
theorem dX3_layPart_22 : decode cX3_layPart 22 = .ok (.getfield 17, 3) := by decide +kernel
theorem dX3_layPart_25 : decode cX3_layPart 25 = .ok (.aload_n 0, 1) := by decide +kernel
theorem dX3_layPart_26 : decode cX3_layPart 26 = .ok (.getfield 53, 3) := by decide +kernel
theorem dX3_layPart_29 : decode cX3_layPart 29 = .ok (.aload_n 0, 1) := by decide +kernel
theorem dX3_layPart_30 : decode cX3_layPart 30 = .ok (.getfield 49, 3) := by decide +kernel
theorem dX3_layPart_33 : decode cX3_layPart 33 = .ok (.iastore, 1) := by decide +kernel
theorem dX3_layPart_34 : decode cX3_layPart 34 = .ok (.aload_n 0, 1) := by decide +kernel
theorem dX3_layPart_35 : decode cX3_layPart 35 = .ok (.getfield 21, 3) := by decide +kernel
theorem dX3_layPart_38 : decode cX3_layPart 38 = .ok (.aload_n 0, 1) := by decide +kernel
theorem dX3_layPart_39 : decode cX3_layPart 39 = .ok (.getfield 53, 3) := by decide +kernel
theorem dX3_layPart_42 : decode cX3_layPart 42 = .ok (.iload_n 2, 1) := by decide +kernel
theorem dX3_layPart_43 : decode cX3_layPart 43 = .ok (.iastore, 1) := by decide +kernel
theorem dX3_layPart_44 : decode cX3_layPart 44 = .ok (.aload_n 0, 1) := by decide +kernel
theorem dX3_layPart_45 : decode cX3_layPart 45 = .ok (.getfield 24, 3) := by decide +kernel
theorem dX3_layPart_48 : decode cX3_layPart 48 = .ok (.aload_n 0, 1) := by decide +kernel
theorem dX3_layPart_49 : decode cX3_layPart 49 = .ok (.getfield 53, 3) := by decide +kernel
theorem dX3_layPart_52 : decode cX3_layPart 52 = .ok (.iload_n 1, 1) := by decide +kernel
theorem dX3_layPart_53 : decode cX3_layPart 53 = .ok (.iastore, 1) := by decide +kernel
theorem dX3_layPart_54 : decode cX3_layPart 54 = .ok (.aload_n 0, 1) := by decide +kernel
theorem dX3_layPart_55 : decode cX3_layPart 55 = .ok (.getfield 27, 3) := by decide +kernel
theorem dX3_layPart_58 : decode cX3_layPart 58 = .ok (.aload_n 0, 1) := by decide +kernel
theorem dX3_layPart_59 : decode cX3_layPart 59 = .ok (.getfield 53, 3) := by decide +kernel
theorem dX3_layPart_62 : decode cX3_layPart 62 = .ok (.iload_n 3, 1) := by decide +kernel
theorem dX3_layPart_63 : decode cX3_layPart 63 = .ok (.iastore, 1) := by decide +kernel
theorem dX3_layPart_64 : decode cX3_layPart 64 = .ok (.aload_n 0, 1) := by decide +kernel
theorem dX3_layPart_65 : decode cX3_layPart 65 = .ok (.getfield 30, 3) := by decide +kernel
theorem dX3_layPart_68 : decode cX3_layPart 68 = .ok (.aload_n 0, 1) := by decide +kernel
theorem dX3_layPart_69 : decode cX3_layPart 69 = .ok (.getfield 53, 3) := by decide +kernel
theorem dX3_layPart_72 : decode cX3_layPart 72 = .ok (.iload_n 1, 1) := by decide +kernel
theorem dX3_layPart_73 : decode cX3_layPart 73 = .ok (.aload_n 0, 1) := by decide +kernel
theorem dX3_layPart_74 : decode cX3_layPart 74 = .ok (.getfield 56, 3) := by decide +kernel
theorem dX3_layPart_77 : decode cX3_layPart 77 = .ok (.invokestatic 70, 3) := by decide +kernel
theorem dX3_layPart_80 : decode cX3_layPart 80 = .ok (.iload_n 3, 1) := by decide +kernel
theorem dX3_layPart_81 : decode cX3_layPart 81 = .ok (.isub, 1) := by decide +kernel
theorem dX3_layPart_82 : decode cX3_layPart 82 = .ok (.iastore, 1) := by decide +kernel
theorem dX3_layPart_83 : decode cX3_layPart 83 = .ok (.aload_n 0, 1) := by decide +kernel
theorem dX3_layPart_84 : decode cX3_layPart 84 = .ok (.getfield 33, 3) := by decide +kernel
theorem dX3_layPart_87 : decode cX3_layPart 87 = .ok (.aload_n 0, 1) := by decide +kernel
theorem dX3_layPart_88 : decode cX3_layPart 88 = .ok (.getfield 53, 3) := by decide +kernel
theorem dX3_layPart_91 : decode cX3_layPart 91 = .ok (.aload_n 0, 1) := by decide +kernel
theorem dX3_layPart_92 : decode cX3_layPart 92 = .ok (.getfield 56, 3) := by decide +kernel
theorem dX3_layPart_95 : decode cX3_layPart 95 = .ok (.iload_n 1, 1) := by decide +kernel
theorem dX3_layPart_96 : decode cX3_layPart 96 = .ok (.iload_n 3, 1) := by decide +kernel
theorem dX3_layPart_97 : decode cX3_layPart 97 = .ok (.aload_n 0, 1) := by decide +kernel
theorem dX3_layPart_98 : decode cX3_layPart 98 = .ok (.getfield 56, 3) := by decide +kernel
theorem dX3_layPart_101 : decode cX3_layPart 101 = .ok (.iconst 1, 1) := by decide +kernel
theorem dX3_layPart_102 : decode cX3_layPart 102 = .ok (.iadd, 1) := by decide +kernel
theorem dX3_layPart_103 : decode cX3_layPart 103 = .ok (.imul, 1) := by decide +kernel
theorem dX3_layPart_104 : decode cX3_layPart 104 = .ok (.isub, 1) := by decide +kernel
theorem dX3_layPart_105 : decode cX3_layPart 105 = .ok (.isub, 1) := by decide +kernel
theorem dX3_layPart_106 : decode cX3_layPart 106 = .ok (.iastore, 1) := by decide +kernel
theorem dX3_layPart_107 : decode cX3_layPart 107 = .ok (.aload_n 0, 1) := by decide +kernel
theorem dX3_layPart_108 : decode cX3_layPart 108 = .ok (.aload_n 0, 1) := by decide +kernel
theorem dX3_layPart_109 : decode cX3_layPart 109 = .ok (.getfield 53, 3) := by decide +kernel
theorem dX3_layPart_112 : decode cX3_layPart 112 = .ok (.invokevirtual 74, 3) := by decide +kernel
theorem dX3_layPart_115 : decode cX3_layPart 115 = .ok (.aload_n 0, 1) := by decide +kernel
theorem dX3_layPart_116 : decode cX3_layPart 116 = .ok (.dup, 1) := by decide +kernel
theorem dX3_layPart_117 : decode cX3_layPart 117 = .ok (.getfield 53, 3) := by decide +kernel
theorem dX3_layPart_120 : decode cX3_layPart 120 = .ok (.iconst 1, 1) := by decide +kernel
theorem dX3_layPart_121 : decode cX3_layPart 121 = .ok (.iadd, 1) := by decide +kernel
theorem dX3_layPart_122 : decode cX3_layPart 122 = .ok (.putfield 53, 3) := by decide +kernel
theorem dX3_layPart_125 : decode cX3_layPart 125 = .ok (.return_, 1) := by decide +kernel
theorem dX3_sortIn_0 : decode cX3_sortIn 0 = .ok (.iload_n 1, 1) := by decide +kernel
theorem dX3_sortIn_1 : decode cX3_sortIn 1 = .ok (.istore_n 2, 1) := by decide +kernel
theorem dX3_sortIn_2 : decode cX3_sortIn 2 = .ok (.iload_n 2, 1) := by decide +kernel
theorem dX3_sortIn_3 : decode cX3_sortIn 3 = .ok (.ifCond .le 45, 3) := by decide +kernel
theorem dX3_sortIn_6 : decode cX3_sortIn 6 = .ok (.aload_n 0, 1) := by decide +kernel
theorem dX3_sortIn_7 : decode cX3_sortIn 7 = .ok (.getfield 33, 3) := by decide +kernel
theorem dX3_sortIn_10 : decode cX3_sortIn 10 = .ok (.aload_n 0, 1) := by decide +kernel
theorem dX3_sortIn_11 : decode cX3_sortIn 11 = .ok (.getfield 36, 3) := by decide +kernel
theorem dX3_sortIn_14 : decode cX3_sortIn 14 = .ok (.iload_n 2, 1) := by decide +kernel
theorem dX3_sortIn_15 : decode cX3_sortIn 15 = .ok (.iconst 1, 1) := by decide +kernel
theorem dX3_sortIn_16 : decode cX3_sortIn 16 = .ok (.isub, 1) := by decide +kernel
theorem dX3_sortIn_17 : decode cX3_sortIn 17 = .ok (.iaload, 1) := by decide +kernel
theorem dX3_sortIn_18 : decode cX3_sortIn 18 = .ok (.iaload, 1) := by decide +kernel
theorem dX3_sortIn_19 : decode cX3_sortIn 19 = .ok (.aload_n 0, 1) := by decide +kernel
theorem dX3_sortIn_20 : decode cX3_sortIn 20 = .ok (.getfield 33, 3) := by decide +kernel
theorem dX3_sortIn_23 : decode cX3_sortIn 23 = .ok (.iload_n 1, 1) := by decide +kernel
theorem dX3_sortIn_24 : decode cX3_sortIn 24 = .ok (.iaload, 1) := by decide +kernel
theorem dX3_sortIn_25 : decode cX3_sortIn 25 = .ok (.if_icmp .le 23, 3) := by decide +kernel
theorem dX3_sortIn_28 : decode cX3_sortIn 28 = .ok (.aload_n 0, 1) := by decide +kernel
theorem dX3_sortIn_29 : decode cX3_sortIn 29 = .ok (.getfield 36, 3) := by decide +kernel
theorem dX3_sortIn_32 : decode cX3_sortIn 32 = .ok (.iload_n 2, 1) := by decide +kernel
theorem dX3_sortIn_33 : decode cX3_sortIn 33 = .ok (.aload_n 0, 1) := by decide +kernel
theorem dX3_sortIn_34 : decode cX3_sortIn 34 = .ok (.getfield 36, 3) := by decide +kernel
theorem dX3_sortIn_37 : decode cX3_sortIn 37 = .ok (.iload_n 2, 1) := by decide +kernel
theorem dX3_sortIn_38 : decode cX3_sortIn 38 = .ok (.iconst 1, 1) := by decide +kernel
theorem dX3_sortIn_39 : decode cX3_sortIn 39 = .ok (.isub, 1) := by decide +kernel
theorem dX3_sortIn_40 : decode cX3_sortIn 40 = .ok (.iaload, 1) := by decide +kernel
theorem dX3_sortIn_41 : decode cX3_sortIn 41 = .ok (.iastore, 1) := by decide +kernel
theorem dX3_sortIn_42 : decode cX3_sortIn 42 = .ok (.iinc 2 (-1), 3) := by decide +kernel
theorem dX3_sortIn_45 : decode cX3_sortIn 45 = .ok (.goto (-43), 3) := by decide +kernel
theorem dX3_sortIn_48 : decode cX3_sortIn 48 = .ok (.aload_n 0, 1) := by decide +kernel
theorem dX3_sortIn_49 : decode cX3_sortIn 49 = .ok (.getfield 36, 3) := by decide +kernel
theorem dX3_sortIn_52 : decode cX3_sortIn 52 = .ok (.iload_n 2, 1) := by decide +kernel
theorem dX3_sortIn_53 : decode cX3_sortIn 53 = .ok (.iload_n 1, 1) := by decide +kernel
theorem dX3_sortIn_54 : decode cX3_sortIn 54 = .ok (.iastore, 1) := by decide +kernel
theorem dX3_sortIn_55 : decode cX3_sortIn 55 = .ok (.return_, 1) := by decide +kernel
set_option maxRecDepth 20000 in
theorem ggX3_fewestSet_X3_openSet : GoodIn wsX3_fewestSet wsX3_openSet := goodIn_r _ [6, 7, 8, 9, 30, 31, 32, 33, 34, 35, 36, 37, 38, 39, 40, 41, 42, 43] (by decide +kernel) (by decide +kernel)
set_option maxRecDepth 20000 in
theorem gX3_fewestSet_X3_openSet : GoodIn wsX3_fewestSet (wsV RX3 78 RX3 yX3_openSet wsX3_openSet) := goodIn_app (goodIn_of _ (by decide +kernel)) ggX3_fewestSet_X3_openSet
set_option maxRecDepth 20000 in
theorem ggX3_fewestSet_X3_canGive : GoodIn wsX3_fewestSet wsX3_canGive := goodIn_r _ [13, 7, 8, 14, 15, 16, 17, 18, 19, 20, 21, 22, 30, 31, 32, 33, 34, 35, 36, 37, 38, 39, 40, 41, 42, 43] (by decide +kernel) (by decide +kernel)
set_option maxRecDepth 20000 in
theorem gX3_fewestSet_X3_canGive : GoodIn wsX3_fewestSet (wsV RX3 81 RX3 yX3_canGive wsX3_canGive) := goodIn_app (goodIn_of _ (by decide +kernel)) ggX3_fewestSet_X3_canGive
set_option maxRecDepth 20000 in
theorem ggX3_fewestSet_J6_bitCount_0f7a4 : GoodIn wsX3_fewestSet wsJ6_bitCount_0f7a4 := goodIn_r _ [26, 27, 28, 29] (by decide +kernel) (by decide +kernel)
set_option maxRecDepth 20000 in
theorem gX3_fewestSet_J6_bitCount_0f7a4 : GoodIn wsX3_fewestSet (va_wsS RX3 85 yJ6_bitCount_0f7a4 wsJ6_bitCount_0f7a4) := goodIn_app (goodIn_of _ (by decide +kernel)) ggX3_fewestSet_J6_bitCount_0f7a4
theorem dX3_fewestSet_0 : decode cX3_fewestSet 0 = .ok (.iconst 0, 1) := by decide +kernel
theorem dX3_fewestSet_1 : decode cX3_fewestSet 1 = .ok (.istore_n 3, 1) := by decide +kernel
theorem dX3_fewestSet_2 : decode cX3_fewestSet 2 = .ok (.bipush 9, 2) := by decide +kernel
theorem dX3_fewestSet_4 : decode cX3_fewestSet 4 = .ok (.istore 4, 2) := by decide +kernel
theorem dX3_fewestSet_6 : decode cX3_fewestSet 6 = .ok (.sipush 256, 3) := by decide +kernel
theorem dX3_fewestSet_9 : decode cX3_fewestSet 9 = .ok (.istore 5, 2) := by decide +kernel
theorem dX3_fewestSet_11 : decode cX3_fewestSet 11 = .ok (.iconst 1, 1) := by decide +kernel
theorem dX3_fewestSet_12 : decode cX3_fewestSet 12 = .ok (.bipush 8, 2) := by decide +kernel
theorem dX3_fewestSet_14 : decode cX3_fewestSet 14 = .ok (.aload_n 0, 1) := by decide +kernel
theorem dX3_fewestSet_15 : decode cX3_fewestSet 15 = .ok (.getfield 49, 3) := by decide +kernel
theorem dX3_fewestSet_18 : decode cX3_fewestSet 18 = .ok (.isub, 1) := by decide +kernel
theorem dX3_fewestSet_19 : decode cX3_fewestSet 19 = .ok (.ishl, 1) := by decide +kernel
theorem dX3_fewestSet_20 : decode cX3_fewestSet 20 = .ok (.istore 6, 2) := by decide +kernel
theorem dX3_fewestSet_22 : decode cX3_fewestSet 22 = .ok (.aload_n 0, 1) := by decide +kernel
theorem dX3_fewestSet_23 : decode cX3_fewestSet 23 = .ok (.iload 5, 2) := by decide +kernel
theorem dX3_fewestSet_25 : decode cX3_fewestSet 25 = .ok (.iload 6, 2) := by decide +kernel
theorem dX3_fewestSet_27 : decode cX3_fewestSet 27 = .ok (.isub, 1) := by decide +kernel
theorem dX3_fewestSet_28 : decode cX3_fewestSet 28 = .ok (.invokevirtual 78, 3) := by decide +kernel
theorem dX3_fewestSet_31 : decode cX3_fewestSet 31 = .ok (.aload_n 0, 1) := by decide +kernel
theorem dX3_fewestSet_32 : decode cX3_fewestSet 32 = .ok (.iload_n 1, 1) := by decide +kernel
theorem dX3_fewestSet_33 : decode cX3_fewestSet 33 = .ok (.iload_n 2, 1) := by decide +kernel
theorem dX3_fewestSet_34 : decode cX3_fewestSet 34 = .ok (.invokevirtual 81, 3) := by decide +kernel
theorem dX3_fewestSet_37 : decode cX3_fewestSet 37 = .ok (.ifCond .ne 5, 3) := by decide +kernel
theorem dX3_fewestSet_40 : decode cX3_fewestSet 40 = .ok (.iconst 0, 1) := by decide +kernel
theorem dX3_fewestSet_41 : decode cX3_fewestSet 41 = .ok (.ireturn, 1) := by decide +kernel
theorem dX3_fewestSet_42 : decode cX3_fewestSet 42 = .ok (.iload 5, 2) := by decide +kernel
theorem dX3_fewestSet_44 : decode cX3_fewestSet 44 = .ok (.iload 6, 2) := by decide +kernel
theorem dX3_fewestSet_46 : decode cX3_fewestSet 46 = .ok (.isub, 1) := by decide +kernel
theorem dX3_fewestSet_47 : decode cX3_fewestSet 47 = .ok (.istore 7, 2) := by decide +kernel
theorem dX3_fewestSet_49 : decode cX3_fewestSet 49 = .ok (.iload 7, 2) := by decide +kernel
theorem dX3_fewestSet_51 : decode cX3_fewestSet 51 = .ok (.ifCond .le 49, 3) := by decide +kernel
theorem dX3_fewestSet_54 : decode cX3_fewestSet 54 = .ok (.iload 7, 2) := by decide +kernel
theorem dX3_fewestSet_56 : decode cX3_fewestSet 56 = .ok (.invokestatic 85, 3) := by decide +kernel
theorem dX3_fewestSet_59 : decode cX3_fewestSet 59 = .ok (.istore 8, 2) := by decide +kernel
theorem dX3_fewestSet_61 : decode cX3_fewestSet 61 = .ok (.iload 8, 2) := by decide +kernel
theorem dX3_fewestSet_63 : decode cX3_fewestSet 63 = .ok (.iload 4, 2) := by decide +kernel
theorem dX3_fewestSet_65 : decode cX3_fewestSet 65 = .ok (.if_icmp .ge 25, 3) := by decide +kernel
theorem dX3_fewestSet_68 : decode cX3_fewestSet 68 = .ok (.aload_n 0, 1) := by decide +kernel
theorem dX3_fewestSet_69 : decode cX3_fewestSet 69 = .ok (.iload 7, 2) := by decide +kernel
theorem dX3_fewestSet_71 : decode cX3_fewestSet 71 = .ok (.invokevirtual 78, 3) := by decide +kernel
theorem dX3_fewestSet_74 : decode cX3_fewestSet 74 = .ok (.aload_n 0, 1) := by decide +kernel
theorem dX3_fewestSet_75 : decode cX3_fewestSet 75 = .ok (.iload_n 1, 1) := by decide +kernel
theorem dX3_fewestSet_76 : decode cX3_fewestSet 76 = .ok (.iload_n 2, 1) := by decide +kernel
theorem dX3_fewestSet_77 : decode cX3_fewestSet 77 = .ok (.invokevirtual 81, 3) := by decide +kernel
theorem dX3_fewestSet_80 : decode cX3_fewestSet 80 = .ok (.ifCond .eq 10, 3) := by decide +kernel
theorem dX3_fewestSet_83 : decode cX3_fewestSet 83 = .ok (.iload 7, 2) := by decide +kernel
theorem dX3_fewestSet_85 : decode cX3_fewestSet 85 = .ok (.istore_n 3, 1) := by decide +kernel
theorem dX3_fewestSet_86 : decode cX3_fewestSet 86 = .ok (.iload 8, 2) := by decide +kernel
theorem dX3_fewestSet_88 : decode cX3_fewestSet 88 = .ok (.istore 4, 2) := by decide +kernel
theorem dX3_fewestSet_90 : decode cX3_fewestSet 90 = .ok (.iload 7, 2) := by decide +kernel
theorem dX3_fewestSet_92 : decode cX3_fewestSet 92 = .ok (.iload 6, 2) := by decide +kernel
theorem dX3_fewestSet_94 : decode cX3_fewestSet 94 = .ok (.isub, 1) := by decide +kernel
theorem dX3_fewestSet_95 : decode cX3_fewestSet 95 = .ok (.istore 7, 2) := by decide +kernel
theorem dX3_fewestSet_97 : decode cX3_fewestSet 97 = .ok (.goto (-48), 3) := by decide +kernel
theorem dX3_fewestSet_100 : decode cX3_fewestSet 100 = .ok (.iload_n 3, 1) := by decide +kernel
theorem dX3_fewestSet_101 : decode cX3_fewestSet 101 = .ok (.ireturn, 1) := by decide +kernel
theorem dX3_openSet_0 : decode cX3_openSet 0 = .ok (.iconst 0, 1) := by decide +kernel
theorem dX3_openSet_1 : decode cX3_openSet 1 = .ok (.istore_n 2, 1) := by decide +kernel
theorem dX3_openSet_2 : decode cX3_openSet 2 = .ok (.iload_n 2, 1) := by decide +kernel
theorem dX3_openSet_3 : decode cX3_openSet 3 = .ok (.aload_n 0, 1) := by decide +kernel
theorem dX3_openSet_4 : decode cX3_openSet 4 = .ok (.getfield 53, 3) := by decide +kernel
theorem dX3_openSet_7 : decode cX3_openSet 7 = .ok (.if_icmp .ge 36, 3) := by decide +kernel
theorem dX3_openSet_10 : decode cX3_openSet 10 = .ok (.aload_n 0, 1) := by decide +kernel
theorem dX3_openSet_11 : decode cX3_openSet 11 = .ok (.getfield 39, 3) := by decide +kernel
theorem dX3_openSet_14 : decode cX3_openSet 14 = .ok (.iload_n 2, 1) := by decide +kernel
theorem dX3_openSet_15 : decode cX3_openSet 15 = .ok (.iload_n 1, 1) := by decide +kernel
theorem dX3_openSet_16 : decode cX3_openSet 16 = .ok (.bipush 7, 2) := by decide +kernel
theorem dX3_openSet_18 : decode cX3_openSet 18 = .ok (.aload_n 0, 1) := by decide +kernel
theorem dX3_openSet_19 : decode cX3_openSet 19 = .ok (.getfield 17, 3) := by decide +kernel
theorem dX3_openSet_22 : decode cX3_openSet 22 = .ok (.iload_n 2, 1) := by decide +kernel
theorem dX3_openSet_23 : decode cX3_openSet 23 = .ok (.iaload, 1) := by decide +kernel
theorem dX3_openSet_24 : decode cX3_openSet 24 = .ok (.isub, 1) := by decide +kernel
theorem dX3_openSet_25 : decode cX3_openSet 25 = .ok (.ishr, 1) := by decide +kernel
theorem dX3_openSet_26 : decode cX3_openSet 26 = .ok (.iconst 1, 1) := by decide +kernel
theorem dX3_openSet_27 : decode cX3_openSet 27 = .ok (.iand, 1) := by decide +kernel
theorem dX3_openSet_28 : decode cX3_openSet 28 = .ok (.ifCond .eq 7, 3) := by decide +kernel
theorem dX3_openSet_31 : decode cX3_openSet 31 = .ok (.iconst 1, 1) := by decide +kernel
theorem dX3_openSet_32 : decode cX3_openSet 32 = .ok (.goto 4, 3) := by decide +kernel
theorem dX3_openSet_35 : decode cX3_openSet 35 = .ok (.iconst 0, 1) := by decide +kernel
theorem dX3_openSet_36 : decode cX3_openSet 36 = .ok (.bastore, 1) := by decide +kernel
theorem dX3_openSet_37 : decode cX3_openSet 37 = .ok (.iinc 2 1, 3) := by decide +kernel
theorem dX3_openSet_40 : decode cX3_openSet 40 = .ok (.goto (-38), 3) := by decide +kernel
theorem dX3_openSet_43 : decode cX3_openSet 43 = .ok (.return_, 1) := by decide +kernel
theorem dX3_canGive_0 : decode cX3_canGive 0 = .ok (.iconst 0, 1) := by decide +kernel
theorem dX3_canGive_1 : decode cX3_canGive 1 = .ok (.istore_n 3, 1) := by decide +kernel
theorem dX3_canGive_2 : decode cX3_canGive 2 = .ok (.iconst 0, 1) := by decide +kernel
theorem dX3_canGive_3 : decode cX3_canGive 3 = .ok (.istore 4, 2) := by decide +kernel
theorem dX3_canGive_5 : decode cX3_canGive 5 = .ok (.iload 4, 2) := by decide +kernel
theorem dX3_canGive_7 : decode cX3_canGive 7 = .ok (.aload_n 0, 1) := by decide +kernel
theorem dX3_canGive_8 : decode cX3_canGive 8 = .ok (.getfield 53, 3) := by decide +kernel
theorem dX3_canGive_11 : decode cX3_canGive 11 = .ok (.if_icmp .ge 33, 3) := by decide +kernel
theorem dX3_canGive_14 : decode cX3_canGive 14 = .ok (.iload_n 3, 1) := by decide +kernel
theorem dX3_canGive_15 : decode cX3_canGive 15 = .ok (.aload_n 0, 1) := by decide +kernel
theorem dX3_canGive_16 : decode cX3_canGive 16 = .ok (.getfield 39, 3) := by decide +kernel
theorem dX3_canGive_19 : decode cX3_canGive 19 = .ok (.iload 4, 2) := by decide +kernel
theorem dX3_canGive_21 : decode cX3_canGive 21 = .ok (.baload, 1) := by decide +kernel
theorem dX3_canGive_22 : decode cX3_canGive 22 = .ok (.ifCond .eq 13, 3) := by decide +kernel
theorem dX3_canGive_25 : decode cX3_canGive 25 = .ok (.aload_n 0, 1) := by decide +kernel
theorem dX3_canGive_26 : decode cX3_canGive 26 = .ok (.getfield 27, 3) := by decide +kernel
theorem dX3_canGive_29 : decode cX3_canGive 29 = .ok (.iload 4, 2) := by decide +kernel
theorem dX3_canGive_31 : decode cX3_canGive 31 = .ok (.iaload, 1) := by decide +kernel
theorem dX3_canGive_32 : decode cX3_canGive 32 = .ok (.goto 4, 3) := by decide +kernel
theorem dX3_canGive_35 : decode cX3_canGive 35 = .ok (.iconst 0, 1) := by decide +kernel
theorem dX3_canGive_36 : decode cX3_canGive 36 = .ok (.iadd, 1) := by decide +kernel
theorem dX3_canGive_37 : decode cX3_canGive 37 = .ok (.istore_n 3, 1) := by decide +kernel
theorem dX3_canGive_38 : decode cX3_canGive 38 = .ok (.iinc 4 1, 3) := by decide +kernel
theorem dX3_canGive_41 : decode cX3_canGive 41 = .ok (.goto (-36), 3) := by decide +kernel
theorem dX3_canGive_44 : decode cX3_canGive 44 = .ok (.iload_n 1, 1) := by decide +kernel
theorem dX3_canGive_45 : decode cX3_canGive 45 = .ok (.iload_n 2, 1) := by decide +kernel
theorem dX3_canGive_46 : decode cX3_canGive 46 = .ok (.iadd, 1) := by decide +kernel
theorem dX3_canGive_47 : decode cX3_canGive 47 = .ok (.iload_n 3, 1) := by decide +kernel
theorem dX3_canGive_48 : decode cX3_canGive 48 = .ok (.isub, 1) := by decide +kernel
theorem dX3_canGive_49 : decode cX3_canGive 49 = .ok (.istore 4, 2) := by decide +kernel
theorem dX3_canGive_51 : decode cX3_canGive 51 = .ok (.iconst 0, 1) := by decide +kernel
theorem dX3_canGive_52 : decode cX3_canGive 52 = .ok (.istore 5, 2) := by decide +kernel
theorem dX3_canGive_54 : decode cX3_canGive 54 = .ok (.iconst 0, 1) := by decide +kernel
theorem dX3_canGive_55 : decode cX3_canGive 55 = .ok (.istore 6, 2) := by decide +kernel
theorem dX3_canGive_57 : decode cX3_canGive 57 = .ok (.iload 6, 2) := by decide +kernel
theorem dX3_canGive_59 : decode cX3_canGive 59 = .ok (.aload_n 0, 1) := by decide +kernel
theorem dX3_canGive_60 : decode cX3_canGive 60 = .ok (.getfield 53, 3) := by decide +kernel
theorem dX3_canGive_63 : decode cX3_canGive 63 = .ok (.if_icmp .ge 70, 3) := by decide +kernel
theorem dX3_canGive_66 : decode cX3_canGive 66 = .ok (.iload 4, 2) := by decide +kernel
theorem dX3_canGive_68 : decode cX3_canGive 68 = .ok (.ifCond .le 65, 3) := by decide +kernel
theorem dX3_canGive_71 : decode cX3_canGive 71 = .ok (.aload_n 0, 1) := by decide +kernel
theorem dX3_canGive_72 : decode cX3_canGive 72 = .ok (.getfield 36, 3) := by decide +kernel
theorem dX3_canGive_75 : decode cX3_canGive 75 = .ok (.iload 6, 2) := by decide +kernel
theorem dX3_canGive_77 : decode cX3_canGive 77 = .ok (.iaload, 1) := by decide +kernel
theorem dX3_canGive_78 : decode cX3_canGive 78 = .ok (.istore 7, 2) := by decide +kernel
theorem dX3_canGive_80 : decode cX3_canGive 80 = .ok (.aload_n 0, 1) := by decide +kernel
theorem dX3_canGive_81 : decode cX3_canGive 81 = .ok (.getfield 39, 3) := by decide +kernel
theorem dX3_canGive_84 : decode cX3_canGive 84 = .ok (.iload 7, 2) := by decide +kernel
theorem dX3_canGive_86 : decode cX3_canGive 86 = .ok (.baload, 1) := by decide +kernel
theorem dX3_canGive_87 : decode cX3_canGive 87 = .ok (.ifCond .eq 40, 3) := by decide +kernel
theorem dX3_canGive_90 : decode cX3_canGive 90 = .ok (.aload_n 0, 1) := by decide +kernel
theorem dX3_canGive_91 : decode cX3_canGive 91 = .ok (.getfield 30, 3) := by decide +kernel
theorem dX3_canGive_94 : decode cX3_canGive 94 = .ok (.iload 7, 2) := by decide +kernel
theorem dX3_canGive_96 : decode cX3_canGive 96 = .ok (.iaload, 1) := by decide +kernel
theorem dX3_canGive_97 : decode cX3_canGive 97 = .ok (.ifCond .le 30, 3) := by decide +kernel
theorem dX3_canGive_100 : decode cX3_canGive 100 = .ok (.iload_n 3, 1) := by decide +kernel
theorem dX3_canGive_101 : decode cX3_canGive 101 = .ok (.aload_n 0, 1) := by decide +kernel
theorem dX3_canGive_102 : decode cX3_canGive 102 = .ok (.getfield 33, 3) := by decide +kernel
theorem dX3_canGive_105 : decode cX3_canGive 105 = .ok (.iload 7, 2) := by decide +kernel
theorem dX3_canGive_107 : decode cX3_canGive 107 = .ok (.iaload, 1) := by decide +kernel
theorem dX3_canGive_108 : decode cX3_canGive 108 = .ok (.isub, 1) := by decide +kernel
theorem dX3_canGive_109 : decode cX3_canGive 109 = .ok (.istore_n 3, 1) := by decide +kernel
theorem dX3_canGive_110 : decode cX3_canGive 110 = .ok (.iload 5, 2) := by decide +kernel
theorem dX3_canGive_112 : decode cX3_canGive 112 = .ok (.aload_n 0, 1) := by decide +kernel
theorem dX3_canGive_113 : decode cX3_canGive 113 = .ok (.getfield 30, 3) := by decide +kernel
theorem dX3_canGive_116 : decode cX3_canGive 116 = .ok (.iload 7, 2) := by decide +kernel
theorem dX3_canGive_118 : decode cX3_canGive 118 = .ok (.iaload, 1) := by decide +kernel
theorem dX3_canGive_119 : decode cX3_canGive 119 = .ok (.iconst 1, 1) := by decide +kernel
theorem dX3_canGive_120 : decode cX3_canGive 120 = .ok (.isub, 1) := by decide +kernel
theorem dX3_canGive_121 : decode cX3_canGive 121 = .ok (.iadd, 1) := by decide +kernel
theorem dX3_canGive_122 : decode cX3_canGive 122 = .ok (.istore 5, 2) := by decide +kernel
theorem dX3_canGive_124 : decode cX3_canGive 124 = .ok (.iinc 4 (-1), 3) := by decide +kernel
theorem dX3_canGive_127 : decode cX3_canGive 127 = .ok (.iinc 6 1, 3) := by decide +kernel
theorem dX3_canGive_130 : decode cX3_canGive 130 = .ok (.goto (-73), 3) := by decide +kernel
theorem dX3_canGive_133 : decode cX3_canGive 133 = .ok (.iconst 0, 1) := by decide +kernel
theorem dX3_canGive_134 : decode cX3_canGive 134 = .ok (.iload 4, 2) := by decide +kernel
theorem dX3_canGive_136 : decode cX3_canGive 136 = .ok (.invokestatic 91, 3) := by decide +kernel
theorem dX3_canGive_139 : decode cX3_canGive 139 = .ok (.istore 6, 2) := by decide +kernel
theorem dX3_canGive_141 : decode cX3_canGive 141 = .ok (.iload 6, 2) := by decide +kernel
theorem dX3_canGive_143 : decode cX3_canGive 143 = .ok (.iload 5, 2) := by decide +kernel
theorem dX3_canGive_145 : decode cX3_canGive 145 = .ok (.if_icmp .gt 20, 3) := by decide +kernel
theorem dX3_canGive_148 : decode cX3_canGive 148 = .ok (.iload_n 3, 1) := by decide +kernel
theorem dX3_canGive_149 : decode cX3_canGive 149 = .ok (.iload 6, 2) := by decide +kernel
theorem dX3_canGive_151 : decode cX3_canGive 151 = .ok (.aload_n 0, 1) := by decide +kernel
theorem dX3_canGive_152 : decode cX3_canGive 152 = .ok (.getfield 56, 3) := by decide +kernel
theorem dX3_canGive_155 : decode cX3_canGive 155 = .ok (.imul, 1) := by decide +kernel
theorem dX3_canGive_156 : decode cX3_canGive 156 = .ok (.isub, 1) := by decide +kernel
theorem dX3_canGive_157 : decode cX3_canGive 157 = .ok (.iload_n 1, 1) := by decide +kernel
theorem dX3_canGive_158 : decode cX3_canGive 158 = .ok (.if_icmp .lt 7, 3) := by decide +kernel
theorem dX3_canGive_161 : decode cX3_canGive 161 = .ok (.iconst 1, 1) := by decide +kernel
theorem dX3_canGive_162 : decode cX3_canGive 162 = .ok (.goto 4, 3) := by decide +kernel
theorem dX3_canGive_165 : decode cX3_canGive 165 = .ok (.iconst 0, 1) := by decide +kernel
theorem dX3_canGive_166 : decode cX3_canGive 166 = .ok (.ireturn, 1) := by decide +kernel
set_option maxRecDepth 20000 in
theorem ggX3_cutSet_X3_openSet : GoodIn wsX3_cutSet wsX3_openSet := goodIn_r _ [9, 1, 4, 10, 59, 60, 61, 62, 63, 64, 65, 66, 67, 68, 69, 70, 71, 72] (by decide +kernel) (by decide +kernel)
set_option maxRecDepth 20000 in
theorem gX3_cutSet_X3_openSet : GoodIn wsX3_cutSet (wsV RX3 78 RX3 yX3_openSet wsX3_openSet) := goodIn_app (goodIn_of _ (by decide +kernel)) ggX3_cutSet_X3_openSet
set_option maxRecDepth 20000 in
theorem ggX3_cutSet_X3_choose : GoodIn wsX3_cutSet wsX3_choose := goodIn_r _ [14, 15, 16, 17, 18, 19, 20, 21, 2, 3, 22, 23, 24, 25, 26, 27, 8, 28, 1, 4, 29, 30, 31, 32, 33, 34, 59, 60, 61, 62, 63, 64, 65, 66, 67, 68, 69, 70, 71, 72] (by decide +kernel) (by decide +kernel)
set_option maxRecDepth 20000 in
theorem gX3_cutSet_X3_choose : GoodIn wsX3_cutSet (wsV RX3 96 RX3 yX3_choose wsX3_choose) := goodIn_app (goodIn_of _ (by decide +kernel)) ggX3_cutSet_X3_choose
set_option maxRecDepth 20000 in
theorem ggX3_cutSet_X3_shorten : GoodIn wsX3_cutSet wsX3_shorten := goodIn_r _ [38, 39, 40, 41, 42, 43, 8, 44, 45, 1, 46, 2, 21, 3, 47, 48, 49, 50, 51, 52, 53, 54, 55, 56, 57, 58, 59, 60, 61, 62, 63, 64, 65, 66, 67, 68, 69, 70, 71, 72, 73, 74, 75, 76] (by decide +kernel) (by decide +kernel)
set_option maxRecDepth 20000 in
theorem gX3_cutSet_X3_shorten : GoodIn wsX3_cutSet (wsV RX3 100 RX3 yX3_shorten wsX3_shorten) := goodIn_app (goodIn_of _ (by decide +kernel)) ggX3_cutSet_X3_shorten
theorem dX3_cutSet_0 : decode cX3_cutSet 0 = .ok (.iload_n 2, 1) := by decide +kernel
theorem dX3_cutSet_1 : decode cX3_cutSet 1 = .ok (.istore 4, 2) := by decide +kernel
theorem dX3_cutSet_3 : decode cX3_cutSet 3 = .ok (.iload_n 3, 1) := by decide +kernel
theorem dX3_cutSet_4 : decode cX3_cutSet 4 = .ok (.istore 5, 2) := by decide +kernel
theorem dX3_cutSet_6 : decode cX3_cutSet 6 = .ok (.aload_n 0, 1) := by decide +kernel
theorem dX3_cutSet_7 : decode cX3_cutSet 7 = .ok (.iload_n 1, 1) := by decide +kernel
theorem dX3_cutSet_8 : decode cX3_cutSet 8 = .ok (.invokevirtual 78, 3) := by decide +kernel
theorem dX3_cutSet_11 : decode cX3_cutSet 11 = .ok (.iconst 0, 1) := by decide +kernel
theorem dX3_cutSet_12 : decode cX3_cutSet 12 = .ok (.istore 6, 2) := by decide +kernel
theorem dX3_cutSet_14 : decode cX3_cutSet 14 = .ok (.iload 6, 2) := by decide +kernel
theorem dX3_cutSet_16 : decode cX3_cutSet 16 = .ok (.aload_n 0, 1) := by decide +kernel
theorem dX3_cutSet_17 : decode cX3_cutSet 17 = .ok (.getfield 53, 3) := by decide +kernel
theorem dX3_cutSet_20 : decode cX3_cutSet 20 = .ok (.if_icmp .ge 77, 3) := by decide +kernel
theorem dX3_cutSet_23 : decode cX3_cutSet 23 = .ok (.aload_n 0, 1) := by decide +kernel
theorem dX3_cutSet_24 : decode cX3_cutSet 24 = .ok (.getfield 43, 3) := by decide +kernel
theorem dX3_cutSet_27 : decode cX3_cutSet 27 = .ok (.iload 6, 2) := by decide +kernel
theorem dX3_cutSet_29 : decode cX3_cutSet 29 = .ok (.iconst 0, 1) := by decide +kernel
theorem dX3_cutSet_30 : decode cX3_cutSet 30 = .ok (.iastore, 1) := by decide +kernel
theorem dX3_cutSet_31 : decode cX3_cutSet 31 = .ok (.aload_n 0, 1) := by decide +kernel
theorem dX3_cutSet_32 : decode cX3_cutSet 32 = .ok (.getfield 46, 3) := by decide +kernel
theorem dX3_cutSet_35 : decode cX3_cutSet 35 = .ok (.iload 6, 2) := by decide +kernel
theorem dX3_cutSet_37 : decode cX3_cutSet 37 = .ok (.iconst 0, 1) := by decide +kernel
theorem dX3_cutSet_38 : decode cX3_cutSet 38 = .ok (.iastore, 1) := by decide +kernel
theorem dX3_cutSet_39 : decode cX3_cutSet 39 = .ok (.aload_n 0, 1) := by decide +kernel
theorem dX3_cutSet_40 : decode cX3_cutSet 40 = .ok (.getfield 39, 3) := by decide +kernel
theorem dX3_cutSet_43 : decode cX3_cutSet 43 = .ok (.iload 6, 2) := by decide +kernel
theorem dX3_cutSet_45 : decode cX3_cutSet 45 = .ok (.baload, 1) := by decide +kernel
theorem dX3_cutSet_46 : decode cX3_cutSet 46 = .ok (.ifCond .eq 45, 3) := by decide +kernel
theorem dX3_cutSet_49 : decode cX3_cutSet 49 = .ok (.aload_n 0, 1) := by decide +kernel
theorem dX3_cutSet_50 : decode cX3_cutSet 50 = .ok (.getfield 39, 3) := by decide +kernel
theorem dX3_cutSet_53 : decode cX3_cutSet 53 = .ok (.iload 6, 2) := by decide +kernel
theorem dX3_cutSet_55 : decode cX3_cutSet 55 = .ok (.iconst 0, 1) := by decide +kernel
theorem dX3_cutSet_56 : decode cX3_cutSet 56 = .ok (.bastore, 1) := by decide +kernel
theorem dX3_cutSet_57 : decode cX3_cutSet 57 = .ok (.aload_n 0, 1) := by decide +kernel
theorem dX3_cutSet_58 : decode cX3_cutSet 58 = .ok (.iload 6, 2) := by decide +kernel
theorem dX3_cutSet_60 : decode cX3_cutSet 60 = .ok (.iload 4, 2) := by decide +kernel
theorem dX3_cutSet_62 : decode cX3_cutSet 62 = .ok (.iload 5, 2) := by decide +kernel
theorem dX3_cutSet_64 : decode cX3_cutSet 64 = .ok (.invokevirtual 96, 3) := by decide +kernel
theorem dX3_cutSet_67 : decode cX3_cutSet 67 = .ok (.iload 4, 2) := by decide +kernel
theorem dX3_cutSet_69 : decode cX3_cutSet 69 = .ok (.aload_n 0, 1) := by decide +kernel
theorem dX3_cutSet_70 : decode cX3_cutSet 70 = .ok (.getfield 43, 3) := by decide +kernel
theorem dX3_cutSet_73 : decode cX3_cutSet 73 = .ok (.iload 6, 2) := by decide +kernel
theorem dX3_cutSet_75 : decode cX3_cutSet 75 = .ok (.iaload, 1) := by decide +kernel
theorem dX3_cutSet_76 : decode cX3_cutSet 76 = .ok (.isub, 1) := by decide +kernel
theorem dX3_cutSet_77 : decode cX3_cutSet 77 = .ok (.istore 4, 2) := by decide +kernel
theorem dX3_cutSet_79 : decode cX3_cutSet 79 = .ok (.iload 5, 2) := by decide +kernel
theorem dX3_cutSet_81 : decode cX3_cutSet 81 = .ok (.aload_n 0, 1) := by decide +kernel
theorem dX3_cutSet_82 : decode cX3_cutSet 82 = .ok (.getfield 46, 3) := by decide +kernel
theorem dX3_cutSet_85 : decode cX3_cutSet 85 = .ok (.iload 6, 2) := by decide +kernel
theorem dX3_cutSet_87 : decode cX3_cutSet 87 = .ok (.iaload, 1) := by decide +kernel
theorem dX3_cutSet_88 : decode cX3_cutSet 88 = .ok (.isub, 1) := by decide +kernel
theorem dX3_cutSet_89 : decode cX3_cutSet 89 = .ok (.istore 5, 2) := by decide +kernel
theorem dX3_cutSet_91 : decode cX3_cutSet 91 = .ok (.iinc 6 1, 3) := by decide +kernel
theorem dX3_cutSet_94 : decode cX3_cutSet 94 = .ok (.goto (-80), 3) := by decide +kernel
theorem dX3_cutSet_97 : decode cX3_cutSet 97 = .ok (.aload_n 0, 1) := by decide +kernel
theorem dX3_cutSet_98 : decode cX3_cutSet 98 = .ok (.invokevirtual 100, 3) := by decide +kernel
theorem dX3_cutSet_101 : decode cX3_cutSet 101 = .ok (.return_, 1) := by decide +kernel
set_option maxRecDepth 20000 in
theorem ggX3_choose_X4_parted : GoodIn wsX3_choose wsX4_parted := goodIn_r _ [12] (by decide +kernel) (by decide +kernel)
set_option maxRecDepth 20000 in
theorem gX3_choose_X4_parted_n70 : GoodIn wsX3_choose (wsX4_parted) := ggX3_choose_X4_parted
set_option maxRecDepth 20000 in
theorem ggX3_choose_X3_canGive : GoodIn wsX3_choose wsX3_canGive := goodIn_r _ [17, 18, 19, 1, 20, 21, 22, 23, 24, 4, 25, 7, 26, 27, 28, 29, 30, 31, 32, 33, 34, 35, 36, 37, 38, 39] (by decide +kernel) (by decide +kernel)
set_option maxRecDepth 20000 in
theorem gX3_choose_X3_canGive : GoodIn wsX3_choose (wsV RX3 81 RX3 yX3_canGive wsX3_canGive) := goodIn_app (goodIn_of _ (by decide +kernel)) ggX3_choose_X3_canGive
theorem dX3_choose_0 : decode cX3_choose 0 = .ok (.aload_n 0, 1) := by decide +kernel
theorem dX3_choose_1 : decode cX3_choose 1 = .ok (.getfield 27, 3) := by decide +kernel
theorem dX3_choose_4 : decode cX3_choose 4 = .ok (.iload_n 1, 1) := by decide +kernel
theorem dX3_choose_5 : decode cX3_choose 5 = .ok (.iaload, 1) := by decide +kernel
theorem dX3_choose_6 : decode cX3_choose 6 = .ok (.iload_n 2, 1) := by decide +kernel
theorem dX3_choose_7 : decode cX3_choose 7 = .ok (.invokestatic 103, 3) := by decide +kernel
theorem dX3_choose_10 : decode cX3_choose 10 = .ok (.istore 4, 2) := by decide +kernel
theorem dX3_choose_12 : decode cX3_choose 12 = .ok (.iload 4, 2) := by decide +kernel
theorem dX3_choose_14 : decode cX3_choose 14 = .ok (.ifCond .lt 70, 3) := by decide +kernel
theorem dX3_choose_17 : decode cX3_choose 17 = .ok (.iload_n 3, 1) := by decide +kernel
theorem dX3_choose_18 : decode cX3_choose 18 = .ok (.aload_n 0, 1) := by decide +kernel
theorem dX3_choose_19 : decode cX3_choose 19 = .ok (.getfield 24, 3) := by decide +kernel
theorem dX3_choose_22 : decode cX3_choose 22 = .ok (.iload_n 1, 1) := by decide +kernel
theorem dX3_choose_23 : decode cX3_choose 23 = .ok (.iaload, 1) := by decide +kernel
theorem dX3_choose_24 : decode cX3_choose 24 = .ok (.iload 4, 2) := by decide +kernel
theorem dX3_choose_26 : decode cX3_choose 26 = .ok (.aload_n 0, 1) := by decide +kernel
theorem dX3_choose_27 : decode cX3_choose 27 = .ok (.getfield 56, 3) := by decide +kernel
theorem dX3_choose_30 : decode cX3_choose 30 = .ok (.iconst 1, 1) := by decide +kernel
theorem dX3_choose_31 : decode cX3_choose 31 = .ok (.iadd, 1) := by decide +kernel
theorem dX3_choose_32 : decode cX3_choose 32 = .ok (.imul, 1) := by decide +kernel
theorem dX3_choose_33 : decode cX3_choose 33 = .ok (.isub, 1) := by decide +kernel
theorem dX3_choose_34 : decode cX3_choose 34 = .ok (.aload_n 0, 1) := by decide +kernel
theorem dX3_choose_35 : decode cX3_choose 35 = .ok (.getfield 56, 3) := by decide +kernel
theorem dX3_choose_38 : decode cX3_choose 38 = .ok (.invokestatic 70, 3) := by decide +kernel
theorem dX3_choose_41 : decode cX3_choose 41 = .ok (.invokestatic 103, 3) := by decide +kernel
theorem dX3_choose_44 : decode cX3_choose 44 = .ok (.istore 5, 2) := by decide +kernel
theorem dX3_choose_46 : decode cX3_choose 46 = .ok (.aload_n 0, 1) := by decide +kernel
theorem dX3_choose_47 : decode cX3_choose 47 = .ok (.iload_n 2, 1) := by decide +kernel
theorem dX3_choose_48 : decode cX3_choose 48 = .ok (.iload 4, 2) := by decide +kernel
theorem dX3_choose_50 : decode cX3_choose 50 = .ok (.isub, 1) := by decide +kernel
theorem dX3_choose_51 : decode cX3_choose 51 = .ok (.iload_n 3, 1) := by decide +kernel
theorem dX3_choose_52 : decode cX3_choose 52 = .ok (.iload 5, 2) := by decide +kernel
theorem dX3_choose_54 : decode cX3_choose 54 = .ok (.isub, 1) := by decide +kernel
theorem dX3_choose_55 : decode cX3_choose 55 = .ok (.invokevirtual 81, 3) := by decide +kernel
theorem dX3_choose_58 : decode cX3_choose 58 = .ok (.ifCond .eq 20, 3) := by decide +kernel
theorem dX3_choose_61 : decode cX3_choose 61 = .ok (.aload_n 0, 1) := by decide +kernel
theorem dX3_choose_62 : decode cX3_choose 62 = .ok (.getfield 43, 3) := by decide +kernel
theorem dX3_choose_65 : decode cX3_choose 65 = .ok (.iload_n 1, 1) := by decide +kernel
theorem dX3_choose_66 : decode cX3_choose 66 = .ok (.iload 4, 2) := by decide +kernel
theorem dX3_choose_68 : decode cX3_choose 68 = .ok (.iastore, 1) := by decide +kernel
theorem dX3_choose_69 : decode cX3_choose 69 = .ok (.aload_n 0, 1) := by decide +kernel
theorem dX3_choose_70 : decode cX3_choose 70 = .ok (.getfield 46, 3) := by decide +kernel
theorem dX3_choose_73 : decode cX3_choose 73 = .ok (.iload_n 1, 1) := by decide +kernel
theorem dX3_choose_74 : decode cX3_choose 74 = .ok (.iload 5, 2) := by decide +kernel
theorem dX3_choose_76 : decode cX3_choose 76 = .ok (.iastore, 1) := by decide +kernel
theorem dX3_choose_77 : decode cX3_choose 77 = .ok (.return_, 1) := by decide +kernel
theorem dX3_choose_78 : decode cX3_choose 78 = .ok (.iinc 4 (-1), 3) := by decide +kernel
theorem dX3_choose_81 : decode cX3_choose 81 = .ok (.goto (-69), 3) := by decide +kernel
theorem dX3_choose_84 : decode cX3_choose 84 = .ok (.return_, 1) := by decide +kernel
set_option maxRecDepth 20000 in
theorem ggX3_shorten_X3_shortenBolt : GoodIn wsX3_shorten wsX3_shortenBolt := goodIn_r _ [7, 8, 9, 10, 11, 12, 13, 14, 15, 16, 17, 18, 19, 20, 21, 22, 23, 24, 25, 40, 41, 42, 43, 26, 27, 28, 29, 30, 31, 32, 33, 34, 35, 36, 37, 38, 39] (by decide +kernel) (by decide +kernel)
set_option maxRecDepth 20000 in
theorem gX3_shorten_X3_shortenBolt : GoodIn wsX3_shorten (wsV RX3 106 RX3 yX3_shortenBolt wsX3_shortenBolt) := goodIn_app (goodIn_of _ (by decide +kernel)) ggX3_shorten_X3_shortenBolt
theorem dX3_shorten_0 : decode cX3_shorten 0 = .ok (.iconst 0, 1) := by decide +kernel
theorem dX3_shorten_1 : decode cX3_shorten 1 = .ok (.istore_n 1, 1) := by decide +kernel
theorem dX3_shorten_2 : decode cX3_shorten 2 = .ok (.iconst 0, 1) := by decide +kernel
theorem dX3_shorten_3 : decode cX3_shorten 3 = .ok (.istore_n 2, 1) := by decide +kernel
theorem dX3_shorten_4 : decode cX3_shorten 4 = .ok (.iload_n 2, 1) := by decide +kernel
theorem dX3_shorten_5 : decode cX3_shorten 5 = .ok (.aload_n 0, 1) := by decide +kernel
theorem dX3_shorten_6 : decode cX3_shorten 6 = .ok (.getfield 49, 3) := by decide +kernel
theorem dX3_shorten_9 : decode cX3_shorten 9 = .ok (.if_icmp .ge 27, 3) := by decide +kernel
theorem dX3_shorten_12 : decode cX3_shorten 12 = .ok (.aload_n 0, 1) := by decide +kernel
theorem dX3_shorten_13 : decode cX3_shorten 13 = .ok (.getfield 11, 3) := by decide +kernel
theorem dX3_shorten_16 : decode cX3_shorten 16 = .ok (.iload_n 2, 1) := by decide +kernel
theorem dX3_shorten_17 : decode cX3_shorten 17 = .ok (.aaload, 1) := by decide +kernel
theorem dX3_shorten_18 : decode cX3_shorten 18 = .ok (.astore_n 3, 1) := by decide +kernel
theorem dX3_shorten_19 : decode cX3_shorten 19 = .ok (.aload_n 3, 1) := by decide +kernel
theorem dX3_shorten_20 : decode cX3_shorten 20 = .ok (.ifnull 10, 3) := by decide +kernel
theorem dX3_shorten_23 : decode cX3_shorten 23 = .ok (.aload_n 0, 1) := by decide +kernel
theorem dX3_shorten_24 : decode cX3_shorten 24 = .ok (.aload_n 3, 1) := by decide +kernel
theorem dX3_shorten_25 : decode cX3_shorten 25 = .ok (.iload_n 1, 1) := by decide +kernel
theorem dX3_shorten_26 : decode cX3_shorten 26 = .ok (.invokevirtual 106, 3) := by decide +kernel
theorem dX3_shorten_29 : decode cX3_shorten 29 = .ok (.istore_n 1, 1) := by decide +kernel
theorem dX3_shorten_30 : decode cX3_shorten 30 = .ok (.iinc 2 1, 3) := by decide +kernel
theorem dX3_shorten_33 : decode cX3_shorten 33 = .ok (.goto (-29), 3) := by decide +kernel
theorem dX3_shorten_36 : decode cX3_shorten 36 = .ok (.return_, 1) := by decide +kernel
set_option maxRecDepth 20000 in
theorem ggX3_shortenBolt_X0_dropEmptyParts : GoodIn wsX3_shortenBolt wsX0_dropEmptyParts := goodIn_r _ [11, 12, 13, 14, 15, 16, 17, 10, 18, 19, 20, 21, 22] (by decide +kernel) (by decide +kernel)
set_option maxRecDepth 20000 in
theorem gX3_shortenBolt_X0_dropEmptyParts : GoodIn wsX3_shortenBolt (wsV RX3 110 RX0 yX0_dropEmptyParts wsX0_dropEmptyParts) := goodIn_app (goodIn_of _ (by decide +kernel)) ggX3_shortenBolt_X0_dropEmptyParts
theorem dX3_shortenBolt_0 : decode cX3_shortenBolt 0 = .ok (.iload_n 2, 1) := by decide +kernel
theorem dX3_shortenBolt_1 : decode cX3_shortenBolt 1 = .ok (.istore_n 3, 1) := by decide +kernel
theorem dX3_shortenBolt_2 : decode cX3_shortenBolt 2 = .ok (.iconst 0, 1) := by decide +kernel
theorem dX3_shortenBolt_3 : decode cX3_shortenBolt 3 = .ok (.istore 4, 2) := by decide +kernel
theorem dX3_shortenBolt_5 : decode cX3_shortenBolt 5 = .ok (.iload 4, 2) := by decide +kernel
theorem dX3_shortenBolt_7 : decode cX3_shortenBolt 7 = .ok (.aload_n 1, 1) := by decide +kernel
theorem dX3_shortenBolt_8 : decode cX3_shortenBolt 8 = .ok (.getfield 59, 3) := by decide +kernel
theorem dX3_shortenBolt_11 : decode cX3_shortenBolt 11 = .ok (.if_icmp .ge 55, 3) := by decide +kernel
theorem dX3_shortenBolt_14 : decode cX3_shortenBolt 14 = .ok (.iload_n 3, 1) := by decide +kernel
theorem dX3_shortenBolt_15 : decode cX3_shortenBolt 15 = .ok (.aload_n 0, 1) := by decide +kernel
theorem dX3_shortenBolt_16 : decode cX3_shortenBolt 16 = .ok (.getfield 53, 3) := by decide +kernel
theorem dX3_shortenBolt_19 : decode cX3_shortenBolt 19 = .ok (.if_icmp .ge 47, 3) := by decide +kernel
theorem dX3_shortenBolt_22 : decode cX3_shortenBolt 22 = .ok (.aload_n 1, 1) := by decide +kernel
theorem dX3_shortenBolt_23 : decode cX3_shortenBolt 23 = .ok (.getfield 63, 3) := by decide +kernel
theorem dX3_shortenBolt_26 : decode cX3_shortenBolt 26 = .ok (.iload 4, 2) := by decide +kernel
theorem dX3_shortenBolt_28 : decode cX3_shortenBolt 28 = .ok (.dup2, 1) := by decide +kernel
theorem dX3_shortenBolt_29 : decode cX3_shortenBolt 29 = .ok (.iaload, 1) := by decide +kernel
theorem dX3_shortenBolt_30 : decode cX3_shortenBolt 30 = .ok (.aload_n 0, 1) := by decide +kernel
theorem dX3_shortenBolt_31 : decode cX3_shortenBolt 31 = .ok (.getfield 43, 3) := by decide +kernel
theorem dX3_shortenBolt_34 : decode cX3_shortenBolt 34 = .ok (.iload_n 3, 1) := by decide +kernel
theorem dX3_shortenBolt_35 : decode cX3_shortenBolt 35 = .ok (.iaload, 1) := by decide +kernel
theorem dX3_shortenBolt_36 : decode cX3_shortenBolt 36 = .ok (.aload_n 0, 1) := by decide +kernel
theorem dX3_shortenBolt_37 : decode cX3_shortenBolt 37 = .ok (.getfield 56, 3) := by decide +kernel
theorem dX3_shortenBolt_40 : decode cX3_shortenBolt 40 = .ok (.iconst 1, 1) := by decide +kernel
theorem dX3_shortenBolt_41 : decode cX3_shortenBolt 41 = .ok (.iadd, 1) := by decide +kernel
theorem dX3_shortenBolt_42 : decode cX3_shortenBolt 42 = .ok (.imul, 1) := by decide +kernel
theorem dX3_shortenBolt_43 : decode cX3_shortenBolt 43 = .ok (.aload_n 0, 1) := by decide +kernel
theorem dX3_shortenBolt_44 : decode cX3_shortenBolt 44 = .ok (.getfield 46, 3) := by decide +kernel
theorem dX3_shortenBolt_47 : decode cX3_shortenBolt 47 = .ok (.iload_n 3, 1) := by decide +kernel
theorem dX3_shortenBolt_48 : decode cX3_shortenBolt 48 = .ok (.iaload, 1) := by decide +kernel
theorem dX3_shortenBolt_49 : decode cX3_shortenBolt 49 = .ok (.aload_n 0, 1) := by decide +kernel
theorem dX3_shortenBolt_50 : decode cX3_shortenBolt 50 = .ok (.getfield 56, 3) := by decide +kernel
theorem dX3_shortenBolt_53 : decode cX3_shortenBolt 53 = .ok (.imul, 1) := by decide +kernel
theorem dX3_shortenBolt_54 : decode cX3_shortenBolt 54 = .ok (.iadd, 1) := by decide +kernel
theorem dX3_shortenBolt_55 : decode cX3_shortenBolt 55 = .ok (.iadd, 1) := by decide +kernel
theorem dX3_shortenBolt_56 : decode cX3_shortenBolt 56 = .ok (.iastore, 1) := by decide +kernel
theorem dX3_shortenBolt_57 : decode cX3_shortenBolt 57 = .ok (.iinc 3 1, 3) := by decide +kernel
theorem dX3_shortenBolt_60 : decode cX3_shortenBolt 60 = .ok (.iinc 4 1, 3) := by decide +kernel
theorem dX3_shortenBolt_63 : decode cX3_shortenBolt 63 = .ok (.goto (-58), 3) := by decide +kernel
theorem dX3_shortenBolt_66 : decode cX3_shortenBolt 66 = .ok (.aload_n 1, 1) := by decide +kernel
theorem dX3_shortenBolt_67 : decode cX3_shortenBolt 67 = .ok (.invokevirtual 110, 3) := by decide +kernel
theorem dX3_shortenBolt_70 : decode cX3_shortenBolt 70 = .ok (.iload_n 3, 1) := by decide +kernel
theorem dX3_shortenBolt_71 : decode cX3_shortenBolt 71 = .ok (.ireturn, 1) := by decide +kernel
end
section
set_option maxRecDepth 20000 in
theorem ggX4_init_X3_init : GoodIn wsX4_init wsX3_init := goodIn_r _ [21, 22, 2, 3, 23, 24, 10, 25, 26, 27, 28, 29, 30, 31, 32, 33, 34, 35, 55, 56, 57, 58, 59, 60, 61, 62, 63, 64, 65, 66, 67, 68] (by decide +kernel) (by decide +kernel)
set_option maxRecDepth 20000 in
theorem gX4_init_X3_init_n36 : GoodIn wsX4_init (wsX3_init) := ggX4_init_X3_init
set_option maxRecDepth 20000 in
theorem ggX4_init_X0_init : GoodIn wsX4_init wsX0_init := goodIn_r _ [38, 39, 2, 3, 10, 40, 41, 42, 43, 69, 70, 71, 72] (by decide +kernel) (by decide +kernel)
set_option maxRecDepth 20000 in
theorem gX4_init_X0_init : GoodIn wsX4_init (wsX0_init) := ggX4_init_X0_init
theorem dX4_init_0 : decode cX4_init 0 = .ok (.aload_n 0, 1) := by decide +kernel
theorem dX4_init_1 : decode cX4_init 1 = .ok (.invokespecial 1, 3) := by decide +kernel
theorem dX4_init_4 : decode cX4_init 4 = .ok (.aload_n 0, 1) := by decide +kernel
theorem dX4_init_5 : decode cX4_init 5 = .ok (.bipush 8, 2) := by decide +kernel
theorem dX4_init_7 : decode cX4_init 7 = .ok (.anewarray 9, 3) := by decide +kernel
theorem dX4_init_10 : decode cX4_init 10 = .ok (.putfield 11, 3) := by decide +kernel
theorem dX4_init_13 : decode cX4_init 13 = .ok (.aload_n 0, 1) := by decide +kernel
theorem dX4_init_14 : decode cX4_init 14 = .ok (.bipush 40, 2) := by decide +kernel
theorem dX4_init_16 : decode cX4_init 16 = .ok (.anewarray 15, 3) := by decide +kernel
theorem dX4_init_19 : decode cX4_init 19 = .ok (.putfield 17, 3) := by decide +kernel
theorem dX4_init_22 : decode cX4_init 22 = .ok (.aload_n 0, 1) := by decide +kernel
theorem dX4_init_23 : decode cX4_init 23 = .ok (.bipush 30, 2) := by decide +kernel
theorem dX4_init_25 : decode cX4_init 25 = .ok (.anewarray 21, 3) := by decide +kernel
theorem dX4_init_28 : decode cX4_init 28 = .ok (.putfield 23, 3) := by decide +kernel
theorem dX4_init_31 : decode cX4_init 31 = .ok (.aload_n 0, 1) := by decide +kernel
theorem dX4_init_32 : decode cX4_init 32 = .ok (.bipush 16, 2) := by decide +kernel
theorem dX4_init_34 : decode cX4_init 34 = .ok (.newarray .int, 2) := by decide +kernel
theorem dX4_init_36 : decode cX4_init 36 = .ok (.putfield 27, 3) := by decide +kernel
theorem dX4_init_39 : decode cX4_init 39 = .ok (.aload_n 0, 1) := by decide +kernel
theorem dX4_init_40 : decode cX4_init 40 = .ok (.bipush 16, 2) := by decide +kernel
theorem dX4_init_42 : decode cX4_init 42 = .ok (.newarray .int, 2) := by decide +kernel
theorem dX4_init_44 : decode cX4_init 44 = .ok (.putfield 31, 3) := by decide +kernel
theorem dX4_init_47 : decode cX4_init 47 = .ok (.aload_n 0, 1) := by decide +kernel
theorem dX4_init_48 : decode cX4_init 48 = .ok (.new 34, 3) := by decide +kernel
theorem dX4_init_51 : decode cX4_init 51 = .ok (.dup, 1) := by decide +kernel
theorem dX4_init_52 : decode cX4_init 52 = .ok (.invokespecial 36, 3) := by decide +kernel
theorem dX4_init_55 : decode cX4_init 55 = .ok (.putfield 37, 3) := by decide +kernel
theorem dX4_init_58 : decode cX4_init 58 = .ok (.aload_n 0, 1) := by decide +kernel
theorem dX4_init_59 : decode cX4_init 59 = .ok (.new 15, 3) := by decide +kernel
theorem dX4_init_62 : decode cX4_init 62 = .ok (.dup, 1) := by decide +kernel
theorem dX4_init_63 : decode cX4_init 63 = .ok (.iconst 0, 1) := by decide +kernel
theorem dX4_init_64 : decode cX4_init 64 = .ok (.iconst 0, 1) := by decide +kernel
theorem dX4_init_65 : decode cX4_init 65 = .ok (.invokespecial 41, 3) := by decide +kernel
theorem dX4_init_68 : decode cX4_init 68 = .ok (.putfield 44, 3) := by decide +kernel
theorem dX4_init_71 : decode cX4_init 71 = .ok (.iconst 0, 1) := by decide +kernel
theorem dX4_init_72 : decode cX4_init 72 = .ok (.istore_n 1, 1) := by decide +kernel
theorem dX4_init_73 : decode cX4_init 73 = .ok (.iload_n 1, 1) := by decide +kernel
theorem dX4_init_74 : decode cX4_init 74 = .ok (.bipush 16, 2) := by decide +kernel
theorem dX4_init_76 : decode cX4_init 76 = .ok (.if_icmp .ge 18, 3) := by decide +kernel
theorem dX4_init_79 : decode cX4_init 79 = .ok (.aload_n 0, 1) := by decide +kernel
theorem dX4_init_80 : decode cX4_init 80 = .ok (.getfield 31, 3) := by decide +kernel
theorem dX4_init_83 : decode cX4_init 83 = .ok (.iload_n 1, 1) := by decide +kernel
theorem dX4_init_84 : decode cX4_init 84 = .ok (.sipush 1000, 3) := by decide +kernel
theorem dX4_init_87 : decode cX4_init 87 = .ok (.iastore, 1) := by decide +kernel
theorem dX4_init_88 : decode cX4_init 88 = .ok (.iinc 1 1, 3) := by decide +kernel
theorem dX4_init_91 : decode cX4_init 91 = .ok (.goto (-18), 3) := by decide +kernel
theorem dX4_init_94 : decode cX4_init 94 = .ok (.return_, 1) := by decide +kernel
set_option maxRecDepth 20000 in
theorem ggX4_form_X2_init : GoodIn wsX4_form wsX2_init := goodIn_r _ [8, 9, 10, 11, 12, 13, 14, 15, 27, 28, 29, 30] (by decide +kernel) (by decide +kernel)
set_option maxRecDepth 20000 in
theorem gX4_form_X2_init : GoodIn wsX4_form (wsX2_init) := ggX4_form_X2_init
theorem dX4_form_0 : decode cX4_form 0 = .ok (.iload_n 1, 1) := by decide +kernel
theorem dX4_form_1 : decode cX4_form 1 = .ok (.bipush 10, 2) := by decide +kernel
theorem dX4_form_3 : decode cX4_form 3 = .ok (.if_icmp .lt 20, 3) := by decide +kernel
theorem dX4_form_6 : decode cX4_form 6 = .ok (.iload_n 1, 1) := by decide +kernel
theorem dX4_form_7 : decode cX4_form 7 = .ok (.sipush 200, 3) := by decide +kernel
theorem dX4_form_10 : decode cX4_form 10 = .ok (.if_icmp .gt 13, 3) := by decide +kernel
theorem dX4_form_13 : decode cX4_form 13 = .ok (.iload_n 1, 1) := by decide +kernel
theorem dX4_form_14 : decode cX4_form 14 = .ok (.iconst 2, 1) := by decide +kernel
theorem dX4_form_15 : decode cX4_form 15 = .ok (.irem, 1) := by decide +kernel
theorem dX4_form_16 : decode cX4_form 16 = .ok (.ifCond .ne 7, 3) := by decide +kernel
theorem dX4_form_19 : decode cX4_form 19 = .ok (.iconst 1, 1) := by decide +kernel
theorem dX4_form_20 : decode cX4_form 20 = .ok (.goto 4, 3) := by decide +kernel
theorem dX4_form_23 : decode cX4_form 23 = .ok (.iconst 0, 1) := by decide +kernel
theorem dX4_form_24 : decode cX4_form 24 = .ok (.istore 5, 2) := by decide +kernel
theorem dX4_form_26 : decode cX4_form 26 = .ok (.iload_n 2, 1) := by decide +kernel
theorem dX4_form_27 : decode cX4_form 27 = .ok (.bipush 100, 2) := by decide +kernel
theorem dX4_form_29 : decode cX4_form 29 = .ok (.if_icmp .lt 25, 3) := by decide +kernel
theorem dX4_form_32 : decode cX4_form 32 = .ok (.iload_n 2, 1) := by decide +kernel
theorem dX4_form_33 : decode cX4_form 33 = .ok (.sipush 2000, 3) := by decide +kernel
theorem dX4_form_36 : decode cX4_form 36 = .ok (.if_icmp .gt 18, 3) := by decide +kernel
theorem dX4_form_39 : decode cX4_form 39 = .ok (.iload_n 3, 1) := by decide +kernel
theorem dX4_form_40 : decode cX4_form 40 = .ok (.bipush 50, 2) := by decide +kernel
theorem dX4_form_42 : decode cX4_form 42 = .ok (.if_icmp .lt 12, 3) := by decide +kernel
theorem dX4_form_45 : decode cX4_form 45 = .ok (.iload_n 3, 1) := by decide +kernel
theorem dX4_form_46 : decode cX4_form 46 = .ok (.iload_n 2, 1) := by decide +kernel
theorem dX4_form_47 : decode cX4_form 47 = .ok (.if_icmp .gt 7, 3) := by decide +kernel
theorem dX4_form_50 : decode cX4_form 50 = .ok (.iconst 1, 1) := by decide +kernel
theorem dX4_form_51 : decode cX4_form 51 = .ok (.goto 4, 3) := by decide +kernel
theorem dX4_form_54 : decode cX4_form 54 = .ok (.iconst 0, 1) := by decide +kernel
theorem dX4_form_55 : decode cX4_form 55 = .ok (.istore 6, 2) := by decide +kernel
theorem dX4_form_57 : decode cX4_form 57 = .ok (.aload_n 0, 1) := by decide +kernel
theorem dX4_form_58 : decode cX4_form 58 = .ok (.getfield 48, 3) := by decide +kernel
theorem dX4_form_61 : decode cX4_form 61 = .ok (.bipush 8, 2) := by decide +kernel
theorem dX4_form_63 : decode cX4_form 63 = .ok (.if_icmp .ge 27, 3) := by decide +kernel
theorem dX4_form_66 : decode cX4_form 66 = .ok (.iload 5, 2) := by decide +kernel
theorem dX4_form_68 : decode cX4_form 68 = .ok (.ifCond .eq 22, 3) := by decide +kernel
theorem dX4_form_71 : decode cX4_form 71 = .ok (.iload 6, 2) := by decide +kernel
theorem dX4_form_73 : decode cX4_form 73 = .ok (.ifCond .eq 17, 3) := by decide +kernel
theorem dX4_form_76 : decode cX4_form 76 = .ok (.iload 4, 2) := by decide +kernel
theorem dX4_form_78 : decode cX4_form 78 = .ok (.bipush 8, 2) := by decide +kernel
theorem dX4_form_80 : decode cX4_form 80 = .ok (.if_icmp .lt 10, 3) := by decide +kernel
theorem dX4_form_83 : decode cX4_form 83 = .ok (.iload 4, 2) := by decide +kernel
theorem dX4_form_85 : decode cX4_form 85 = .ok (.bipush 40, 2) := by decide +kernel
theorem dX4_form_87 : decode cX4_form 87 = .ok (.if_icmp .le 5, 3) := by decide +kernel
theorem dX4_form_90 : decode cX4_form 90 = .ok (.iconst (-1), 1) := by decide +kernel
theorem dX4_form_91 : decode cX4_form 91 = .ok (.ireturn, 1) := by decide +kernel
theorem dX4_form_92 : decode cX4_form 92 = .ok (.aload_n 0, 1) := by decide +kernel
theorem dX4_form_93 : decode cX4_form 93 = .ok (.getfield 11, 3) := by decide +kernel
theorem dX4_form_96 : decode cX4_form 96 = .ok (.aload_n 0, 1) := by decide +kernel
theorem dX4_form_97 : decode cX4_form 97 = .ok (.getfield 48, 3) := by decide +kernel
theorem dX4_form_100 : decode cX4_form 100 = .ok (.new 9, 3) := by decide +kernel
theorem dX4_form_103 : decode cX4_form 103 = .ok (.dup, 1) := by decide +kernel
theorem dX4_form_104 : decode cX4_form 104 = .ok (.iload_n 1, 1) := by decide +kernel
theorem dX4_form_105 : decode cX4_form 105 = .ok (.iload_n 2, 1) := by decide +kernel
theorem dX4_form_106 : decode cX4_form 106 = .ok (.iload_n 3, 1) := by decide +kernel
theorem dX4_form_107 : decode cX4_form 107 = .ok (.iload 4, 2) := by decide +kernel
theorem dX4_form_109 : decode cX4_form 109 = .ok (.invokespecial 52, 3) := by decide +kernel
theorem dX4_form_112 : decode cX4_form 112 = .ok (.aastore, 1) := by decide +kernel
theorem dX4_form_113 : decode cX4_form 113 = .ok (.aload_n 0, 1) := by decide +kernel
theorem dX4_form_114 : decode cX4_form 114 = .ok (.dup, 1) := by decide +kernel
theorem dX4_form_115 : decode cX4_form 115 = .ok (.getfield 48, 3) := by decide +kernel
theorem dX4_form_118 : decode cX4_form 118 = .ok (.iconst 1, 1) := by decide +kernel
theorem dX4_form_119 : decode cX4_form 119 = .ok (.iadd, 1) := by decide +kernel
theorem dX4_form_120 : decode cX4_form 120 = .ok (.putfield 48, 3) := by decide +kernel
theorem dX4_form_123 : decode cX4_form 123 = .ok (.aload_n 0, 1) := by decide +kernel
theorem dX4_form_124 : decode cX4_form 124 = .ok (.getfield 48, 3) := by decide +kernel
theorem dX4_form_127 : decode cX4_form 127 = .ok (.iconst 1, 1) := by decide +kernel
theorem dX4_form_128 : decode cX4_form 128 = .ok (.isub, 1) := by decide +kernel
theorem dX4_form_129 : decode cX4_form 129 = .ok (.ireturn, 1) := by decide +kernel
set_option maxRecDepth 20000 in
theorem ggX4_girth_X4_formAt : GoodIn wsX4_girth wsX4_formAt := goodIn_ca (goodIn_r _ [5, 6, 7, 8, 25, 26, 27, 28, 29, 30, 31, 32, 33, 34, 35] (by decide +kernel) (by decide +kernel)) (goodIn_sub (fun _ h => List.mem_cons_of_mem _ (List.mem_append_left _ (List.mem_append_right _ h))) (by decide +kernel))
set_option maxRecDepth 20000 in
theorem gX4_girth_X4_formAt : GoodIn wsX4_girth (wsV RX4 55 RX4 yX4_formAt wsX4_formAt) := goodIn_app (goodIn_of _ (by decide +kernel)) ggX4_girth_X4_formAt
set_option maxRecDepth 20000 in
theorem ggX4_girth_X4_checkHeight : GoodIn wsX4_girth wsX4_checkHeight := goodIn_ca (goodIn_r _ [11, 12, 13, 14, 36, 37, 38, 39] (by decide +kernel) (by decide +kernel)) (goodIn_sub (fun _ h => List.mem_cons_of_mem _ (List.mem_append_right _ h)) (by decide +kernel))
set_option maxRecDepth 20000 in
theorem gX4_girth_X4_checkHeight : GoodIn wsX4_girth (va_wsS RX4 59 yX4_checkHeight wsX4_checkHeight) := goodIn_app (goodIn_of _ (by decide +kernel)) ggX4_girth_X4_checkHeight
set_option maxRecDepth 20000 in
theorem ggX4_girth_X2_girthAt : GoodIn wsX4_girth wsX2_girthAt := goodIn_r _ [19, 20, 21, 22, 23, 4, 24, 36, 37, 38, 39] (by decide +kernel) (by decide +kernel)
set_option maxRecDepth 20000 in
theorem gX4_girth_X2_girthAt : GoodIn wsX4_girth (wsV RX4 63 RX2 yX2_girthAt wsX2_girthAt) := goodIn_app (goodIn_of _ (by decide +kernel)) ggX4_girth_X2_girthAt
theorem dX4_girth_0 : decode cX4_girth 0 = .ok (.aload_n 0, 1) := by decide +kernel
theorem dX4_girth_1 : decode cX4_girth 1 = .ok (.iload_n 1, 1) := by decide +kernel
theorem dX4_girth_2 : decode cX4_girth 2 = .ok (.invokevirtual 55, 3) := by decide +kernel
theorem dX4_girth_5 : decode cX4_girth 5 = .ok (.astore_n 3, 1) := by decide +kernel
theorem dX4_girth_6 : decode cX4_girth 6 = .ok (.aload_n 3, 1) := by decide +kernel
theorem dX4_girth_7 : decode cX4_girth 7 = .ok (.iload_n 2, 1) := by decide +kernel
theorem dX4_girth_8 : decode cX4_girth 8 = .ok (.invokestatic 59, 3) := by decide +kernel
theorem dX4_girth_11 : decode cX4_girth 11 = .ok (.aload_n 3, 1) := by decide +kernel
theorem dX4_girth_12 : decode cX4_girth 12 = .ok (.iload_n 2, 1) := by decide +kernel
theorem dX4_girth_13 : decode cX4_girth 13 = .ok (.invokevirtual 63, 3) := by decide +kernel
theorem dX4_girth_16 : decode cX4_girth 16 = .ok (.ireturn, 1) := by decide +kernel
set_option maxRecDepth 20000 in
theorem ggX4_width_X4_formAt : GoodIn wsX4_width wsX4_formAt := goodIn_ca (goodIn_r _ [5, 6, 7, 8, 34, 35, 36, 37, 38, 39, 40, 41, 42, 43, 44] (by decide +kernel) (by decide +kernel)) (goodIn_sub (fun _ h => List.mem_cons_of_mem _ (List.mem_append_left _ (List.mem_append_right _ h))) (by decide +kernel))
set_option maxRecDepth 20000 in
theorem gX4_width_X4_formAt : GoodIn wsX4_width (wsV RX4 55 RX4 yX4_formAt wsX4_formAt) := goodIn_app (goodIn_of _ (by decide +kernel)) ggX4_width_X4_formAt
set_option maxRecDepth 20000 in
theorem ggX4_width_X4_checkStave : GoodIn wsX4_width wsX4_checkStave := goodIn_ca (goodIn_r _ [11, 6, 7, 12, 45, 46, 47, 48] (by decide +kernel) (by decide +kernel)) (goodIn_sub (fun _ h => List.mem_cons_of_mem _ (List.mem_append_left _ (List.mem_append_right _ h))) (by decide +kernel))
set_option maxRecDepth 20000 in
theorem gX4_width_X4_checkStave : GoodIn wsX4_width (va_wsS RX4 67 yX4_checkStave wsX4_checkStave) := goodIn_app (goodIn_of _ (by decide +kernel)) ggX4_width_X4_checkStave
set_option maxRecDepth 20000 in
theorem ggX4_width_X4_checkHeight : GoodIn wsX4_width wsX4_checkHeight := goodIn_ca (goodIn_r _ [15, 16, 17, 18, 45, 46, 47, 48] (by decide +kernel) (by decide +kernel)) (goodIn_sub (fun _ h => List.mem_cons_of_mem _ (List.mem_append_right _ h)) (by decide +kernel))
set_option maxRecDepth 20000 in
theorem gX4_width_X4_checkHeight : GoodIn wsX4_width (va_wsS RX4 59 yX4_checkHeight wsX4_checkHeight) := goodIn_app (goodIn_of _ (by decide +kernel)) ggX4_width_X4_checkHeight
set_option maxRecDepth 20000 in
theorem ggX4_width_X2_widthAt : GoodIn wsX4_width wsX2_widthAt := goodIn_r _ [23, 24, 25, 26, 27, 22, 28, 29, 30, 31, 32, 4, 33, 45, 46, 47, 48] (by decide +kernel) (by decide +kernel)
set_option maxRecDepth 20000 in
theorem gX4_width_X2_widthAt : GoodIn wsX4_width (wsV RX4 70 RX2 yX2_widthAt wsX2_widthAt) := goodIn_app (goodIn_of _ (by decide +kernel)) ggX4_width_X2_widthAt
theorem dX4_width_0 : decode cX4_width 0 = .ok (.aload_n 0, 1) := by decide +kernel
theorem dX4_width_1 : decode cX4_width 1 = .ok (.iload_n 1, 1) := by decide +kernel
theorem dX4_width_2 : decode cX4_width 2 = .ok (.invokevirtual 55, 3) := by decide +kernel
theorem dX4_width_5 : decode cX4_width 5 = .ok (.astore 4, 2) := by decide +kernel
theorem dX4_width_7 : decode cX4_width 7 = .ok (.aload 4, 2) := by decide +kernel
theorem dX4_width_9 : decode cX4_width 9 = .ok (.iload_n 2, 1) := by decide +kernel
theorem dX4_width_10 : decode cX4_width 10 = .ok (.invokestatic 67, 3) := by decide +kernel
theorem dX4_width_13 : decode cX4_width 13 = .ok (.aload 4, 2) := by decide +kernel
theorem dX4_width_15 : decode cX4_width 15 = .ok (.iload_n 3, 1) := by decide +kernel
theorem dX4_width_16 : decode cX4_width 16 = .ok (.invokestatic 59, 3) := by decide +kernel
theorem dX4_width_19 : decode cX4_width 19 = .ok (.aload 4, 2) := by decide +kernel
theorem dX4_width_21 : decode cX4_width 21 = .ok (.iload_n 2, 1) := by decide +kernel
theorem dX4_width_22 : decode cX4_width 22 = .ok (.iload_n 3, 1) := by decide +kernel
theorem dX4_width_23 : decode cX4_width 23 = .ok (.invokevirtual 70, 3) := by decide +kernel
theorem dX4_width_26 : decode cX4_width 26 = .ok (.ireturn, 1) := by decide +kernel
set_option maxRecDepth 20000 in
theorem ggX4_holds_X4_formAt : GoodIn wsX4_holds wsX4_formAt := goodIn_ca (goodIn_r _ [5, 6, 7, 8, 38, 39, 40, 41, 42, 43, 44, 45, 46, 47, 48] (by decide +kernel) (by decide +kernel)) (goodIn_sub (fun _ h => List.mem_cons_of_mem _ (List.mem_append_left _ (List.mem_append_right _ h))) (by decide +kernel))
set_option maxRecDepth 20000 in
theorem gX4_holds_X4_formAt : GoodIn wsX4_holds (wsV RX4 55 RX4 yX4_formAt wsX4_formAt) := goodIn_app (goodIn_of _ (by decide +kernel)) ggX4_holds_X4_formAt
set_option maxRecDepth 20000 in
theorem ggX4_holds_X4_checkHeight : GoodIn wsX4_holds wsX4_checkHeight := goodIn_ca (goodIn_r _ [11, 12, 13, 14, 49, 50, 51, 52] (by decide +kernel) (by decide +kernel)) (goodIn_sub (fun _ h => List.mem_cons_of_mem _ (List.mem_append_right _ h)) (by decide +kernel))
set_option maxRecDepth 20000 in
theorem gX4_holds_X4_checkHeight : GoodIn wsX4_holds (va_wsS RX4 59 yX4_checkHeight wsX4_checkHeight) := goodIn_app (goodIn_of _ (by decide +kernel)) ggX4_holds_X4_checkHeight
set_option maxRecDepth 20000 in
theorem ggX4_holds_X2_contentTo : GoodIn wsX4_holds wsX2_contentTo := goodIn_r _ [19, 20, 21, 22, 18, 23, 24, 25, 26, 27, 28, 29, 30, 31, 4, 32, 33, 34, 35, 36, 37, 49, 50, 51, 52] (by decide +kernel) (by decide +kernel)
set_option maxRecDepth 20000 in
theorem gX4_holds_X2_contentTo : GoodIn wsX4_holds (wsV RX4 74 RX2 yX2_contentTo wsX2_contentTo) := goodIn_app (goodIn_of _ (by decide +kernel)) ggX4_holds_X2_contentTo
theorem dX4_holds_0 : decode cX4_holds 0 = .ok (.aload_n 0, 1) := by decide +kernel
theorem dX4_holds_1 : decode cX4_holds 1 = .ok (.iload_n 1, 1) := by decide +kernel
theorem dX4_holds_2 : decode cX4_holds 2 = .ok (.invokevirtual 55, 3) := by decide +kernel
theorem dX4_holds_5 : decode cX4_holds 5 = .ok (.astore_n 3, 1) := by decide +kernel
theorem dX4_holds_6 : decode cX4_holds 6 = .ok (.aload_n 3, 1) := by decide +kernel
theorem dX4_holds_7 : decode cX4_holds 7 = .ok (.iload_n 2, 1) := by decide +kernel
theorem dX4_holds_8 : decode cX4_holds 8 = .ok (.invokestatic 59, 3) := by decide +kernel
theorem dX4_holds_11 : decode cX4_holds 11 = .ok (.aload_n 3, 1) := by decide +kernel
theorem dX4_holds_12 : decode cX4_holds 12 = .ok (.iload_n 2, 1) := by decide +kernel
theorem dX4_holds_13 : decode cX4_holds 13 = .ok (.invokevirtual 74, 3) := by decide +kernel
theorem dX4_holds_16 : decode cX4_holds 16 = .ok (.ireturn, 1) := by decide +kernel
set_option maxRecDepth 20000 in
theorem ggX4_level_X4_formAt : GoodIn wsX4_level wsX4_formAt := goodIn_ca (goodIn_r _ [7, 8, 9, 10, 34, 35, 36, 37, 38, 39, 40, 41, 42, 43, 44] (by decide +kernel) (by decide +kernel)) (goodIn_sub (fun _ h => List.mem_cons_of_mem _ (List.mem_append_right _ h)) (by decide +kernel))
set_option maxRecDepth 20000 in
theorem gX4_level_X4_formAt : GoodIn wsX4_level (wsV RX4 55 RX4 yX4_formAt wsX4_formAt) := goodIn_app (goodIn_of _ (by decide +kernel)) ggX4_level_X4_formAt
set_option maxRecDepth 20000 in
theorem ggX4_level_X2_leastLevel : GoodIn wsX4_level wsX2_leastLevel := goodIn_r _ [15, 16, 17, 18, 14, 19, 20, 21, 22, 23, 24, 25, 26, 27, 28, 29, 30, 31, 32, 6, 33, 45, 46, 47, 48] (by decide +kernel) (by decide +kernel)
set_option maxRecDepth 20000 in
theorem gX4_level_X2_leastLevel : GoodIn wsX4_level (wsV RX4 84 RX2 yX2_leastLevel wsX2_leastLevel) := goodIn_app (goodIn_of _ (by decide +kernel)) ggX4_level_X2_leastLevel
theorem dX4_level_0 : decode cX4_level 0 = .ok (.aload_n 0, 1) := by decide +kernel
theorem dX4_level_1 : decode cX4_level 1 = .ok (.iload_n 1, 1) := by decide +kernel
theorem dX4_level_2 : decode cX4_level 2 = .ok (.invokevirtual 55, 3) := by decide +kernel
theorem dX4_level_5 : decode cX4_level 5 = .ok (.astore_n 3, 1) := by decide +kernel
theorem dX4_level_6 : decode cX4_level 6 = .ok (.iload_n 2, 1) := by decide +kernel
theorem dX4_level_7 : decode cX4_level 7 = .ok (.ifCond .ge 13, 3) := by decide +kernel
theorem dX4_level_10 : decode cX4_level 10 = .ok (.new 77, 3) := by decide +kernel
theorem dX4_level_13 : decode cX4_level 13 = .ok (.dup, 1) := by decide +kernel
theorem dX4_level_14 : decode cX4_level 14 = .ok (.ldc 79, 2) := by decide +kernel
theorem dX4_level_16 : decode cX4_level 16 = .ok (.invokespecial 81, 3) := by decide +kernel
theorem dX4_level_19 : decode cX4_level 19 = .ok (.athrow, 1) := by decide +kernel
theorem dX4_level_20 : decode cX4_level 20 = .ok (.aload_n 3, 1) := by decide +kernel
theorem dX4_level_21 : decode cX4_level 21 = .ok (.iload_n 2, 1) := by decide +kernel
theorem dX4_level_22 : decode cX4_level 22 = .ok (.invokevirtual 84, 3) := by decide +kernel
theorem dX4_level_25 : decode cX4_level 25 = .ok (.ireturn, 1) := by decide +kernel
set_option maxRecDepth 20000 in
theorem ggX4_head_X4_formAt : GoodIn wsX4_head wsX4_formAt := goodIn_ca (goodIn_r _ [5, 6, 7, 8, 19, 20, 21, 22, 23, 24, 25, 26, 27, 28, 29] (by decide +kernel) (by decide +kernel)) (goodIn_sub (fun _ h => List.mem_cons_of_mem _ (List.mem_append_right _ h)) (by decide +kernel))
set_option maxRecDepth 20000 in
theorem gX4_head_X4_formAt : GoodIn wsX4_head (wsV RX4 55 RX4 yX4_formAt wsX4_formAt) := goodIn_app (goodIn_of _ (by decide +kernel)) ggX4_head_X4_formAt
set_option maxRecDepth 20000 in
theorem ggX4_head_X2_girthAt : GoodIn wsX4_head wsX2_girthAt := goodIn_r _ [13, 14, 15, 16, 17, 4, 18, 30, 31, 32, 33] (by decide +kernel) (by decide +kernel)
set_option maxRecDepth 20000 in
theorem gX4_head_X2_girthAt : GoodIn wsX4_head (wsV RX4 63 RX2 yX2_girthAt wsX2_girthAt) := goodIn_app (goodIn_of _ (by decide +kernel)) ggX4_head_X2_girthAt
theorem dX4_head_0 : decode cX4_head 0 = .ok (.aload_n 0, 1) := by decide +kernel
theorem dX4_head_1 : decode cX4_head 1 = .ok (.iload_n 1, 1) := by decide +kernel
theorem dX4_head_2 : decode cX4_head 2 = .ok (.invokevirtual 55, 3) := by decide +kernel
theorem dX4_head_5 : decode cX4_head 5 = .ok (.iconst 0, 1) := by decide +kernel
theorem dX4_head_6 : decode cX4_head 6 = .ok (.invokevirtual 63, 3) := by decide +kernel
theorem dX4_head_9 : decode cX4_head 9 = .ok (.bipush 113, 2) := by decide +kernel
theorem dX4_head_11 : decode cX4_head 11 = .ok (.imul, 1) := by decide +kernel
theorem dX4_head_12 : decode cX4_head 12 = .ok (.sipush 355, 3) := by decide +kernel
theorem dX4_head_15 : decode cX4_head 15 = .ok (.idiv, 1) := by decide +kernel
theorem dX4_head_16 : decode cX4_head 16 = .ok (.ireturn, 1) := by decide +kernel
theorem dX4_days_0 : decode cX4_days 0 = .ok (.iload_n 1, 1) := by decide +kernel
theorem dX4_days_1 : decode cX4_days 1 = .ok (.ifCond .lt 14, 3) := by decide +kernel
theorem dX4_days_4 : decode cX4_days 4 = .ok (.iload_n 1, 1) := by decide +kernel
theorem dX4_days_5 : decode cX4_days 5 = .ok (.ldc 87, 2) := by decide +kernel
theorem dX4_days_7 : decode cX4_days 7 = .ok (.aload_n 0, 1) := by decide +kernel
theorem dX4_days_8 : decode cX4_days 8 = .ok (.getfield 88, 3) := by decide +kernel
theorem dX4_days_11 : decode cX4_days 11 = .ok (.isub, 1) := by decide +kernel
theorem dX4_days_12 : decode cX4_days 12 = .ok (.if_icmp .le 13, 3) := by decide +kernel
theorem dX4_days_15 : decode cX4_days 15 = .ok (.new 77, 3) := by decide +kernel
theorem dX4_days_18 : decode cX4_days 18 = .ok (.dup, 1) := by decide +kernel
theorem dX4_days_19 : decode cX4_days 19 = .ok (.ldc 91, 2) := by decide +kernel
theorem dX4_days_21 : decode cX4_days 21 = .ok (.invokespecial 81, 3) := by decide +kernel
theorem dX4_days_24 : decode cX4_days 24 = .ok (.athrow, 1) := by decide +kernel
theorem dX4_days_25 : decode cX4_days 25 = .ok (.aload_n 0, 1) := by decide +kernel
theorem dX4_days_26 : decode cX4_days 26 = .ok (.dup, 1) := by decide +kernel
theorem dX4_days_27 : decode cX4_days 27 = .ok (.getfield 88, 3) := by decide +kernel
theorem dX4_days_30 : decode cX4_days 30 = .ok (.iload_n 1, 1) := by decide +kernel
theorem dX4_days_31 : decode cX4_days 31 = .ok (.iadd, 1) := by decide +kernel
theorem dX4_days_32 : decode cX4_days 32 = .ok (.putfield 88, 3) := by decide +kernel
theorem dX4_days_35 : decode cX4_days 35 = .ok (.aload_n 0, 1) := by decide +kernel
theorem dX4_days_36 : decode cX4_days 36 = .ok (.getfield 88, 3) := by decide +kernel
theorem dX4_days_39 : decode cX4_days 39 = .ok (.ireturn, 1) := by decide +kernel
set_option maxRecDepth 20000 in
theorem ggX4_bolt_X0_init : GoodIn wsX4_bolt wsX0_init := goodIn_r _ [9, 10, 11, 12, 13, 14, 15, 16, 17, 29, 30, 31, 32] (by decide +kernel) (by decide +kernel)
set_option maxRecDepth 20000 in
theorem gX4_bolt_X0_init : GoodIn wsX4_bolt (wsX0_init) := ggX4_bolt_X0_init
theorem dX4_bolt_0 : decode cX4_bolt 0 = .ok (.aload_n 0, 1) := by decide +kernel
theorem dX4_bolt_1 : decode cX4_bolt 1 = .ok (.getfield 93, 3) := by decide +kernel
theorem dX4_bolt_4 : decode cX4_bolt 4 = .ok (.bipush 40, 2) := by decide +kernel
theorem dX4_bolt_6 : decode cX4_bolt 6 = .ok (.if_icmp .ge 15, 3) := by decide +kernel
theorem dX4_bolt_9 : decode cX4_bolt 9 = .ok (.iload_n 1, 1) := by decide +kernel
theorem dX4_bolt_10 : decode cX4_bolt 10 = .ok (.iconst 1, 1) := by decide +kernel
theorem dX4_bolt_11 : decode cX4_bolt 11 = .ok (.if_icmp .lt 10, 3) := by decide +kernel
theorem dX4_bolt_14 : decode cX4_bolt 14 = .ok (.iload_n 1, 1) := by decide +kernel
theorem dX4_bolt_15 : decode cX4_bolt 15 = .ok (.sipush 600, 3) := by decide +kernel
theorem dX4_bolt_18 : decode cX4_bolt 18 = .ok (.if_icmp .le 5, 3) := by decide +kernel
theorem dX4_bolt_21 : decode cX4_bolt 21 = .ok (.iconst (-1), 1) := by decide +kernel
theorem dX4_bolt_22 : decode cX4_bolt 22 = .ok (.ireturn, 1) := by decide +kernel
theorem dX4_bolt_23 : decode cX4_bolt 23 = .ok (.aload_n 0, 1) := by decide +kernel
theorem dX4_bolt_24 : decode cX4_bolt 24 = .ok (.getfield 17, 3) := by decide +kernel
theorem dX4_bolt_27 : decode cX4_bolt 27 = .ok (.aload_n 0, 1) := by decide +kernel
theorem dX4_bolt_28 : decode cX4_bolt 28 = .ok (.getfield 93, 3) := by decide +kernel
theorem dX4_bolt_31 : decode cX4_bolt 31 = .ok (.new 15, 3) := by decide +kernel
theorem dX4_bolt_34 : decode cX4_bolt 34 = .ok (.dup, 1) := by decide +kernel
theorem dX4_bolt_35 : decode cX4_bolt 35 = .ok (.iload_n 1, 1) := by decide +kernel
theorem dX4_bolt_36 : decode cX4_bolt 36 = .ok (.aload_n 0, 1) := by decide +kernel
theorem dX4_bolt_37 : decode cX4_bolt 37 = .ok (.getfield 88, 3) := by decide +kernel
theorem dX4_bolt_40 : decode cX4_bolt 40 = .ok (.invokespecial 41, 3) := by decide +kernel
theorem dX4_bolt_43 : decode cX4_bolt 43 = .ok (.aastore, 1) := by decide +kernel
theorem dX4_bolt_44 : decode cX4_bolt 44 = .ok (.aload_n 0, 1) := by decide +kernel
theorem dX4_bolt_45 : decode cX4_bolt 45 = .ok (.dup, 1) := by decide +kernel
theorem dX4_bolt_46 : decode cX4_bolt 46 = .ok (.getfield 93, 3) := by decide +kernel
theorem dX4_bolt_49 : decode cX4_bolt 49 = .ok (.iconst 1, 1) := by decide +kernel
theorem dX4_bolt_50 : decode cX4_bolt 50 = .ok (.iadd, 1) := by decide +kernel
theorem dX4_bolt_51 : decode cX4_bolt 51 = .ok (.putfield 93, 3) := by decide +kernel
theorem dX4_bolt_54 : decode cX4_bolt 54 = .ok (.aload_n 0, 1) := by decide +kernel
theorem dX4_bolt_55 : decode cX4_bolt 55 = .ok (.getfield 93, 3) := by decide +kernel
theorem dX4_bolt_58 : decode cX4_bolt 58 = .ok (.iconst 1, 1) := by decide +kernel
theorem dX4_bolt_59 : decode cX4_bolt 59 = .ok (.isub, 1) := by decide +kernel
theorem dX4_bolt_60 : decode cX4_bolt 60 = .ok (.ireturn, 1) := by decide +kernel
set_option maxRecDepth 20000 in
theorem ggX4_flaw_X4_boltAt : GoodIn wsX4_flaw wsX4_boltAt := goodIn_ca (goodIn_r _ [16, 17, 18, 19, 32, 33, 34, 35, 36, 37, 38, 39, 40, 41, 42] (by decide +kernel) (by decide +kernel)) (goodIn_sub (fun _ h => List.mem_cons_of_mem _ (List.mem_append_right _ h)) (by decide +kernel))
set_option maxRecDepth 20000 in
theorem gX4_flaw_X4_boltAt : GoodIn wsX4_flaw (wsV RX4 96 RX4 yX4_boltAt wsX4_boltAt) := goodIn_app (goodIn_of _ (by decide +kernel)) ggX4_flaw_X4_boltAt
set_option maxRecDepth 20000 in
theorem ggX4_flaw_X0_addPart : GoodIn wsX4_flaw wsX0_addPart := goodIn_r _ [24, 25, 26, 27, 43, 44, 45, 46] (by decide +kernel) (by decide +kernel)
set_option maxRecDepth 20000 in
theorem gX4_flaw_X0_addPart : GoodIn wsX4_flaw (wsV RX4 114 RX0 yX0_addPart wsX0_addPart) := goodIn_app (goodIn_of _ (by decide +kernel)) ggX4_flaw_X0_addPart
set_option maxRecDepth 20000 in
theorem ggX4_flaw_X0_takePartsOf : GoodIn wsX4_flaw wsX0_takePartsOf := goodIn_r _ [31, 25, 26, 27, 43, 44, 45, 46] (by decide +kernel) (by decide +kernel)
set_option maxRecDepth 20000 in
theorem gX4_flaw_X0_takePartsOf : GoodIn wsX4_flaw (wsV RX4 121 RX0 yX0_takePartsOf wsX0_takePartsOf) := goodIn_app (goodIn_of _ (by decide +kernel)) ggX4_flaw_X0_takePartsOf
theorem dX4_flaw_0 : decode cX4_flaw 0 = .ok (.aload_n 0, 1) := by decide +kernel
theorem dX4_flaw_1 : decode cX4_flaw 1 = .ok (.iload_n 1, 1) := by decide +kernel
theorem dX4_flaw_2 : decode cX4_flaw 2 = .ok (.invokevirtual 96, 3) := by decide +kernel
theorem dX4_flaw_5 : decode cX4_flaw 5 = .ok (.astore 4, 2) := by decide +kernel
theorem dX4_flaw_7 : decode cX4_flaw 7 = .ok (.iload_n 2, 1) := by decide +kernel
theorem dX4_flaw_8 : decode cX4_flaw 8 = .ok (.ifCond .lt 15, 3) := by decide +kernel
theorem dX4_flaw_11 : decode cX4_flaw 11 = .ok (.iload_n 2, 1) := by decide +kernel
theorem dX4_flaw_12 : decode cX4_flaw 12 = .ok (.iload_n 3, 1) := by decide +kernel
theorem dX4_flaw_13 : decode cX4_flaw 13 = .ok (.if_icmp .ge 10, 3) := by decide +kernel
theorem dX4_flaw_16 : decode cX4_flaw 16 = .ok (.iload_n 3, 1) := by decide +kernel
theorem dX4_flaw_17 : decode cX4_flaw 17 = .ok (.sipush 600, 3) := by decide +kernel
theorem dX4_flaw_20 : decode cX4_flaw 20 = .ok (.if_icmp .le 5, 3) := by decide +kernel
theorem dX4_flaw_23 : decode cX4_flaw 23 = .ok (.iconst (-1), 1) := by decide +kernel
theorem dX4_flaw_24 : decode cX4_flaw 24 = .ok (.ireturn, 1) := by decide +kernel
theorem dX4_flaw_25 : decode cX4_flaw 25 = .ok (.aload_n 0, 1) := by decide +kernel
theorem dX4_flaw_26 : decode cX4_flaw 26 = .ok (.getfield 44, 3) := by decide +kernel
theorem dX4_flaw_29 : decode cX4_flaw 29 = .ok (.iconst 0, 1) := by decide +kernel
theorem dX4_flaw_30 : decode cX4_flaw 30 = .ok (.putfield 100, 3) := by decide +kernel
theorem dX4_flaw_33 : decode cX4_flaw 33 = .ok (.iconst 0, 1) := by decide +kernel
theorem dX4_flaw_34 : decode cX4_flaw 34 = .ok (.istore 5, 2) := by decide +kernel
theorem dX4_flaw_36 : decode cX4_flaw 36 = .ok (.iload 5, 2) := by decide +kernel
theorem dX4_flaw_38 : decode cX4_flaw 38 = .ok (.aload 4, 2) := by decide +kernel
theorem dX4_flaw_40 : decode cX4_flaw 40 = .ok (.getfield 100, 3) := by decide +kernel
theorem dX4_flaw_43 : decode cX4_flaw 43 = .ok (.if_icmp .ge 83, 3) := by decide +kernel
theorem dX4_flaw_46 : decode cX4_flaw 46 = .ok (.aload_n 0, 1) := by decide +kernel
theorem dX4_flaw_47 : decode cX4_flaw 47 = .ok (.getfield 44, 3) := by decide +kernel
theorem dX4_flaw_50 : decode cX4_flaw 50 = .ok (.aload 4, 2) := by decide +kernel
theorem dX4_flaw_52 : decode cX4_flaw 52 = .ok (.getfield 103, 3) := by decide +kernel
theorem dX4_flaw_55 : decode cX4_flaw 55 = .ok (.iload 5, 2) := by decide +kernel
theorem dX4_flaw_57 : decode cX4_flaw 57 = .ok (.iaload, 1) := by decide +kernel
theorem dX4_flaw_58 : decode cX4_flaw 58 = .ok (.aload 4, 2) := by decide +kernel
theorem dX4_flaw_60 : decode cX4_flaw 60 = .ok (.getfield 106, 3) := by decide +kernel
theorem dX4_flaw_63 : decode cX4_flaw 63 = .ok (.iload 5, 2) := by decide +kernel
theorem dX4_flaw_65 : decode cX4_flaw 65 = .ok (.iaload, 1) := by decide +kernel
theorem dX4_flaw_66 : decode cX4_flaw 66 = .ok (.iload_n 2, 1) := by decide +kernel
theorem dX4_flaw_67 : decode cX4_flaw 67 = .ok (.invokestatic 109, 3) := by decide +kernel
theorem dX4_flaw_70 : decode cX4_flaw 70 = .ok (.invokevirtual 114, 3) := by decide +kernel
theorem dX4_flaw_73 : decode cX4_flaw 73 = .ok (.ifCond .eq 37, 3) := by decide +kernel
theorem dX4_flaw_76 : decode cX4_flaw 76 = .ok (.aload_n 0, 1) := by decide +kernel
theorem dX4_flaw_77 : decode cX4_flaw 77 = .ok (.getfield 44, 3) := by decide +kernel
theorem dX4_flaw_80 : decode cX4_flaw 80 = .ok (.aload 4, 2) := by decide +kernel
theorem dX4_flaw_82 : decode cX4_flaw 82 = .ok (.getfield 103, 3) := by decide +kernel
theorem dX4_flaw_85 : decode cX4_flaw 85 = .ok (.iload 5, 2) := by decide +kernel
theorem dX4_flaw_87 : decode cX4_flaw 87 = .ok (.iaload, 1) := by decide +kernel
theorem dX4_flaw_88 : decode cX4_flaw 88 = .ok (.iload_n 3, 1) := by decide +kernel
theorem dX4_flaw_89 : decode cX4_flaw 89 = .ok (.invokestatic 118, 3) := by decide +kernel
theorem dX4_flaw_92 : decode cX4_flaw 92 = .ok (.aload 4, 2) := by decide +kernel
theorem dX4_flaw_94 : decode cX4_flaw 94 = .ok (.getfield 106, 3) := by decide +kernel
theorem dX4_flaw_97 : decode cX4_flaw 97 = .ok (.iload 5, 2) := by decide +kernel
theorem dX4_flaw_99 : decode cX4_flaw 99 = .ok (.iaload, 1) := by decide +kernel
theorem dX4_flaw_100 : decode cX4_flaw 100 = .ok (.invokevirtual 114, 3) := by decide +kernel
theorem dX4_flaw_103 : decode cX4_flaw 103 = .ok (.ifCond .eq 7, 3) := by decide +kernel
theorem dX4_flaw_106 : decode cX4_flaw 106 = .ok (.iconst 1, 1) := by decide +kernel
theorem dX4_flaw_107 : decode cX4_flaw 107 = .ok (.goto 4, 3) := by decide +kernel
theorem dX4_flaw_110 : decode cX4_flaw 110 = .ok (.iconst 0, 1) := by decide +kernel
theorem dX4_flaw_111 : decode cX4_flaw 111 = .ok (.istore 6, 2) := by decide +kernel
theorem dX4_flaw_113 : decode cX4_flaw 113 = .ok (.iload 6, 2) := by decide +kernel
theorem dX4_flaw_115 : decode cX4_flaw 115 = .ok (.ifCond .ne 5, 3) := by decide +kernel
theorem dX4_flaw_118 : decode cX4_flaw 118 = .ok (.iconst (-1), 1) := by decide +kernel
theorem dX4_flaw_119 : decode cX4_flaw 119 = .ok (.ireturn, 1) := by decide +kernel
theorem dX4_flaw_120 : decode cX4_flaw 120 = .ok (.iinc 5 1, 3) := by decide +kernel
theorem dX4_flaw_123 : decode cX4_flaw 123 = .ok (.goto (-87), 3) := by decide +kernel
theorem dX4_flaw_126 : decode cX4_flaw 126 = .ok (.aload 4, 2) := by decide +kernel
theorem dX4_flaw_128 : decode cX4_flaw 128 = .ok (.aload_n 0, 1) := by decide +kernel
theorem dX4_flaw_129 : decode cX4_flaw 129 = .ok (.getfield 44, 3) := by decide +kernel
theorem dX4_flaw_132 : decode cX4_flaw 132 = .ok (.invokevirtual 121, 3) := by decide +kernel
theorem dX4_flaw_135 : decode cX4_flaw 135 = .ok (.aload 4, 2) := by decide +kernel
theorem dX4_flaw_137 : decode cX4_flaw 137 = .ok (.getfield 100, 3) := by decide +kernel
theorem dX4_flaw_140 : decode cX4_flaw 140 = .ok (.ireturn, 1) := by decide +kernel
set_option maxRecDepth 20000 in
theorem ggX4_clear_X4_boltAt : GoodIn wsX4_clear wsX4_boltAt := goodIn_ca (goodIn_r _ [10, 1, 2, 11, 16, 17, 18, 19, 20, 21, 22, 23, 24, 25, 26] (by decide +kernel) (by decide +kernel)) (goodIn_sub (fun _ h => List.mem_cons_of_mem _ (List.mem_append_right _ h)) (by decide +kernel))
set_option maxRecDepth 20000 in
theorem gX4_clear_X4_boltAt : GoodIn wsX4_clear (wsV RX4 96 RX4 yX4_boltAt wsX4_boltAt) := goodIn_app (goodIn_of _ (by decide +kernel)) ggX4_clear_X4_boltAt
theorem dX4_clear_0 : decode cX4_clear 0 = .ok (.aload_n 0, 1) := by decide +kernel
theorem dX4_clear_1 : decode cX4_clear 1 = .ok (.iload_n 1, 1) := by decide +kernel
theorem dX4_clear_2 : decode cX4_clear 2 = .ok (.invokevirtual 96, 3) := by decide +kernel
theorem dX4_clear_5 : decode cX4_clear 5 = .ok (.astore 4, 2) := by decide +kernel
theorem dX4_clear_7 : decode cX4_clear 7 = .ok (.iload_n 2, 1) := by decide +kernel
theorem dX4_clear_8 : decode cX4_clear 8 = .ok (.ifCond .lt 21, 3) := by decide +kernel
theorem dX4_clear_11 : decode cX4_clear 11 = .ok (.iload_n 2, 1) := by decide +kernel
theorem dX4_clear_12 : decode cX4_clear 12 = .ok (.aload 4, 2) := by decide +kernel
theorem dX4_clear_14 : decode cX4_clear 14 = .ok (.getfield 100, 3) := by decide +kernel
theorem dX4_clear_17 : decode cX4_clear 17 = .ok (.if_icmp .ge 12, 3) := by decide +kernel
theorem dX4_clear_20 : decode cX4_clear 20 = .ok (.iload_n 3, 1) := by decide +kernel
theorem dX4_clear_21 : decode cX4_clear 21 = .ok (.ifCond .lt 8, 3) := by decide +kernel
theorem dX4_clear_24 : decode cX4_clear 24 = .ok (.iload_n 3, 1) := by decide +kernel
theorem dX4_clear_25 : decode cX4_clear 25 = .ok (.iconst 1, 1) := by decide +kernel
theorem dX4_clear_26 : decode cX4_clear 26 = .ok (.if_icmp .le 13, 3) := by decide +kernel
theorem dX4_clear_29 : decode cX4_clear 29 = .ok (.new 125, 3) := by decide +kernel
theorem dX4_clear_32 : decode cX4_clear 32 = .ok (.dup, 1) := by decide +kernel
theorem dX4_clear_33 : decode cX4_clear 33 = .ok (.ldc 127, 2) := by decide +kernel
theorem dX4_clear_35 : decode cX4_clear 35 = .ok (.invokespecial 129, 3) := by decide +kernel
theorem dX4_clear_38 : decode cX4_clear 38 = .ok (.athrow, 1) := by decide +kernel
theorem dX4_clear_39 : decode cX4_clear 39 = .ok (.iload_n 3, 1) := by decide +kernel
theorem dX4_clear_40 : decode cX4_clear 40 = .ok (.ifCond .ne 13, 3) := by decide +kernel
theorem dX4_clear_43 : decode cX4_clear 43 = .ok (.aload 4, 2) := by decide +kernel
theorem dX4_clear_45 : decode cX4_clear 45 = .ok (.getfield 103, 3) := by decide +kernel
theorem dX4_clear_48 : decode cX4_clear 48 = .ok (.iload_n 2, 1) := by decide +kernel
theorem dX4_clear_49 : decode cX4_clear 49 = .ok (.iaload, 1) := by decide +kernel
theorem dX4_clear_50 : decode cX4_clear 50 = .ok (.goto 10, 3) := by decide +kernel
theorem dX4_clear_53 : decode cX4_clear 53 = .ok (.aload 4, 2) := by decide +kernel
theorem dX4_clear_55 : decode cX4_clear 55 = .ok (.getfield 106, 3) := by decide +kernel
theorem dX4_clear_58 : decode cX4_clear 58 = .ok (.iload_n 2, 1) := by decide +kernel
theorem dX4_clear_59 : decode cX4_clear 59 = .ok (.iaload, 1) := by decide +kernel
theorem dX4_clear_60 : decode cX4_clear 60 = .ok (.ireturn, 1) := by decide +kernel
set_option maxRecDepth 20000 in
theorem ggX4_ripe_X4_boltAt : GoodIn wsX4_ripe wsX4_boltAt := goodIn_ca (goodIn_r _ [5, 6, 7, 8, 15, 16, 17, 18, 19, 20, 21, 22, 23, 24, 25] (by decide +kernel) (by decide +kernel)) (goodIn_sub (fun _ h => List.mem_cons_of_mem _ (List.mem_append_right _ h)) (by decide +kernel))
set_option maxRecDepth 20000 in
theorem gX4_ripe_X4_boltAt : GoodIn wsX4_ripe (wsV RX4 96 RX4 yX4_boltAt wsX4_boltAt) := goodIn_app (goodIn_of _ (by decide +kernel)) ggX4_ripe_X4_boltAt
set_option maxRecDepth 20000 in
theorem ggX4_ripe_X4_isRipe : GoodIn wsX4_ripe wsX4_isRipe := goodIn_r _ [12, 13, 14, 15, 16, 17, 18, 19, 20, 21, 22, 23, 24, 25, 26, 27, 28, 29] (by decide +kernel) (by decide +kernel)
set_option maxRecDepth 20000 in
theorem gX4_ripe_X4_isRipe : GoodIn wsX4_ripe (wsV RX4 130 RX4 yX4_isRipe wsX4_isRipe) := goodIn_app (goodIn_of _ (by decide +kernel)) ggX4_ripe_X4_isRipe
theorem dX4_ripe_0 : decode cX4_ripe 0 = .ok (.aload_n 0, 1) := by decide +kernel
theorem dX4_ripe_1 : decode cX4_ripe 1 = .ok (.aload_n 0, 1) := by decide +kernel
theorem dX4_ripe_2 : decode cX4_ripe 2 = .ok (.iload_n 1, 1) := by decide +kernel
theorem dX4_ripe_3 : decode cX4_ripe 3 = .ok (.invokevirtual 96, 3) := by decide +kernel
theorem dX4_ripe_6 : decode cX4_ripe 6 = .ok (.invokevirtual 130, 3) := by decide +kernel
theorem dX4_ripe_9 : decode cX4_ripe 9 = .ok (.ireturn, 1) := by decide +kernel
set_option maxRecDepth 20000 in
theorem ggX4_fewest_X4_formAt : GoodIn wsX4_fewest wsX4_formAt := goodIn_ca (goodIn_r _ [5, 6, 7, 8, 96, 97, 98, 99, 100, 101, 102, 103, 104, 105, 106] (by decide +kernel) (by decide +kernel)) (goodIn_sub (fun _ h => List.mem_cons_of_mem _ (List.mem_append_right _ h)) (by decide +kernel))
set_option maxRecDepth 20000 in
theorem gX4_fewest_X4_formAt : GoodIn wsX4_fewest (wsV RX4 55 RX4 yX4_formAt wsX4_formAt) := goodIn_app (goodIn_of _ (by decide +kernel)) ggX4_fewest_X4_formAt
set_option maxRecDepth 20000 in
theorem ggX4_fewest_X4_setFor : GoodIn wsX4_fewest wsX4_setFor := goodIn_r _ [12, 13, 14, 15, 16, 17, 18, 19, 20, 21, 22, 23, 4, 24, 25, 26, 27, 28, 29, 30, 31, 32, 33, 34, 35, 36, 37, 38, 39, 40, 41, 42, 43, 44, 45, 46, 47, 48, 49, 50, 51, 52, 53, 54, 55, 56, 57, 58, 59, 60, 61, 62, 63, 64, 65, 66, 67, 68, 69, 70, 71, 72, 73, 74, 75, 76, 77, 78, 79, 80, 81, 82, 83, 84, 85, 86, 87, 88, 89, 90, 91, 92, 93, 94, 96, 97, 98, 99, 100, 101, 102, 103, 104, 105, 106, 107, 108, 109, 110, 111, 112, 113, 114, 115, 116, 117, 118, 119, 120, 121, 122, 123, 124, 125, 126, 127, 128] (by decide +kernel) (by decide +kernel)
set_option maxRecDepth 20000 in
theorem gX4_fewest_X4_setFor : GoodIn wsX4_fewest (wsV RX4 134 RX4 yX4_setFor wsX4_setFor) := goodIn_app (goodIn_of _ (by decide +kernel)) ggX4_fewest_X4_setFor
set_option maxRecDepth 20000 in
theorem ggX4_fewest_J6_bitCount_0f7a4 : GoodIn wsX4_fewest wsJ6_bitCount_0f7a4 := goodIn_r _ [91, 92, 93, 94] (by decide +kernel) (by decide +kernel)
set_option maxRecDepth 20000 in
theorem gX4_fewest_J6_bitCount_0f7a4 : GoodIn wsX4_fewest (va_wsS RX4 138 yJ6_bitCount_0f7a4 wsJ6_bitCount_0f7a4) := goodIn_app (goodIn_of _ (by decide +kernel)) ggX4_fewest_J6_bitCount_0f7a4
theorem dX4_fewest_0 : decode cX4_fewest 0 = .ok (.aload_n 0, 1) := by decide +kernel
theorem dX4_fewest_1 : decode cX4_fewest 1 = .ok (.aload_n 0, 1) := by decide +kernel
theorem dX4_fewest_2 : decode cX4_fewest 2 = .ok (.iload_n 1, 1) := by decide +kernel
theorem dX4_fewest_3 : decode cX4_fewest 3 = .ok (.invokevirtual 55, 3) := by decide +kernel
theorem dX4_fewest_6 : decode cX4_fewest 6 = .ok (.invokevirtual 134, 3) := by decide +kernel
theorem dX4_fewest_9 : decode cX4_fewest 9 = .ok (.istore_n 2, 1) := by decide +kernel
theorem dX4_fewest_10 : decode cX4_fewest 10 = .ok (.iload_n 2, 1) := by decide +kernel
theorem dX4_fewest_11 : decode cX4_fewest 11 = .ok (.ifCond .ne 7, 3) := by decide +kernel
theorem dX4_fewest_14 : decode cX4_fewest 14 = .ok (.iconst (-1), 1) := by decide +kernel
theorem dX4_fewest_15 : decode cX4_fewest 15 = .ok (.goto 7, 3) := by decide +kernel
theorem dX4_fewest_18 : decode cX4_fewest 18 = .ok (.iload_n 2, 1) := by decide +kernel
theorem dX4_fewest_19 : decode cX4_fewest 19 = .ok (.invokestatic 138, 3) := by decide +kernel
theorem dX4_fewest_22 : decode cX4_fewest 22 = .ok (.ireturn, 1) := by decide +kernel
set_option maxRecDepth 20000 in
theorem ggX4_make_X4_formAt : GoodIn wsX4_make wsX4_formAt := goodIn_ca (goodIn_r _ [11, 12, 13, 14, 179, 180, 181, 182, 183, 184, 185, 186, 187, 188, 189] (by decide +kernel) (by decide +kernel)) (goodIn_sub (fun _ h => List.mem_cons_of_mem _ (List.mem_append_right _ h)) (by decide +kernel))
set_option maxRecDepth 20000 in
theorem gX4_make_X4_formAt : GoodIn wsX4_make (wsV RX4 55 RX4 yX4_formAt wsX4_formAt) := goodIn_app (goodIn_of _ (by decide +kernel)) ggX4_make_X4_formAt
set_option maxRecDepth 20000 in
theorem ggX4_make_X4_setFor : GoodIn wsX4_make wsX4_setFor := goodIn_r _ [18, 5, 19, 20, 21, 22, 23, 24, 25, 26, 27, 28, 10, 29, 30, 31, 32, 33, 34, 35, 36, 37, 38, 39, 40, 41, 42, 43, 44, 45, 46, 47, 48, 49, 50, 51, 52, 53, 54, 55, 56, 57, 58, 59, 60, 61, 62, 63, 64, 65, 66, 67, 68, 69, 70, 71, 72, 73, 74, 75, 76, 77, 78, 79, 80, 81, 82, 83, 84, 85, 86, 87, 88, 89, 90, 91, 92, 93, 94, 95, 96, 97, 98, 99, 179, 180, 181, 182, 183, 184, 185, 186, 187, 188, 189, 198, 199, 200, 201, 202, 203, 204, 205, 206, 207, 208, 209, 210, 211, 212, 213, 214, 215, 216, 217, 218, 219] (by decide +kernel) (by decide +kernel)
set_option maxRecDepth 20000 in
theorem gX4_make_X4_setFor : GoodIn wsX4_make (wsV RX4 134 RX4 yX4_setFor wsX4_setFor) := goodIn_app (goodIn_of _ (by decide +kernel)) ggX4_make_X4_setFor
set_option maxRecDepth 20000 in
theorem ggX4_make_X1_init : GoodIn wsX4_make wsX1_init := goodIn_r _ [102, 103, 104, 105, 106, 107, 108, 109, 110, 111, 112, 113, 190, 191, 192, 193, 194, 195, 196, 197] (by decide +kernel) (by decide +kernel)
set_option maxRecDepth 20000 in
theorem gX4_make_X1_init : GoodIn wsX4_make (wsX1_init) := ggX4_make_X1_init
set_option maxRecDepth 20000 in
theorem ggX4_make_X2_wides : GoodIn wsX4_make wsX2_wides := goodIn_r _ [70, 26, 27, 28, 10, 29, 198, 199, 200, 201] (by decide +kernel) (by decide +kernel)
set_option maxRecDepth 20000 in
theorem gX4_make_X2_wides : GoodIn wsX4_make (wsV RX4 149 RX2 yX2_wides wsX2_wides) := goodIn_app (goodIn_of _ (by decide +kernel)) ggX4_make_X2_wides
set_option maxRecDepth 20000 in
theorem ggX4_make_X2_narrows : GoodIn wsX4_make wsX2_narrows := goodIn_r _ [74, 27, 75, 68, 69, 24, 70, 26, 28, 10, 29, 198, 199, 200, 201] (by decide +kernel) (by decide +kernel)
set_option maxRecDepth 20000 in
theorem gX4_make_X2_narrows : GoodIn wsX4_make (wsV RX4 153 RX2 yX2_narrows wsX2_narrows) := goodIn_app (goodIn_of _ (by decide +kernel)) ggX4_make_X2_narrows
set_option maxRecDepth 20000 in
theorem ggX4_make_X3_cutSet : GoodIn wsX4_make wsX3_cutSet := goodIn_r _ [117, 36, 118, 119, 84, 80, 81, 82, 33, 83, 56, 120, 121, 122, 123, 59, 124, 125, 91, 126, 58, 37, 28, 10, 29, 85, 86, 87, 88, 66, 60, 61, 89, 90, 92, 127, 128, 129, 130, 35, 51, 131, 132, 133, 134, 48, 50, 135, 136, 137, 138, 139, 140, 141, 142, 143, 144, 145, 146, 202, 203, 204, 205, 206, 207, 208, 209, 210, 211, 212, 213, 214, 215, 216, 217, 218, 219] (by decide +kernel) (by decide +kernel)
set_option maxRecDepth 20000 in
theorem gX4_make_X3_cutSet : GoodIn wsX4_make (wsV RX4 156 RX3 yX3_cutSet wsX3_cutSet) := goodIn_app (goodIn_of _ (by decide +kernel)) ggX4_make_X3_cutSet
set_option maxRecDepth 20000 in
theorem ggX4_make_X4_handOut : GoodIn wsX4_make wsX4_handOut := goodIn_r _ [150, 5, 151, 152, 153, 154, 155, 156, 157, 4, 158, 113, 159, 107, 160, 161, 162, 24, 163, 164, 165, 166, 167, 168, 169, 170, 171, 172, 27, 173, 174, 175, 176, 26, 177, 28, 10, 29, 178, 22, 23, 25, 179, 180, 181, 182, 183, 184, 185, 186, 187, 188, 189, 202, 203, 204, 205, 206, 207, 208, 209, 210, 211, 212, 213, 214, 215, 190, 191, 192, 193, 194, 195, 196, 197, 198, 199, 200, 201] (by decide +kernel) (by decide +kernel)
set_option maxRecDepth 20000 in
theorem gX4_make_X4_handOut : GoodIn wsX4_make (wsV RX4 160 RX4 yX4_handOut wsX4_handOut) := goodIn_app (goodIn_of _ (by decide +kernel)) ggX4_make_X4_handOut
theorem dX4_make_0 : decode cX4_make 0 = .ok (.aload_n 0, 1) := by decide +kernel
theorem dX4_make_1 : decode cX4_make 1 = .ok (.iload_n 1, 1) := by decide +kernel
theorem dX4_make_2 : decode cX4_make 2 = .ok (.invokevirtual 55, 3) := by decide +kernel
theorem dX4_make_5 : decode cX4_make 5 = .ok (.astore_n 2, 1) := by decide +kernel
theorem dX4_make_6 : decode cX4_make 6 = .ok (.aload_n 0, 1) := by decide +kernel
theorem dX4_make_7 : decode cX4_make 7 = .ok (.getfield 143, 3) := by decide +kernel
theorem dX4_make_10 : decode cX4_make 10 = .ok (.bipush 30, 2) := by decide +kernel
theorem dX4_make_12 : decode cX4_make 12 = .ok (.if_icmp .lt 5, 3) := by decide +kernel
theorem dX4_make_15 : decode cX4_make 15 = .ok (.iconst (-1), 1) := by decide +kernel
theorem dX4_make_16 : decode cX4_make 16 = .ok (.ireturn, 1) := by decide +kernel
theorem dX4_make_17 : decode cX4_make 17 = .ok (.aload_n 0, 1) := by decide +kernel
theorem dX4_make_18 : decode cX4_make 18 = .ok (.aload_n 2, 1) := by decide +kernel
theorem dX4_make_19 : decode cX4_make 19 = .ok (.invokevirtual 134, 3) := by decide +kernel
theorem dX4_make_22 : decode cX4_make 22 = .ok (.istore_n 3, 1) := by decide +kernel
theorem dX4_make_23 : decode cX4_make 23 = .ok (.iload_n 3, 1) := by decide +kernel
theorem dX4_make_24 : decode cX4_make 24 = .ok (.ifCond .ne 5, 3) := by decide +kernel
theorem dX4_make_27 : decode cX4_make 27 = .ok (.iconst (-1), 1) := by decide +kernel
theorem dX4_make_28 : decode cX4_make 28 = .ok (.ireturn, 1) := by decide +kernel
theorem dX4_make_29 : decode cX4_make 29 = .ok (.new 21, 3) := by decide +kernel
theorem dX4_make_32 : decode cX4_make 32 = .ok (.dup, 1) := by decide +kernel
theorem dX4_make_33 : decode cX4_make 33 = .ok (.iload_n 1, 1) := by decide +kernel
theorem dX4_make_34 : decode cX4_make 34 = .ok (.aload_n 2, 1) := by decide +kernel
theorem dX4_make_35 : decode cX4_make 35 = .ok (.invokespecial 146, 3) := by decide +kernel
theorem dX4_make_38 : decode cX4_make 38 = .ok (.astore 4, 2) := by decide +kernel
theorem dX4_make_40 : decode cX4_make 40 = .ok (.aload_n 0, 1) := by decide +kernel
theorem dX4_make_41 : decode cX4_make 41 = .ok (.getfield 37, 3) := by decide +kernel
theorem dX4_make_44 : decode cX4_make 44 = .ok (.iload_n 3, 1) := by decide +kernel
theorem dX4_make_45 : decode cX4_make 45 = .ok (.aload_n 2, 1) := by decide +kernel
theorem dX4_make_46 : decode cX4_make 46 = .ok (.invokevirtual 149, 3) := by decide +kernel
theorem dX4_make_49 : decode cX4_make 49 = .ok (.aload_n 2, 1) := by decide +kernel
theorem dX4_make_50 : decode cX4_make 50 = .ok (.invokevirtual 153, 3) := by decide +kernel
theorem dX4_make_53 : decode cX4_make 53 = .ok (.invokevirtual 156, 3) := by decide +kernel
theorem dX4_make_56 : decode cX4_make 56 = .ok (.aload_n 0, 1) := by decide +kernel
theorem dX4_make_57 : decode cX4_make 57 = .ok (.aload 4, 2) := by decide +kernel
theorem dX4_make_59 : decode cX4_make 59 = .ok (.invokevirtual 160, 3) := by decide +kernel
theorem dX4_make_62 : decode cX4_make 62 = .ok (.aload_n 0, 1) := by decide +kernel
theorem dX4_make_63 : decode cX4_make 63 = .ok (.getfield 23, 3) := by decide +kernel
theorem dX4_make_66 : decode cX4_make 66 = .ok (.aload_n 0, 1) := by decide +kernel
theorem dX4_make_67 : decode cX4_make 67 = .ok (.getfield 143, 3) := by decide +kernel
theorem dX4_make_70 : decode cX4_make 70 = .ok (.aload 4, 2) := by decide +kernel
theorem dX4_make_72 : decode cX4_make 72 = .ok (.aastore, 1) := by decide +kernel
theorem dX4_make_73 : decode cX4_make 73 = .ok (.aload_n 0, 1) := by decide +kernel
theorem dX4_make_74 : decode cX4_make 74 = .ok (.dup, 1) := by decide +kernel
theorem dX4_make_75 : decode cX4_make 75 = .ok (.getfield 143, 3) := by decide +kernel
theorem dX4_make_78 : decode cX4_make 78 = .ok (.iconst 1, 1) := by decide +kernel
theorem dX4_make_79 : decode cX4_make 79 = .ok (.iadd, 1) := by decide +kernel
theorem dX4_make_80 : decode cX4_make 80 = .ok (.putfield 143, 3) := by decide +kernel
theorem dX4_make_83 : decode cX4_make 83 = .ok (.aload_n 0, 1) := by decide +kernel
theorem dX4_make_84 : decode cX4_make 84 = .ok (.getfield 143, 3) := by decide +kernel
theorem dX4_make_87 : decode cX4_make 87 = .ok (.iconst 1, 1) := by decide +kernel
theorem dX4_make_88 : decode cX4_make 88 = .ok (.isub, 1) := by decide +kernel
theorem dX4_make_89 : decode cX4_make 89 = .ok (.ireturn, 1) := by decide +kernel
set_option maxRecDepth 20000 in
theorem ggX4_stave_X4_caskAt : GoodIn wsX4_stave wsX4_caskAt := goodIn_ca (goodIn_r _ [10, 1, 2, 11, 43, 44, 45, 46, 47, 48, 49, 50, 51, 52, 53] (by decide +kernel) (by decide +kernel)) (goodIn_sub (fun _ h => List.mem_cons_of_mem _ (List.mem_append_right _ h)) (by decide +kernel))
set_option maxRecDepth 20000 in
theorem gX4_stave_X4_caskAt : GoodIn wsX4_stave (wsV RX4 164 RX4 yX4_caskAt wsX4_caskAt) := goodIn_app (goodIn_of _ (by decide +kernel)) ggX4_stave_X4_caskAt
set_option maxRecDepth 20000 in
theorem ggX4_stave_X4_checkStave : GoodIn wsX4_stave wsX4_checkStave := goodIn_ca (goodIn_r _ [14, 1, 2, 15, 54, 55, 56, 57] (by decide +kernel) (by decide +kernel)) (goodIn_sub (fun _ h => List.mem_cons_of_mem _ (List.mem_append_right _ h)) (by decide +kernel))
set_option maxRecDepth 20000 in
theorem gX4_stave_X4_checkStave : GoodIn wsX4_stave (va_wsS RX4 67 yX4_checkStave wsX4_checkStave) := goodIn_app (goodIn_of _ (by decide +kernel)) ggX4_stave_X4_checkStave
set_option maxRecDepth 20000 in
theorem ggX4_stave_X2_bilgeWidth : GoodIn wsX4_stave wsX2_bilgeWidth := goodIn_r _ [20, 21, 22, 23, 24, 19, 25, 26, 27, 28, 29, 30, 31, 32, 33, 9, 34, 54, 55, 56, 57] (by decide +kernel) (by decide +kernel)
set_option maxRecDepth 20000 in
theorem gX4_stave_X2_bilgeWidth : GoodIn wsX4_stave (wsV RX4 174 RX2 yX2_bilgeWidth wsX2_bilgeWidth) := goodIn_app (goodIn_of _ (by decide +kernel)) ggX4_stave_X2_bilgeWidth
theorem dX4_stave_0 : decode cX4_stave 0 = .ok (.aload_n 0, 1) := by decide +kernel
theorem dX4_stave_1 : decode cX4_stave 1 = .ok (.iload_n 1, 1) := by decide +kernel
theorem dX4_stave_2 : decode cX4_stave 2 = .ok (.invokevirtual 164, 3) := by decide +kernel
theorem dX4_stave_5 : decode cX4_stave 5 = .ok (.astore 4, 2) := by decide +kernel
theorem dX4_stave_7 : decode cX4_stave 7 = .ok (.aload 4, 2) := by decide +kernel
theorem dX4_stave_9 : decode cX4_stave 9 = .ok (.getfield 168, 3) := by decide +kernel
theorem dX4_stave_12 : decode cX4_stave 12 = .ok (.iload_n 2, 1) := by decide +kernel
theorem dX4_stave_13 : decode cX4_stave 13 = .ok (.invokestatic 67, 3) := by decide +kernel
theorem dX4_stave_16 : decode cX4_stave 16 = .ok (.iload_n 3, 1) := by decide +kernel
theorem dX4_stave_17 : decode cX4_stave 17 = .ok (.ifCond .lt 8, 3) := by decide +kernel
theorem dX4_stave_20 : decode cX4_stave 20 = .ok (.iload_n 3, 1) := by decide +kernel
theorem dX4_stave_21 : decode cX4_stave 21 = .ok (.iconst 2, 1) := by decide +kernel
theorem dX4_stave_22 : decode cX4_stave 22 = .ok (.if_icmp .le 13, 3) := by decide +kernel
theorem dX4_stave_25 : decode cX4_stave 25 = .ok (.new 125, 3) := by decide +kernel
theorem dX4_stave_28 : decode cX4_stave 28 = .ok (.dup, 1) := by decide +kernel
theorem dX4_stave_29 : decode cX4_stave 29 = .ok (.ldc 172, 2) := by decide +kernel
theorem dX4_stave_31 : decode cX4_stave 31 = .ok (.invokespecial 129, 3) := by decide +kernel
theorem dX4_stave_34 : decode cX4_stave 34 = .ok (.athrow, 1) := by decide +kernel
theorem dX4_stave_35 : decode cX4_stave 35 = .ok (.iload_n 3, 1) := by decide +kernel
theorem dX4_stave_36 : decode cX4_stave 36 = .ok (.iconst 2, 1) := by decide +kernel
theorem dX4_stave_37 : decode cX4_stave 37 = .ok (.if_icmp .ne 13, 3) := by decide +kernel
theorem dX4_stave_40 : decode cX4_stave 40 = .ok (.aload 4, 2) := by decide +kernel
theorem dX4_stave_42 : decode cX4_stave 42 = .ok (.getfield 168, 3) := by decide +kernel
theorem dX4_stave_45 : decode cX4_stave 45 = .ok (.iload_n 2, 1) := by decide +kernel
theorem dX4_stave_46 : decode cX4_stave 46 = .ok (.invokevirtual 174, 3) := by decide +kernel
theorem dX4_stave_49 : decode cX4_stave 49 = .ok (.ireturn, 1) := by decide +kernel
theorem dX4_stave_50 : decode cX4_stave 50 = .ok (.iload_n 3, 1) := by decide +kernel
theorem dX4_stave_51 : decode cX4_stave 51 = .ok (.ifCond .ne 13, 3) := by decide +kernel
theorem dX4_stave_54 : decode cX4_stave 54 = .ok (.aload 4, 2) := by decide +kernel
theorem dX4_stave_56 : decode cX4_stave 56 = .ok (.getfield 177, 3) := by decide +kernel
theorem dX4_stave_59 : decode cX4_stave 59 = .ok (.iload_n 2, 1) := by decide +kernel
theorem dX4_stave_60 : decode cX4_stave 60 = .ok (.iaload, 1) := by decide +kernel
theorem dX4_stave_61 : decode cX4_stave 61 = .ok (.goto 10, 3) := by decide +kernel
theorem dX4_stave_64 : decode cX4_stave 64 = .ok (.aload 4, 2) := by decide +kernel
theorem dX4_stave_66 : decode cX4_stave 66 = .ok (.getfield 180, 3) := by decide +kernel
theorem dX4_stave_69 : decode cX4_stave 69 = .ok (.iload_n 2, 1) := by decide +kernel
theorem dX4_stave_70 : decode cX4_stave 70 = .ok (.iaload, 1) := by decide +kernel
theorem dX4_stave_71 : decode cX4_stave 71 = .ok (.ireturn, 1) := by decide +kernel
set_option maxRecDepth 20000 in
theorem ggX4_formOf_X4_caskAt : GoodIn wsX4_formOf wsX4_caskAt := goodIn_ca (goodIn_r _ [6, 7, 8, 9, 18, 19, 20, 21, 22, 23, 24, 25, 26, 27, 28] (by decide +kernel) (by decide +kernel)) (goodIn_sub (fun _ h => List.mem_cons_of_mem _ (List.mem_append_right _ h)) (by decide +kernel))
set_option maxRecDepth 20000 in
theorem gX4_formOf_X4_caskAt : GoodIn wsX4_formOf (wsV RX4 164 RX4 yX4_caskAt wsX4_caskAt) := goodIn_app (goodIn_of _ (by decide +kernel)) ggX4_formOf_X4_caskAt
theorem dX4_formOf_0 : decode cX4_formOf 0 = .ok (.aload_n 0, 1) := by decide +kernel
theorem dX4_formOf_1 : decode cX4_formOf 1 = .ok (.iload_n 1, 1) := by decide +kernel
theorem dX4_formOf_2 : decode cX4_formOf 2 = .ok (.invokevirtual 164, 3) := by decide +kernel
theorem dX4_formOf_5 : decode cX4_formOf 5 = .ok (.getfield 183, 3) := by decide +kernel
theorem dX4_formOf_8 : decode cX4_formOf 8 = .ok (.ireturn, 1) := by decide +kernel
set_option maxRecDepth 20000 in
theorem ggX4_bars_X4_checkKind : GoodIn wsX4_bars wsX4_checkKind := goodIn_ca (goodIn_r _ [5, 6, 7] (by decide +kernel) (by decide +kernel)) (goodIn_sub (fun _ h => List.mem_cons_of_mem _ (List.mem_append_right _ h)) (by decide +kernel))
set_option maxRecDepth 20000 in
theorem gX4_bars_X4_checkKind : GoodIn wsX4_bars (va_wsS RX4 186 yX4_checkKind wsX4_checkKind) := goodIn_app (goodIn_of _ (by decide +kernel)) ggX4_bars_X4_checkKind
theorem dX4_bars_0 : decode cX4_bars 0 = .ok (.iload_n 1, 1) := by decide +kernel
theorem dX4_bars_1 : decode cX4_bars 1 = .ok (.invokestatic 186, 3) := by decide +kernel
theorem dX4_bars_4 : decode cX4_bars 4 = .ok (.iload_n 2, 1) := by decide +kernel
theorem dX4_bars_5 : decode cX4_bars 5 = .ok (.invokestatic 186, 3) := by decide +kernel
theorem dX4_bars_8 : decode cX4_bars 8 = .ok (.aload_n 0, 1) := by decide +kernel
theorem dX4_bars_9 : decode cX4_bars 9 = .ok (.getfield 27, 3) := by decide +kernel
theorem dX4_bars_12 : decode cX4_bars 12 = .ok (.iload_n 1, 1) := by decide +kernel
theorem dX4_bars_13 : decode cX4_bars 13 = .ok (.iaload, 1) := by decide +kernel
theorem dX4_bars_14 : decode cX4_bars 14 = .ok (.iload_n 2, 1) := by decide +kernel
theorem dX4_bars_15 : decode cX4_bars 15 = .ok (.ishr, 1) := by decide +kernel
theorem dX4_bars_16 : decode cX4_bars 16 = .ok (.iconst 1, 1) := by decide +kernel
theorem dX4_bars_17 : decode cX4_bars 17 = .ok (.iand, 1) := by decide +kernel
theorem dX4_bars_18 : decode cX4_bars 18 = .ok (.ifCond .eq 7, 3) := by decide +kernel
theorem dX4_bars_21 : decode cX4_bars 21 = .ok (.iconst 1, 1) := by decide +kernel
theorem dX4_bars_22 : decode cX4_bars 22 = .ok (.goto 4, 3) := by decide +kernel
theorem dX4_bars_25 : decode cX4_bars 25 = .ok (.iconst 0, 1) := by decide +kernel
theorem dX4_bars_26 : decode cX4_bars 26 = .ok (.istore 4, 2) := by decide +kernel
theorem dX4_bars_28 : decode cX4_bars 28 = .ok (.aload_n 0, 1) := by decide +kernel
theorem dX4_bars_29 : decode cX4_bars 29 = .ok (.getfield 27, 3) := by decide +kernel
theorem dX4_bars_32 : decode cX4_bars 32 = .ok (.iload_n 1, 1) := by decide +kernel
theorem dX4_bars_33 : decode cX4_bars 33 = .ok (.iload_n 3, 1) := by decide +kernel
theorem dX4_bars_34 : decode cX4_bars 34 = .ok (.ifCond .eq 16, 3) := by decide +kernel
theorem dX4_bars_37 : decode cX4_bars 37 = .ok (.aload_n 0, 1) := by decide +kernel
theorem dX4_bars_38 : decode cX4_bars 38 = .ok (.getfield 27, 3) := by decide +kernel
theorem dX4_bars_41 : decode cX4_bars 41 = .ok (.iload_n 1, 1) := by decide +kernel
theorem dX4_bars_42 : decode cX4_bars 42 = .ok (.iaload, 1) := by decide +kernel
theorem dX4_bars_43 : decode cX4_bars 43 = .ok (.iconst 1, 1) := by decide +kernel
theorem dX4_bars_44 : decode cX4_bars 44 = .ok (.iload_n 2, 1) := by decide +kernel
theorem dX4_bars_45 : decode cX4_bars 45 = .ok (.ishl, 1) := by decide +kernel
theorem dX4_bars_46 : decode cX4_bars 46 = .ok (.ior, 1) := by decide +kernel
theorem dX4_bars_47 : decode cX4_bars 47 = .ok (.goto 15, 3) := by decide +kernel
theorem dX4_bars_50 : decode cX4_bars 50 = .ok (.aload_n 0, 1) := by decide +kernel
theorem dX4_bars_51 : decode cX4_bars 51 = .ok (.getfield 27, 3) := by decide +kernel
theorem dX4_bars_54 : decode cX4_bars 54 = .ok (.iload_n 1, 1) := by decide +kernel
theorem dX4_bars_55 : decode cX4_bars 55 = .ok (.iaload, 1) := by decide +kernel
theorem dX4_bars_56 : decode cX4_bars 56 = .ok (.iconst 1, 1) := by decide +kernel
theorem dX4_bars_57 : decode cX4_bars 57 = .ok (.iload_n 2, 1) := by decide +kernel
theorem dX4_bars_58 : decode cX4_bars 58 = .ok (.ishl, 1) := by decide +kernel
theorem dX4_bars_59 : decode cX4_bars 59 = .ok (.iconst (-1), 1) := by decide +kernel
theorem dX4_bars_60 : decode cX4_bars 60 = .ok (.ixor, 1) := by decide +kernel
theorem dX4_bars_61 : decode cX4_bars 61 = .ok (.iand, 1) := by decide +kernel
theorem dX4_bars_62 : decode cX4_bars 62 = .ok (.iastore, 1) := by decide +kernel
theorem dX4_bars_63 : decode cX4_bars 63 = .ok (.iload 4, 2) := by decide +kernel
theorem dX4_bars_65 : decode cX4_bars 65 = .ok (.ireturn, 1) := by decide +kernel
set_option maxRecDepth 20000 in
theorem ggX4_may_X4_caskAt : GoodIn wsX4_may wsX4_caskAt := goodIn_ca (goodIn_r _ [5, 6, 7, 8, 27, 28, 29, 30, 31, 32, 33, 34, 35, 36, 37] (by decide +kernel) (by decide +kernel)) (goodIn_sub (fun _ h => List.mem_cons_of_mem _ (List.mem_append_left _ (List.mem_append_right _ h))) (by decide +kernel))
set_option maxRecDepth 20000 in
theorem gX4_may_X4_caskAt : GoodIn wsX4_may (wsV RX4 164 RX4 yX4_caskAt wsX4_caskAt) := goodIn_app (goodIn_of _ (by decide +kernel)) ggX4_may_X4_caskAt
set_option maxRecDepth 20000 in
theorem ggX4_may_X4_checkKind : GoodIn wsX4_may wsX4_checkKind := goodIn_ca (goodIn_r _ [11, 12, 13] (by decide +kernel) (by decide +kernel)) (goodIn_sub (fun _ h => List.mem_cons_of_mem _ (List.mem_append_right _ h)) (by decide +kernel))
set_option maxRecDepth 20000 in
theorem gX4_may_X4_checkKind : GoodIn wsX4_may (va_wsS RX4 186 yX4_checkKind wsX4_checkKind) := goodIn_app (goodIn_of _ (by decide +kernel)) ggX4_may_X4_checkKind
set_option maxRecDepth 20000 in
theorem ggX4_may_X4_isLet : GoodIn wsX4_may wsX4_isLet := goodIn_r _ [17, 18, 19, 20, 21, 22, 23, 24, 25, 26, 27, 28, 29, 30, 31, 32, 33, 34, 35, 36, 37, 38, 39, 40, 41, 42, 43, 44, 45, 46, 47, 48, 49] (by decide +kernel) (by decide +kernel)
set_option maxRecDepth 20000 in
theorem gX4_may_X4_isLet : GoodIn wsX4_may (wsV RX4 190 RX4 yX4_isLet wsX4_isLet) := goodIn_app (goodIn_of _ (by decide +kernel)) ggX4_may_X4_isLet
theorem dX4_may_0 : decode cX4_may 0 = .ok (.aload_n 0, 1) := by decide +kernel
theorem dX4_may_1 : decode cX4_may 1 = .ok (.iload_n 1, 1) := by decide +kernel
theorem dX4_may_2 : decode cX4_may 2 = .ok (.invokevirtual 164, 3) := by decide +kernel
theorem dX4_may_5 : decode cX4_may 5 = .ok (.astore_n 3, 1) := by decide +kernel
theorem dX4_may_6 : decode cX4_may 6 = .ok (.iload_n 2, 1) := by decide +kernel
theorem dX4_may_7 : decode cX4_may 7 = .ok (.invokestatic 186, 3) := by decide +kernel
theorem dX4_may_10 : decode cX4_may 10 = .ok (.aload_n 0, 1) := by decide +kernel
theorem dX4_may_11 : decode cX4_may 11 = .ok (.aload_n 3, 1) := by decide +kernel
theorem dX4_may_12 : decode cX4_may 12 = .ok (.iload_n 2, 1) := by decide +kernel
theorem dX4_may_13 : decode cX4_may 13 = .ok (.invokevirtual 190, 3) := by decide +kernel
theorem dX4_may_16 : decode cX4_may 16 = .ok (.ireturn, 1) := by decide +kernel
set_option maxRecDepth 20000 in
theorem ggX4_tell_X4_caskAt : GoodIn wsX4_tell wsX4_caskAt := goodIn_ca (goodIn_r _ [7, 8, 9, 10, 41, 42, 43, 44, 45, 46, 47, 48, 49, 50, 51] (by decide +kernel) (by decide +kernel)) (goodIn_sub (fun _ h => List.mem_cons_of_mem _ (List.mem_append_left _ (List.mem_append_right _ h))) (by decide +kernel))
set_option maxRecDepth 20000 in
theorem gX4_tell_X4_caskAt : GoodIn wsX4_tell (wsV RX4 164 RX4 yX4_caskAt wsX4_caskAt) := goodIn_app (goodIn_of _ (by decide +kernel)) ggX4_tell_X4_caskAt
set_option maxRecDepth 20000 in
theorem ggX4_tell_X4_checkKind : GoodIn wsX4_tell wsX4_checkKind := goodIn_ca (goodIn_r _ [13, 14, 15] (by decide +kernel) (by decide +kernel)) (goodIn_sub (fun _ h => List.mem_cons_of_mem _ (List.mem_append_right _ h)) (by decide +kernel))
set_option maxRecDepth 20000 in
theorem gX4_tell_X4_checkKind : GoodIn wsX4_tell (va_wsS RX4 186 yX4_checkKind wsX4_checkKind) := goodIn_app (goodIn_of _ (by decide +kernel)) ggX4_tell_X4_checkKind
set_option maxRecDepth 20000 in
theorem ggX4_tell_X4_isLet : GoodIn wsX4_tell wsX4_isLet := goodIn_r _ [19, 20, 21, 22, 23, 24, 25, 26, 27, 28, 41, 42, 43, 44, 45, 46, 47, 48, 49, 50, 51, 52, 53, 54, 55, 56, 57, 58, 59, 60, 61, 62, 63] (by decide +kernel) (by decide +kernel)
set_option maxRecDepth 20000 in
theorem gX4_tell_X4_isLet : GoodIn wsX4_tell (wsV RX4 190 RX4 yX4_isLet wsX4_isLet) := goodIn_app (goodIn_of _ (by decide +kernel)) ggX4_tell_X4_isLet
set_option maxRecDepth 20000 in
theorem ggX4_tell_X1_meet : GoodIn wsX4_tell wsX1_meet := goodIn_r _ [32, 26, 27, 28, 52, 53, 54, 55, 56, 57, 58, 59, 60, 61, 62, 63] (by decide +kernel) (by decide +kernel)
set_option maxRecDepth 20000 in
theorem gX4_tell_X1_meet : GoodIn wsX4_tell (wsV RX4 197 RX1 yX1_meet wsX1_meet) := goodIn_app (goodIn_of _ (by decide +kernel)) ggX4_tell_X1_meet
set_option maxRecDepth 20000 in
theorem ggX4_tell_X1_addEntry : GoodIn wsX4_tell wsX1_addEntry := goodIn_r _ [36, 37, 38, 39, 40, 52, 53, 54, 55, 56, 57, 58, 59] (by decide +kernel) (by decide +kernel)
set_option maxRecDepth 20000 in
theorem gX4_tell_X1_addEntry : GoodIn wsX4_tell (wsV RX4 200 RX1 yX1_addEntry wsX1_addEntry) := goodIn_app (goodIn_of _ (by decide +kernel)) ggX4_tell_X1_addEntry
theorem dX4_tell_0 : decode cX4_tell 0 = .ok (.aload_n 0, 1) := by decide +kernel
theorem dX4_tell_1 : decode cX4_tell 1 = .ok (.iload_n 1, 1) := by decide +kernel
theorem dX4_tell_2 : decode cX4_tell 2 = .ok (.invokevirtual 164, 3) := by decide +kernel
theorem dX4_tell_5 : decode cX4_tell 5 = .ok (.astore 4, 2) := by decide +kernel
theorem dX4_tell_7 : decode cX4_tell 7 = .ok (.iload_n 3, 1) := by decide +kernel
theorem dX4_tell_8 : decode cX4_tell 8 = .ok (.bipush 16, 2) := by decide +kernel
theorem dX4_tell_10 : decode cX4_tell 10 = .ok (.if_icmp .eq 7, 3) := by decide +kernel
theorem dX4_tell_13 : decode cX4_tell 13 = .ok (.iload_n 3, 1) := by decide +kernel
theorem dX4_tell_14 : decode cX4_tell 14 = .ok (.invokestatic 186, 3) := by decide +kernel
theorem dX4_tell_17 : decode cX4_tell 17 = .ok (.iload_n 2, 1) := by decide +kernel
theorem dX4_tell_18 : decode cX4_tell 18 = .ok (.ifCond .lt 21, 3) := by decide +kernel
theorem dX4_tell_21 : decode cX4_tell 21 = .ok (.iload_n 2, 1) := by decide +kernel
theorem dX4_tell_22 : decode cX4_tell 22 = .ok (.aload_n 0, 1) := by decide +kernel
theorem dX4_tell_23 : decode cX4_tell 23 = .ok (.getfield 88, 3) := by decide +kernel
theorem dX4_tell_26 : decode cX4_tell 26 = .ok (.if_icmp .gt 13, 3) := by decide +kernel
theorem dX4_tell_29 : decode cX4_tell 29 = .ok (.aload 4, 2) := by decide +kernel
theorem dX4_tell_31 : decode cX4_tell 31 = .ok (.getfield 194, 3) := by decide +kernel
theorem dX4_tell_34 : decode cX4_tell 34 = .ok (.bipush 40, 2) := by decide +kernel
theorem dX4_tell_36 : decode cX4_tell 36 = .ok (.if_icmp .lt 5, 3) := by decide +kernel
theorem dX4_tell_39 : decode cX4_tell 39 = .ok (.iconst (-1), 1) := by decide +kernel
theorem dX4_tell_40 : decode cX4_tell 40 = .ok (.ireturn, 1) := by decide +kernel
theorem dX4_tell_41 : decode cX4_tell 41 = .ok (.iload_n 3, 1) := by decide +kernel
theorem dX4_tell_42 : decode cX4_tell 42 = .ok (.bipush 16, 2) := by decide +kernel
theorem dX4_tell_44 : decode cX4_tell 44 = .ok (.if_icmp .eq 21, 3) := by decide +kernel
theorem dX4_tell_47 : decode cX4_tell 47 = .ok (.aload_n 0, 1) := by decide +kernel
theorem dX4_tell_48 : decode cX4_tell 48 = .ok (.aload 4, 2) := by decide +kernel
theorem dX4_tell_50 : decode cX4_tell 50 = .ok (.iload_n 3, 1) := by decide +kernel
theorem dX4_tell_51 : decode cX4_tell 51 = .ok (.invokevirtual 190, 3) := by decide +kernel
theorem dX4_tell_54 : decode cX4_tell 54 = .ok (.ifCond .ne 5, 3) := by decide +kernel
theorem dX4_tell_57 : decode cX4_tell 57 = .ok (.iconst (-1), 1) := by decide +kernel
theorem dX4_tell_58 : decode cX4_tell 58 = .ok (.ireturn, 1) := by decide +kernel
theorem dX4_tell_59 : decode cX4_tell 59 = .ok (.aload 4, 2) := by decide +kernel
theorem dX4_tell_61 : decode cX4_tell 61 = .ok (.iload_n 3, 1) := by decide +kernel
theorem dX4_tell_62 : decode cX4_tell 62 = .ok (.invokevirtual 197, 3) := by decide +kernel
theorem dX4_tell_65 : decode cX4_tell 65 = .ok (.aload 4, 2) := by decide +kernel
theorem dX4_tell_67 : decode cX4_tell 67 = .ok (.iload_n 2, 1) := by decide +kernel
theorem dX4_tell_68 : decode cX4_tell 68 = .ok (.aload_n 0, 1) := by decide +kernel
theorem dX4_tell_69 : decode cX4_tell 69 = .ok (.getfield 88, 3) := by decide +kernel
theorem dX4_tell_72 : decode cX4_tell 72 = .ok (.iload_n 3, 1) := by decide +kernel
theorem dX4_tell_73 : decode cX4_tell 73 = .ok (.invokevirtual 200, 3) := by decide +kernel
theorem dX4_tell_76 : decode cX4_tell 76 = .ok (.aload 4, 2) := by decide +kernel
theorem dX4_tell_78 : decode cX4_tell 78 = .ok (.getfield 194, 3) := by decide +kernel
theorem dX4_tell_81 : decode cX4_tell 81 = .ok (.ireturn, 1) := by decide +kernel
set_option maxRecDepth 20000 in
theorem ggX4_held_X4_caskAt : GoodIn wsX4_held wsX4_caskAt := goodIn_ca (goodIn_r _ [5, 6, 7, 8, 18, 19, 20, 21, 22, 23, 24, 25, 26, 27, 28] (by decide +kernel) (by decide +kernel)) (goodIn_sub (fun _ h => List.mem_cons_of_mem _ (List.mem_append_right _ h)) (by decide +kernel))
set_option maxRecDepth 20000 in
theorem gX4_held_X4_caskAt : GoodIn wsX4_held (wsV RX4 164 RX4 yX4_caskAt wsX4_caskAt) := goodIn_app (goodIn_of _ (by decide +kernel)) ggX4_held_X4_caskAt
set_option maxRecDepth 20000 in
theorem ggX4_held_X1_heldOn : GoodIn wsX4_held wsX1_heldOn := goodIn_r _ [13, 14, 15, 16, 17, 29, 30, 31, 32, 33, 34, 35, 36] (by decide +kernel) (by decide +kernel)
set_option maxRecDepth 20000 in
theorem gX4_held_X1_heldOn : GoodIn wsX4_held (wsV RX4 203 RX1 yX1_heldOn wsX1_heldOn) := goodIn_app (goodIn_of _ (by decide +kernel)) ggX4_held_X1_heldOn
theorem dX4_held_0 : decode cX4_held 0 = .ok (.aload_n 0, 1) := by decide +kernel
theorem dX4_held_1 : decode cX4_held 1 = .ok (.iload_n 1, 1) := by decide +kernel
theorem dX4_held_2 : decode cX4_held 2 = .ok (.invokevirtual 164, 3) := by decide +kernel
theorem dX4_held_5 : decode cX4_held 5 = .ok (.iload_n 2, 1) := by decide +kernel
theorem dX4_held_6 : decode cX4_held 6 = .ok (.iload_n 3, 1) := by decide +kernel
theorem dX4_held_7 : decode cX4_held 7 = .ok (.invokevirtual 203, 3) := by decide +kernel
theorem dX4_held_10 : decode cX4_held 10 = .ok (.ireturn, 1) := by decide +kernel
set_option maxRecDepth 20000 in
theorem ggX4_lacks_X4_caskAt : GoodIn wsX4_lacks wsX4_caskAt := goodIn_ca (goodIn_r _ [13, 14, 15, 16, 32, 33, 34, 35, 36, 37, 38, 39, 40, 41, 42] (by decide +kernel) (by decide +kernel)) (goodIn_sub (fun _ h => List.mem_cons_of_mem _ (List.mem_append_right _ h)) (by decide +kernel))
set_option maxRecDepth 20000 in
theorem gX4_lacks_X4_caskAt : GoodIn wsX4_lacks (wsV RX4 164 RX4 yX4_caskAt wsX4_caskAt) := goodIn_app (goodIn_of _ (by decide +kernel)) ggX4_lacks_X4_caskAt
set_option maxRecDepth 20000 in
theorem ggX4_lacks_X1_nextEntryDay : GoodIn wsX4_lacks wsX1_nextEntryDay := goodIn_r _ [21, 22, 23, 24, 25, 5, 6, 7, 43, 44, 45, 46, 47, 48, 49, 50] (by decide +kernel) (by decide +kernel)
set_option maxRecDepth 20000 in
theorem gX4_lacks_X1_nextEntryDay : GoodIn wsX4_lacks (wsV RX4 208 RX1 yX1_nextEntryDay wsX1_nextEntryDay) := goodIn_app (goodIn_of _ (by decide +kernel)) ggX4_lacks_X1_nextEntryDay
set_option maxRecDepth 20000 in
theorem ggX4_lacks_X1_heldOn : GoodIn wsX4_lacks wsX1_heldOn := goodIn_r _ [29, 23, 30, 24, 31, 43, 44, 45, 46, 47, 48, 49, 50] (by decide +kernel) (by decide +kernel)
set_option maxRecDepth 20000 in
theorem gX4_lacks_X1_heldOn : GoodIn wsX4_lacks (wsV RX4 203 RX1 yX1_heldOn wsX1_heldOn) := goodIn_app (goodIn_of _ (by decide +kernel)) ggX4_lacks_X1_heldOn
theorem dX4_lacks_0 : decode cX4_lacks 0 = .ok (.aload_n 0, 1) := by decide +kernel
theorem dX4_lacks_1 : decode cX4_lacks 1 = .ok (.iload_n 1, 1) := by decide +kernel
theorem dX4_lacks_2 : decode cX4_lacks 2 = .ok (.invokevirtual 164, 3) := by decide +kernel
theorem dX4_lacks_5 : decode cX4_lacks 5 = .ok (.astore 5, 2) := by decide +kernel
theorem dX4_lacks_7 : decode cX4_lacks 7 = .ok (.iload_n 2, 1) := by decide +kernel
theorem dX4_lacks_8 : decode cX4_lacks 8 = .ok (.ifCond .lt 25, 3) := by decide +kernel
theorem dX4_lacks_11 : decode cX4_lacks 11 = .ok (.iload_n 2, 1) := by decide +kernel
theorem dX4_lacks_12 : decode cX4_lacks 12 = .ok (.iload_n 3, 1) := by decide +kernel
theorem dX4_lacks_13 : decode cX4_lacks 13 = .ok (.if_icmp .gt 20, 3) := by decide +kernel
theorem dX4_lacks_16 : decode cX4_lacks 16 = .ok (.iload_n 3, 1) := by decide +kernel
theorem dX4_lacks_17 : decode cX4_lacks 17 = .ok (.ldc 87, 2) := by decide +kernel
theorem dX4_lacks_19 : decode cX4_lacks 19 = .ok (.if_icmp .gt 14, 3) := by decide +kernel
theorem dX4_lacks_22 : decode cX4_lacks 22 = .ok (.iload 4, 2) := by decide +kernel
theorem dX4_lacks_24 : decode cX4_lacks 24 = .ok (.ifCond .lt 9, 3) := by decide +kernel
theorem dX4_lacks_27 : decode cX4_lacks 27 = .ok (.iload 4, 2) := by decide +kernel
theorem dX4_lacks_29 : decode cX4_lacks 29 = .ok (.iconst 1, 1) := by decide +kernel
theorem dX4_lacks_30 : decode cX4_lacks 30 = .ok (.if_icmp .le 13, 3) := by decide +kernel
theorem dX4_lacks_33 : decode cX4_lacks 33 = .ok (.new 77, 3) := by decide +kernel
theorem dX4_lacks_36 : decode cX4_lacks 36 = .ok (.dup, 1) := by decide +kernel
theorem dX4_lacks_37 : decode cX4_lacks 37 = .ok (.ldc 206, 2) := by decide +kernel
theorem dX4_lacks_39 : decode cX4_lacks 39 = .ok (.invokespecial 81, 3) := by decide +kernel
theorem dX4_lacks_42 : decode cX4_lacks 42 = .ok (.athrow, 1) := by decide +kernel
theorem dX4_lacks_43 : decode cX4_lacks 43 = .ok (.iload 4, 2) := by decide +kernel
theorem dX4_lacks_45 : decode cX4_lacks 45 = .ok (.ifCond .ne 7, 3) := by decide +kernel
theorem dX4_lacks_48 : decode cX4_lacks 48 = .ok (.iconst (-1), 1) := by decide +kernel
theorem dX4_lacks_49 : decode cX4_lacks 49 = .ok (.goto 5, 3) := by decide +kernel
theorem dX4_lacks_52 : decode cX4_lacks 52 = .ok (.bipush 16, 2) := by decide +kernel
theorem dX4_lacks_54 : decode cX4_lacks 54 = .ok (.istore 6, 2) := by decide +kernel
theorem dX4_lacks_56 : decode cX4_lacks 56 = .ok (.iconst 0, 1) := by decide +kernel
theorem dX4_lacks_57 : decode cX4_lacks 57 = .ok (.istore 7, 2) := by decide +kernel
theorem dX4_lacks_59 : decode cX4_lacks 59 = .ok (.iload_n 2, 1) := by decide +kernel
theorem dX4_lacks_60 : decode cX4_lacks 60 = .ok (.istore 8, 2) := by decide +kernel
theorem dX4_lacks_62 : decode cX4_lacks 62 = .ok (.iconst 0, 1) := by decide +kernel
theorem dX4_lacks_63 : decode cX4_lacks 63 = .ok (.istore 9, 2) := by decide +kernel
theorem dX4_lacks_65 : decode cX4_lacks 65 = .ok (.iload 9, 2) := by decide +kernel
theorem dX4_lacks_67 : decode cX4_lacks 67 = .ok (.bipush 40, 2) := by decide +kernel
theorem dX4_lacks_69 : decode cX4_lacks 69 = .ok (.if_icmp .gt 60, 3) := by decide +kernel
theorem dX4_lacks_72 : decode cX4_lacks 72 = .ok (.iload 8, 2) := by decide +kernel
theorem dX4_lacks_74 : decode cX4_lacks 74 = .ok (.iload_n 3, 1) := by decide +kernel
theorem dX4_lacks_75 : decode cX4_lacks 75 = .ok (.if_icmp .gt 54, 3) := by decide +kernel
theorem dX4_lacks_78 : decode cX4_lacks 78 = .ok (.aload 5, 2) := by decide +kernel
theorem dX4_lacks_80 : decode cX4_lacks 80 = .ok (.iload 8, 2) := by decide +kernel
theorem dX4_lacks_82 : decode cX4_lacks 82 = .ok (.invokevirtual 208, 3) := by decide +kernel
theorem dX4_lacks_85 : decode cX4_lacks 85 = .ok (.iload_n 3, 1) := by decide +kernel
theorem dX4_lacks_86 : decode cX4_lacks 86 = .ok (.iconst 1, 1) := by decide +kernel
theorem dX4_lacks_87 : decode cX4_lacks 87 = .ok (.iadd, 1) := by decide +kernel
theorem dX4_lacks_88 : decode cX4_lacks 88 = .ok (.invokestatic 109, 3) := by decide +kernel
theorem dX4_lacks_91 : decode cX4_lacks 91 = .ok (.istore 10, 2) := by decide +kernel
theorem dX4_lacks_93 : decode cX4_lacks 93 = .ok (.aload 5, 2) := by decide +kernel
theorem dX4_lacks_95 : decode cX4_lacks 95 = .ok (.iload 8, 2) := by decide +kernel
theorem dX4_lacks_97 : decode cX4_lacks 97 = .ok (.aload_n 0, 1) := by decide +kernel
theorem dX4_lacks_98 : decode cX4_lacks 98 = .ok (.getfield 88, 3) := by decide +kernel
theorem dX4_lacks_101 : decode cX4_lacks 101 = .ok (.invokevirtual 203, 3) := by decide +kernel
theorem dX4_lacks_104 : decode cX4_lacks 104 = .ok (.iload 6, 2) := by decide +kernel
theorem dX4_lacks_106 : decode cX4_lacks 106 = .ok (.if_icmp .ne 13, 3) := by decide +kernel
theorem dX4_lacks_109 : decode cX4_lacks 109 = .ok (.iload 7, 2) := by decide +kernel
theorem dX4_lacks_111 : decode cX4_lacks 111 = .ok (.iload 10, 2) := by decide +kernel
theorem dX4_lacks_113 : decode cX4_lacks 113 = .ok (.iload 8, 2) := by decide +kernel
theorem dX4_lacks_115 : decode cX4_lacks 115 = .ok (.isub, 1) := by decide +kernel
theorem dX4_lacks_116 : decode cX4_lacks 116 = .ok (.iadd, 1) := by decide +kernel
theorem dX4_lacks_117 : decode cX4_lacks 117 = .ok (.istore 7, 2) := by decide +kernel
theorem dX4_lacks_119 : decode cX4_lacks 119 = .ok (.iload 10, 2) := by decide +kernel
theorem dX4_lacks_121 : decode cX4_lacks 121 = .ok (.istore 8, 2) := by decide +kernel
theorem dX4_lacks_123 : decode cX4_lacks 123 = .ok (.iinc 9 1, 3) := by decide +kernel
theorem dX4_lacks_126 : decode cX4_lacks 126 = .ok (.goto (-61), 3) := by decide +kernel
theorem dX4_lacks_129 : decode cX4_lacks 129 = .ok (.iload 7, 2) := by decide +kernel
theorem dX4_lacks_131 : decode cX4_lacks 131 = .ok (.ireturn, 1) := by decide +kernel
set_option maxRecDepth 20000 in
theorem ggX4_swap_X4_caskAt : GoodIn wsX4_swap wsX4_caskAt := goodIn_ca (goodIn_r _ [8, 9, 10, 11, 43, 44, 45, 46, 47, 48, 49, 50, 51, 52, 53] (by decide +kernel) (by decide +kernel)) (goodIn_sub (fun _ h => List.mem_cons_of_mem _ (List.mem_append_right _ h)) (by decide +kernel))
set_option maxRecDepth 20000 in
theorem gX4_swap_X4_caskAt : GoodIn wsX4_swap (wsV RX4 164 RX4 yX4_caskAt wsX4_caskAt) := goodIn_app (goodIn_of _ (by decide +kernel)) ggX4_swap_X4_caskAt
set_option maxRecDepth 20000 in
theorem ggX4_swap_X4_checkStave : GoodIn wsX4_swap wsX4_checkStave := goodIn_ca (goodIn_r _ [14, 9, 10, 15, 54, 55, 56, 57] (by decide +kernel) (by decide +kernel)) (goodIn_sub (fun _ h => List.mem_cons_of_mem _ (List.mem_append_right _ h)) (by decide +kernel))
set_option maxRecDepth 20000 in
theorem gX4_swap_X4_checkStave : GoodIn wsX4_swap (va_wsS RX4 67 yX4_checkStave wsX4_checkStave) := goodIn_app (goodIn_of _ (by decide +kernel)) ggX4_swap_X4_checkStave
set_option maxRecDepth 20000 in
theorem ggX4_swap_X2_bilgeWidth : GoodIn wsX4_swap wsX2_bilgeWidth := goodIn_r _ [20, 21, 22, 23, 24, 19, 25, 26, 27, 28, 29, 30, 31, 32, 33, 7, 34, 54, 55, 56, 57] (by decide +kernel) (by decide +kernel)
set_option maxRecDepth 20000 in
theorem gX4_swap_X2_bilgeWidth : GoodIn wsX4_swap (wsV RX4 174 RX2 yX2_bilgeWidth wsX2_bilgeWidth) := goodIn_app (goodIn_of _ (by decide +kernel)) ggX4_swap_X2_bilgeWidth
theorem dX4_swap_0 : decode cX4_swap 0 = .ok (.aload_n 0, 1) := by decide +kernel
theorem dX4_swap_1 : decode cX4_swap 1 = .ok (.iload_n 1, 1) := by decide +kernel
theorem dX4_swap_2 : decode cX4_swap 2 = .ok (.invokevirtual 164, 3) := by decide +kernel
theorem dX4_swap_5 : decode cX4_swap 5 = .ok (.astore 5, 2) := by decide +kernel
theorem dX4_swap_7 : decode cX4_swap 7 = .ok (.aload_n 0, 1) := by decide +kernel
theorem dX4_swap_8 : decode cX4_swap 8 = .ok (.iload_n 3, 1) := by decide +kernel
theorem dX4_swap_9 : decode cX4_swap 9 = .ok (.invokevirtual 164, 3) := by decide +kernel
theorem dX4_swap_12 : decode cX4_swap 12 = .ok (.astore 6, 2) := by decide +kernel
theorem dX4_swap_14 : decode cX4_swap 14 = .ok (.aload 5, 2) := by decide +kernel
theorem dX4_swap_16 : decode cX4_swap 16 = .ok (.getfield 168, 3) := by decide +kernel
theorem dX4_swap_19 : decode cX4_swap 19 = .ok (.iload_n 2, 1) := by decide +kernel
theorem dX4_swap_20 : decode cX4_swap 20 = .ok (.invokestatic 67, 3) := by decide +kernel
theorem dX4_swap_23 : decode cX4_swap 23 = .ok (.aload 6, 2) := by decide +kernel
theorem dX4_swap_25 : decode cX4_swap 25 = .ok (.getfield 168, 3) := by decide +kernel
theorem dX4_swap_28 : decode cX4_swap 28 = .ok (.iload 4, 2) := by decide +kernel
theorem dX4_swap_30 : decode cX4_swap 30 = .ok (.invokestatic 67, 3) := by decide +kernel
theorem dX4_swap_33 : decode cX4_swap 33 = .ok (.iload_n 1, 1) := by decide +kernel
theorem dX4_swap_34 : decode cX4_swap 34 = .ok (.iload_n 3, 1) := by decide +kernel
theorem dX4_swap_35 : decode cX4_swap 35 = .ok (.if_icmp .eq 25, 3) := by decide +kernel
theorem dX4_swap_38 : decode cX4_swap 38 = .ok (.aload 5, 2) := by decide +kernel
theorem dX4_swap_40 : decode cX4_swap 40 = .ok (.getfield 168, 3) := by decide +kernel
theorem dX4_swap_43 : decode cX4_swap 43 = .ok (.iload_n 2, 1) := by decide +kernel
theorem dX4_swap_44 : decode cX4_swap 44 = .ok (.invokevirtual 174, 3) := by decide +kernel
theorem dX4_swap_47 : decode cX4_swap 47 = .ok (.aload 6, 2) := by decide +kernel
theorem dX4_swap_49 : decode cX4_swap 49 = .ok (.getfield 168, 3) := by decide +kernel
theorem dX4_swap_52 : decode cX4_swap 52 = .ok (.iload 4, 2) := by decide +kernel
theorem dX4_swap_54 : decode cX4_swap 54 = .ok (.invokevirtual 174, 3) := by decide +kernel
theorem dX4_swap_57 : decode cX4_swap 57 = .ok (.if_icmp .eq 5, 3) := by decide +kernel
theorem dX4_swap_60 : decode cX4_swap 60 = .ok (.iconst 0, 1) := by decide +kernel
theorem dX4_swap_61 : decode cX4_swap 61 = .ok (.ireturn, 1) := by decide +kernel
theorem dX4_swap_62 : decode cX4_swap 62 = .ok (.aload 5, 2) := by decide +kernel
theorem dX4_swap_64 : decode cX4_swap 64 = .ok (.getfield 177, 3) := by decide +kernel
theorem dX4_swap_67 : decode cX4_swap 67 = .ok (.iload_n 2, 1) := by decide +kernel
theorem dX4_swap_68 : decode cX4_swap 68 = .ok (.iaload, 1) := by decide +kernel
theorem dX4_swap_69 : decode cX4_swap 69 = .ok (.istore 7, 2) := by decide +kernel
theorem dX4_swap_71 : decode cX4_swap 71 = .ok (.aload 5, 2) := by decide +kernel
theorem dX4_swap_73 : decode cX4_swap 73 = .ok (.getfield 180, 3) := by decide +kernel
theorem dX4_swap_76 : decode cX4_swap 76 = .ok (.iload_n 2, 1) := by decide +kernel
theorem dX4_swap_77 : decode cX4_swap 77 = .ok (.iaload, 1) := by decide +kernel
theorem dX4_swap_78 : decode cX4_swap 78 = .ok (.istore 8, 2) := by decide +kernel
theorem dX4_swap_80 : decode cX4_swap 80 = .ok (.aload 5, 2) := by decide +kernel
theorem dX4_swap_82 : decode cX4_swap 82 = .ok (.getfield 177, 3) := by decide +kernel
theorem dX4_swap_85 : decode cX4_swap 85 = .ok (.iload_n 2, 1) := by decide +kernel
theorem dX4_swap_86 : decode cX4_swap 86 = .ok (.aload 6, 2) := by decide +kernel
theorem dX4_swap_88 : decode cX4_swap 88 = .ok (.getfield 177, 3) := by decide +kernel
theorem dX4_swap_91 : decode cX4_swap 91 = .ok (.iload 4, 2) := by decide +kernel
theorem dX4_swap_93 : decode cX4_swap 93 = .ok (.iaload, 1) := by decide +kernel
theorem dX4_swap_94 : decode cX4_swap 94 = .ok (.iastore, 1) := by decide +kernel
theorem dX4_swap_95 : decode cX4_swap 95 = .ok (.aload 5, 2) := by decide +kernel
theorem dX4_swap_97 : decode cX4_swap 97 = .ok (.getfield 180, 3) := by decide +kernel
theorem dX4_swap_100 : decode cX4_swap 100 = .ok (.iload_n 2, 1) := by decide +kernel
theorem dX4_swap_101 : decode cX4_swap 101 = .ok (.aload 6, 2) := by decide +kernel
theorem dX4_swap_103 : decode cX4_swap 103 = .ok (.getfield 180, 3) := by decide +kernel
theorem dX4_swap_106 : decode cX4_swap 106 = .ok (.iload 4, 2) := by decide +kernel
theorem dX4_swap_108 : decode cX4_swap 108 = .ok (.iaload, 1) := by decide +kernel
theorem dX4_swap_109 : decode cX4_swap 109 = .ok (.iastore, 1) := by decide +kernel
theorem dX4_swap_110 : decode cX4_swap 110 = .ok (.aload 6, 2) := by decide +kernel
theorem dX4_swap_112 : decode cX4_swap 112 = .ok (.getfield 177, 3) := by decide +kernel
theorem dX4_swap_115 : decode cX4_swap 115 = .ok (.iload 4, 2) := by decide +kernel
theorem dX4_swap_117 : decode cX4_swap 117 = .ok (.iload 7, 2) := by decide +kernel
theorem dX4_swap_119 : decode cX4_swap 119 = .ok (.iastore, 1) := by decide +kernel
theorem dX4_swap_120 : decode cX4_swap 120 = .ok (.aload 6, 2) := by decide +kernel
theorem dX4_swap_122 : decode cX4_swap 122 = .ok (.getfield 180, 3) := by decide +kernel
theorem dX4_swap_125 : decode cX4_swap 125 = .ok (.iload 4, 2) := by decide +kernel
theorem dX4_swap_127 : decode cX4_swap 127 = .ok (.iload 8, 2) := by decide +kernel
theorem dX4_swap_129 : decode cX4_swap 129 = .ok (.iastore, 1) := by decide +kernel
theorem dX4_swap_130 : decode cX4_swap 130 = .ok (.iconst 1, 1) := by decide +kernel
theorem dX4_swap_131 : decode cX4_swap 131 = .ok (.ireturn, 1) := by decide +kernel
set_option maxRecDepth 20000 in
theorem ggX4_renew_X4_caskAt : GoodIn wsX4_renew wsX4_caskAt := goodIn_ca (goodIn_r _ [10, 11, 12, 13, 67, 68, 69, 70, 71, 72, 73, 74, 75, 76, 77] (by decide +kernel) (by decide +kernel)) (goodIn_sub (fun _ h => List.mem_cons_of_mem _ (List.mem_append_right _ h)) (by decide +kernel))
set_option maxRecDepth 20000 in
theorem gX4_renew_X4_caskAt : GoodIn wsX4_renew (wsV RX4 164 RX4 yX4_caskAt wsX4_caskAt) := goodIn_app (goodIn_of _ (by decide +kernel)) ggX4_renew_X4_caskAt
set_option maxRecDepth 20000 in
theorem ggX4_renew_X4_checkStave : GoodIn wsX4_renew wsX4_checkStave := goodIn_ca (goodIn_r _ [16, 11, 12, 17, 78, 79, 80, 81] (by decide +kernel) (by decide +kernel)) (goodIn_sub (fun _ h => List.mem_cons_of_mem _ (List.mem_append_right _ h)) (by decide +kernel))
set_option maxRecDepth 20000 in
theorem gX4_renew_X4_checkStave : GoodIn wsX4_renew (va_wsS RX4 67 yX4_checkStave wsX4_checkStave) := goodIn_app (goodIn_of _ (by decide +kernel)) ggX4_renew_X4_checkStave
set_option maxRecDepth 20000 in
theorem ggX4_renew_X2_bilgeWidth : GoodIn wsX4_renew wsX2_bilgeWidth := goodIn_r _ [22, 23, 24, 25, 26, 21, 27, 28, 29, 30, 31, 32, 33, 34, 35, 9, 36, 78, 79, 80, 81] (by decide +kernel) (by decide +kernel)
set_option maxRecDepth 20000 in
theorem gX4_renew_X2_bilgeWidth : GoodIn wsX4_renew (wsV RX4 174 RX2 yX2_bilgeWidth wsX2_bilgeWidth) := goodIn_app (goodIn_of _ (by decide +kernel)) ggX4_renew_X2_bilgeWidth
set_option maxRecDepth 20000 in
theorem ggX4_renew_X4_isRipe : GoodIn wsX4_renew wsX4_isRipe := goodIn_r _ [40, 41, 42, 67, 68, 69, 70, 71, 72, 73, 74, 75, 76, 77, 82, 83, 84, 85] (by decide +kernel) (by decide +kernel)
set_option maxRecDepth 20000 in
theorem gX4_renew_X4_isRipe : GoodIn wsX4_renew (wsV RX4 130 RX4 yX4_isRipe wsX4_isRipe) := goodIn_app (goodIn_of _ (by decide +kernel)) ggX4_renew_X4_isRipe
set_option maxRecDepth 20000 in
theorem ggX4_renew_X0_cutFirst : GoodIn wsX4_renew wsX0_cutFirst := goodIn_r _ [47, 48, 49, 50, 51, 52, 53, 46, 54, 55, 56, 57, 58, 82, 83, 84, 85] (by decide +kernel) (by decide +kernel)
set_option maxRecDepth 20000 in
theorem gX4_renew_X0_cutFirst : GoodIn wsX4_renew (wsV RX4 211 RX0 yX0_cutFirst wsX0_cutFirst) := goodIn_app (goodIn_of _ (by decide +kernel)) ggX4_renew_X0_cutFirst
theorem dX4_renew_0 : decode cX4_renew 0 = .ok (.aload_n 0, 1) := by decide +kernel
theorem dX4_renew_1 : decode cX4_renew 1 = .ok (.iload_n 1, 1) := by decide +kernel
theorem dX4_renew_2 : decode cX4_renew 2 = .ok (.invokevirtual 164, 3) := by decide +kernel
theorem dX4_renew_5 : decode cX4_renew 5 = .ok (.astore_n 3, 1) := by decide +kernel
theorem dX4_renew_6 : decode cX4_renew 6 = .ok (.aload_n 3, 1) := by decide +kernel
theorem dX4_renew_7 : decode cX4_renew 7 = .ok (.getfield 168, 3) := by decide +kernel
theorem dX4_renew_10 : decode cX4_renew 10 = .ok (.iload_n 2, 1) := by decide +kernel
theorem dX4_renew_11 : decode cX4_renew 11 = .ok (.invokestatic 67, 3) := by decide +kernel
theorem dX4_renew_14 : decode cX4_renew 14 = .ok (.aload_n 3, 1) := by decide +kernel
theorem dX4_renew_15 : decode cX4_renew 15 = .ok (.getfield 168, 3) := by decide +kernel
theorem dX4_renew_18 : decode cX4_renew 18 = .ok (.iload_n 2, 1) := by decide +kernel
theorem dX4_renew_19 : decode cX4_renew 19 = .ok (.invokevirtual 174, 3) := by decide +kernel
theorem dX4_renew_22 : decode cX4_renew 22 = .ok (.iconst 2, 1) := by decide +kernel
theorem dX4_renew_23 : decode cX4_renew 23 = .ok (.iadd, 1) := by decide +kernel
theorem dX4_renew_24 : decode cX4_renew 24 = .ok (.istore 4, 2) := by decide +kernel
theorem dX4_renew_26 : decode cX4_renew 26 = .ok (.iconst 0, 1) := by decide +kernel
theorem dX4_renew_27 : decode cX4_renew 27 = .ok (.istore 5, 2) := by decide +kernel
theorem dX4_renew_29 : decode cX4_renew 29 = .ok (.iload 5, 2) := by decide +kernel
theorem dX4_renew_31 : decode cX4_renew 31 = .ok (.aload_n 0, 1) := by decide +kernel
theorem dX4_renew_32 : decode cX4_renew 32 = .ok (.getfield 93, 3) := by decide +kernel
theorem dX4_renew_35 : decode cX4_renew 35 = .ok (.if_icmp .ge 60, 3) := by decide +kernel
theorem dX4_renew_38 : decode cX4_renew 38 = .ok (.aload_n 0, 1) := by decide +kernel
theorem dX4_renew_39 : decode cX4_renew 39 = .ok (.getfield 17, 3) := by decide +kernel
theorem dX4_renew_42 : decode cX4_renew 42 = .ok (.iload 5, 2) := by decide +kernel
theorem dX4_renew_44 : decode cX4_renew 44 = .ok (.aaload, 1) := by decide +kernel
theorem dX4_renew_45 : decode cX4_renew 45 = .ok (.astore 6, 2) := by decide +kernel
theorem dX4_renew_47 : decode cX4_renew 47 = .ok (.aload 6, 2) := by decide +kernel
theorem dX4_renew_49 : decode cX4_renew 49 = .ok (.ifnull 40, 3) := by decide +kernel
theorem dX4_renew_52 : decode cX4_renew 52 = .ok (.aload_n 0, 1) := by decide +kernel
theorem dX4_renew_53 : decode cX4_renew 53 = .ok (.aload 6, 2) := by decide +kernel
theorem dX4_renew_55 : decode cX4_renew 55 = .ok (.invokevirtual 130, 3) := by decide +kernel
theorem dX4_renew_58 : decode cX4_renew 58 = .ok (.ifCond .eq 31, 3) := by decide +kernel
theorem dX4_renew_61 : decode cX4_renew 61 = .ok (.aload 6, 2) := by decide +kernel
theorem dX4_renew_63 : decode cX4_renew 63 = .ok (.iload 4, 2) := by decide +kernel
theorem dX4_renew_65 : decode cX4_renew 65 = .ok (.invokevirtual 211, 3) := by decide +kernel
theorem dX4_renew_68 : decode cX4_renew 68 = .ok (.ifCond .eq 21, 3) := by decide +kernel
theorem dX4_renew_71 : decode cX4_renew 71 = .ok (.aload_n 3, 1) := by decide +kernel
theorem dX4_renew_72 : decode cX4_renew 72 = .ok (.getfield 177, 3) := by decide +kernel
theorem dX4_renew_75 : decode cX4_renew 75 = .ok (.iload_n 2, 1) := by decide +kernel
theorem dX4_renew_76 : decode cX4_renew 76 = .ok (.iload 5, 2) := by decide +kernel
theorem dX4_renew_78 : decode cX4_renew 78 = .ok (.iastore, 1) := by decide +kernel
theorem dX4_renew_79 : decode cX4_renew 79 = .ok (.aload_n 3, 1) := by decide +kernel
theorem dX4_renew_80 : decode cX4_renew 80 = .ok (.getfield 180, 3) := by decide +kernel
theorem dX4_renew_83 : decode cX4_renew 83 = .ok (.iload_n 2, 1) := by decide +kernel
theorem dX4_renew_84 : decode cX4_renew 84 = .ok (.iconst 0, 1) := by decide +kernel
theorem dX4_renew_85 : decode cX4_renew 85 = .ok (.iastore, 1) := by decide +kernel
theorem dX4_renew_86 : decode cX4_renew 86 = .ok (.iload 5, 2) := by decide +kernel
theorem dX4_renew_88 : decode cX4_renew 88 = .ok (.ireturn, 1) := by decide +kernel
theorem dX4_renew_89 : decode cX4_renew 89 = .ok (.iinc 5 1, 3) := by decide +kernel
theorem dX4_renew_92 : decode cX4_renew 92 = .ok (.goto (-63), 3) := by decide +kernel
theorem dX4_renew_95 : decode cX4_renew 95 = .ok (.iconst (-1), 1) := by decide +kernel
theorem dX4_renew_96 : decode cX4_renew 96 = .ok (.ireturn, 1) := by decide +kernel
set_option maxRecDepth 20000 in
theorem ggX4_weight_X4_checkKind : GoodIn wsX4_weight wsX4_checkKind := goodIn_ca (goodIn_r _ [7, 1, 2] (by decide +kernel) (by decide +kernel)) (goodIn_sub (fun _ h => List.mem_cons_of_mem _ (List.mem_append_right _ h)) (by decide +kernel))
set_option maxRecDepth 20000 in
theorem gX4_weight_X4_checkKind : GoodIn wsX4_weight (va_wsS RX4 186 yX4_checkKind wsX4_checkKind) := goodIn_app (goodIn_of _ (by decide +kernel)) ggX4_weight_X4_checkKind
theorem dX4_weight_0 : decode cX4_weight 0 = .ok (.iload_n 1, 1) := by decide +kernel
theorem dX4_weight_1 : decode cX4_weight 1 = .ok (.invokestatic 186, 3) := by decide +kernel
theorem dX4_weight_4 : decode cX4_weight 4 = .ok (.iload_n 2, 1) := by decide +kernel
theorem dX4_weight_5 : decode cX4_weight 5 = .ok (.iconst 1, 1) := by decide +kernel
theorem dX4_weight_6 : decode cX4_weight 6 = .ok (.if_icmp .lt 10, 3) := by decide +kernel
theorem dX4_weight_9 : decode cX4_weight 9 = .ok (.iload_n 2, 1) := by decide +kernel
theorem dX4_weight_10 : decode cX4_weight 10 = .ok (.sipush 5000, 3) := by decide +kernel
theorem dX4_weight_13 : decode cX4_weight 13 = .ok (.if_icmp .le 13, 3) := by decide +kernel
theorem dX4_weight_16 : decode cX4_weight 16 = .ok (.new 77, 3) := by decide +kernel
theorem dX4_weight_19 : decode cX4_weight 19 = .ok (.dup, 1) := by decide +kernel
theorem dX4_weight_20 : decode cX4_weight 20 = .ok (.ldc 215, 2) := by decide +kernel
theorem dX4_weight_22 : decode cX4_weight 22 = .ok (.invokespecial 81, 3) := by decide +kernel
theorem dX4_weight_25 : decode cX4_weight 25 = .ok (.athrow, 1) := by decide +kernel
theorem dX4_weight_26 : decode cX4_weight 26 = .ok (.aload_n 0, 1) := by decide +kernel
theorem dX4_weight_27 : decode cX4_weight 27 = .ok (.getfield 31, 3) := by decide +kernel
theorem dX4_weight_30 : decode cX4_weight 30 = .ok (.iload_n 1, 1) := by decide +kernel
theorem dX4_weight_31 : decode cX4_weight 31 = .ok (.iaload, 1) := by decide +kernel
theorem dX4_weight_32 : decode cX4_weight 32 = .ok (.istore_n 3, 1) := by decide +kernel
theorem dX4_weight_33 : decode cX4_weight 33 = .ok (.aload_n 0, 1) := by decide +kernel
theorem dX4_weight_34 : decode cX4_weight 34 = .ok (.getfield 31, 3) := by decide +kernel
theorem dX4_weight_37 : decode cX4_weight 37 = .ok (.iload_n 1, 1) := by decide +kernel
theorem dX4_weight_38 : decode cX4_weight 38 = .ok (.iload_n 2, 1) := by decide +kernel
theorem dX4_weight_39 : decode cX4_weight 39 = .ok (.iastore, 1) := by decide +kernel
theorem dX4_weight_40 : decode cX4_weight 40 = .ok (.iload_n 3, 1) := by decide +kernel
theorem dX4_weight_41 : decode cX4_weight 41 = .ok (.ireturn, 1) := by decide +kernel
set_option maxRecDepth 20000 in
theorem ggX4_weighs_X4_caskAt : GoodIn wsX4_weighs wsX4_caskAt := goodIn_ca (goodIn_r _ [10, 11, 12, 13, 60, 61, 62, 63, 64, 65, 66, 67, 68, 69, 70] (by decide +kernel) (by decide +kernel)) (goodIn_sub (fun _ h => List.mem_cons_of_mem _ (List.mem_append_left _ (List.mem_append_right _ h))) (by decide +kernel))
set_option maxRecDepth 20000 in
theorem gX4_weighs_X4_caskAt : GoodIn wsX4_weighs (wsV RX4 164 RX4 yX4_caskAt wsX4_caskAt) := goodIn_app (goodIn_of _ (by decide +kernel)) ggX4_weighs_X4_caskAt
set_option maxRecDepth 20000 in
theorem ggX4_weighs_X4_checkHeight : GoodIn wsX4_weighs wsX4_checkHeight := goodIn_ca (goodIn_r _ [16, 17, 18, 19, 71, 72, 73, 74] (by decide +kernel) (by decide +kernel)) (goodIn_sub (fun _ h => List.mem_cons_of_mem _ (List.mem_append_right _ h)) (by decide +kernel))
set_option maxRecDepth 20000 in
theorem gX4_weighs_X4_checkHeight : GoodIn wsX4_weighs (va_wsS RX4 59 yX4_checkHeight wsX4_checkHeight) := goodIn_app (goodIn_of _ (by decide +kernel)) ggX4_weighs_X4_checkHeight
set_option maxRecDepth 20000 in
theorem ggX4_weighs_X1_heldOn : GoodIn wsX4_weighs wsX1_heldOn := goodIn_r _ [24, 25, 26, 27, 28, 52, 53, 54, 55, 56, 57, 58, 59] (by decide +kernel) (by decide +kernel)
set_option maxRecDepth 20000 in
theorem gX4_weighs_X1_heldOn : GoodIn wsX4_weighs (wsV RX4 203 RX1 yX1_heldOn wsX1_heldOn) := goodIn_app (goodIn_of _ (by decide +kernel)) ggX4_weighs_X1_heldOn
set_option maxRecDepth 20000 in
theorem ggX4_weighs_X2_contentTo : GoodIn wsX4_weighs wsX2_contentTo := goodIn_r _ [33, 34, 35, 36, 32, 37, 38, 39, 40, 41, 42, 43, 44, 45, 9, 46, 47, 48, 49, 50, 51, 71, 72, 73, 74] (by decide +kernel) (by decide +kernel)
set_option maxRecDepth 20000 in
theorem gX4_weighs_X2_contentTo : GoodIn wsX4_weighs (wsV RX4 74 RX2 yX2_contentTo wsX2_contentTo) := goodIn_app (goodIn_of _ (by decide +kernel)) ggX4_weighs_X2_contentTo
theorem dX4_weighs_0 : decode cX4_weighs 0 = .ok (.aload_n 0, 1) := by decide +kernel
theorem dX4_weighs_1 : decode cX4_weighs 1 = .ok (.iload_n 1, 1) := by decide +kernel
theorem dX4_weighs_2 : decode cX4_weighs 2 = .ok (.invokevirtual 164, 3) := by decide +kernel
theorem dX4_weighs_5 : decode cX4_weighs 5 = .ok (.astore_n 3, 1) := by decide +kernel
theorem dX4_weighs_6 : decode cX4_weighs 6 = .ok (.aload_n 3, 1) := by decide +kernel
theorem dX4_weighs_7 : decode cX4_weighs 7 = .ok (.getfield 168, 3) := by decide +kernel
theorem dX4_weighs_10 : decode cX4_weighs 10 = .ok (.iload_n 2, 1) := by decide +kernel
theorem dX4_weighs_11 : decode cX4_weighs 11 = .ok (.invokestatic 59, 3) := by decide +kernel
theorem dX4_weighs_14 : decode cX4_weighs 14 = .ok (.aload_n 3, 1) := by decide +kernel
theorem dX4_weighs_15 : decode cX4_weighs 15 = .ok (.aload_n 0, 1) := by decide +kernel
theorem dX4_weighs_16 : decode cX4_weighs 16 = .ok (.getfield 88, 3) := by decide +kernel
theorem dX4_weighs_19 : decode cX4_weighs 19 = .ok (.aload_n 0, 1) := by decide +kernel
theorem dX4_weighs_20 : decode cX4_weighs 20 = .ok (.getfield 88, 3) := by decide +kernel
theorem dX4_weighs_23 : decode cX4_weighs 23 = .ok (.invokevirtual 203, 3) := by decide +kernel
theorem dX4_weighs_26 : decode cX4_weighs 26 = .ok (.istore 4, 2) := by decide +kernel
theorem dX4_weighs_28 : decode cX4_weighs 28 = .ok (.iload 4, 2) := by decide +kernel
theorem dX4_weighs_30 : decode cX4_weighs 30 = .ok (.ifCond .lt 10, 3) := by decide +kernel
theorem dX4_weighs_33 : decode cX4_weighs 33 = .ok (.iload 4, 2) := by decide +kernel
theorem dX4_weighs_35 : decode cX4_weighs 35 = .ok (.bipush 16, 2) := by decide +kernel
theorem dX4_weighs_37 : decode cX4_weighs 37 = .ok (.if_icmp .lt 7, 3) := by decide +kernel
theorem dX4_weighs_40 : decode cX4_weighs 40 = .ok (.ldc2_w 217, 3) := by decide +kernel
theorem dX4_weighs_43 : decode cX4_weighs 43 = .ok (.lreturn, 1) := by decide +kernel
theorem dX4_weighs_44 : decode cX4_weighs 44 = .ok (.aload_n 3, 1) := by decide +kernel
theorem dX4_weighs_45 : decode cX4_weighs 45 = .ok (.getfield 168, 3) := by decide +kernel
theorem dX4_weighs_48 : decode cX4_weighs 48 = .ok (.iload_n 2, 1) := by decide +kernel
theorem dX4_weighs_49 : decode cX4_weighs 49 = .ok (.invokevirtual 74, 3) := by decide +kernel
theorem dX4_weighs_52 : decode cX4_weighs 52 = .ok (.i2l, 1) := by decide +kernel
theorem dX4_weighs_53 : decode cX4_weighs 53 = .ok (.aload_n 0, 1) := by decide +kernel
theorem dX4_weighs_54 : decode cX4_weighs 54 = .ok (.getfield 31, 3) := by decide +kernel
theorem dX4_weighs_57 : decode cX4_weighs 57 = .ok (.iload 4, 2) := by decide +kernel
theorem dX4_weighs_59 : decode cX4_weighs 59 = .ok (.iaload, 1) := by decide +kernel
theorem dX4_weighs_60 : decode cX4_weighs 60 = .ok (.i2l, 1) := by decide +kernel
theorem dX4_weighs_61 : decode cX4_weighs 61 = .ok (.lmul, 1) := by decide +kernel
theorem dX4_weighs_62 : decode cX4_weighs 62 = .ok (.ldc2_w 219, 3) := by decide +kernel
theorem dX4_weighs_65 : decode cX4_weighs 65 = .ok (.ldiv, 1) := by decide +kernel
theorem dX4_weighs_66 : decode cX4_weighs 66 = .ok (.lreturn, 1) := by decide +kernel
theorem dX4_count_0 : decode cX4_count 0 = .ok (.iload_n 1, 1) := by decide +kernel
theorem dX4_count_1 : decode cX4_count 1 = .ok (.tableswitch 51 0 3 #[31, 36, 41, 46], 31) := by decide +kernel
theorem dX4_count_32 : decode cX4_count 32 = .ok (.aload_n 0, 1) := by decide +kernel
theorem dX4_count_33 : decode cX4_count 33 = .ok (.getfield 88, 3) := by decide +kernel
theorem dX4_count_36 : decode cX4_count 36 = .ok (.ireturn, 1) := by decide +kernel
theorem dX4_count_37 : decode cX4_count 37 = .ok (.aload_n 0, 1) := by decide +kernel
theorem dX4_count_38 : decode cX4_count 38 = .ok (.getfield 48, 3) := by decide +kernel
theorem dX4_count_41 : decode cX4_count 41 = .ok (.ireturn, 1) := by decide +kernel
theorem dX4_count_42 : decode cX4_count 42 = .ok (.aload_n 0, 1) := by decide +kernel
theorem dX4_count_43 : decode cX4_count 43 = .ok (.getfield 93, 3) := by decide +kernel
theorem dX4_count_46 : decode cX4_count 46 = .ok (.ireturn, 1) := by decide +kernel
theorem dX4_count_47 : decode cX4_count 47 = .ok (.aload_n 0, 1) := by decide +kernel
theorem dX4_count_48 : decode cX4_count 48 = .ok (.getfield 143, 3) := by decide +kernel
theorem dX4_count_51 : decode cX4_count 51 = .ok (.ireturn, 1) := by decide +kernel
theorem dX4_count_52 : decode cX4_count 52 = .ok (.new 125, 3) := by decide +kernel
theorem dX4_count_55 : decode cX4_count 55 = .ok (.dup, 1) := by decide +kernel
theorem dX4_count_56 : decode cX4_count 56 = .ok (.ldc 172, 2) := by decide +kernel
theorem dX4_count_58 : decode cX4_count 58 = .ok (.invokespecial 129, 3) := by decide +kernel
theorem dX4_count_61 : decode cX4_count 61 = .ok (.athrow, 1) := by decide +kernel
theorem dX4_formAt_0 : decode cX4_formAt 0 = .ok (.iload_n 1, 1) := by decide +kernel
theorem dX4_formAt_1 : decode cX4_formAt 1 = .ok (.ifCond .lt 9, 3) := by decide +kernel
theorem dX4_formAt_4 : decode cX4_formAt 4 = .ok (.iload_n 1, 1) := by decide +kernel
theorem dX4_formAt_5 : decode cX4_formAt 5 = .ok (.bipush 8, 2) := by decide +kernel
theorem dX4_formAt_7 : decode cX4_formAt 7 = .ok (.if_icmp .lt 7, 3) := by decide +kernel
theorem dX4_formAt_10 : decode cX4_formAt 10 = .ok (.aconst_null, 1) := by decide +kernel
theorem dX4_formAt_11 : decode cX4_formAt 11 = .ok (.goto 9, 3) := by decide +kernel
theorem dX4_formAt_14 : decode cX4_formAt 14 = .ok (.aload_n 0, 1) := by decide +kernel
theorem dX4_formAt_15 : decode cX4_formAt 15 = .ok (.getfield 11, 3) := by decide +kernel
theorem dX4_formAt_18 : decode cX4_formAt 18 = .ok (.iload_n 1, 1) := by decide +kernel
theorem dX4_formAt_19 : decode cX4_formAt 19 = .ok (.aaload, 1) := by decide +kernel
theorem dX4_formAt_20 : decode cX4_formAt 20 = .ok (.astore_n 2, 1) := by decide +kernel
theorem dX4_formAt_21 : decode cX4_formAt 21 = .ok (.aload_n 2, 1) := by decide +kernel
theorem dX4_formAt_22 : decode cX4_formAt 22 = .ok (.ifnonnull 13, 3) := by decide +kernel
theorem dX4_formAt_25 : decode cX4_formAt 25 = .ok (.new 125, 3) := by decide +kernel
theorem dX4_formAt_28 : decode cX4_formAt 28 = .ok (.dup, 1) := by decide +kernel
theorem dX4_formAt_29 : decode cX4_formAt 29 = .ok (.ldc 221, 2) := by decide +kernel
theorem dX4_formAt_31 : decode cX4_formAt 31 = .ok (.invokespecial 129, 3) := by decide +kernel
theorem dX4_formAt_34 : decode cX4_formAt 34 = .ok (.athrow, 1) := by decide +kernel
theorem dX4_formAt_35 : decode cX4_formAt 35 = .ok (.aload_n 2, 1) := by decide +kernel
theorem dX4_formAt_36 : decode cX4_formAt 36 = .ok (.areturn, 1) := by decide +kernel
theorem dX4_boltAt_0 : decode cX4_boltAt 0 = .ok (.iload_n 1, 1) := by decide +kernel
theorem dX4_boltAt_1 : decode cX4_boltAt 1 = .ok (.ifCond .lt 9, 3) := by decide +kernel
theorem dX4_boltAt_4 : decode cX4_boltAt 4 = .ok (.iload_n 1, 1) := by decide +kernel
theorem dX4_boltAt_5 : decode cX4_boltAt 5 = .ok (.bipush 40, 2) := by decide +kernel
theorem dX4_boltAt_7 : decode cX4_boltAt 7 = .ok (.if_icmp .lt 7, 3) := by decide +kernel
theorem dX4_boltAt_10 : decode cX4_boltAt 10 = .ok (.aconst_null, 1) := by decide +kernel
theorem dX4_boltAt_11 : decode cX4_boltAt 11 = .ok (.goto 9, 3) := by decide +kernel
theorem dX4_boltAt_14 : decode cX4_boltAt 14 = .ok (.aload_n 0, 1) := by decide +kernel
theorem dX4_boltAt_15 : decode cX4_boltAt 15 = .ok (.getfield 17, 3) := by decide +kernel
theorem dX4_boltAt_18 : decode cX4_boltAt 18 = .ok (.iload_n 1, 1) := by decide +kernel
theorem dX4_boltAt_19 : decode cX4_boltAt 19 = .ok (.aaload, 1) := by decide +kernel
theorem dX4_boltAt_20 : decode cX4_boltAt 20 = .ok (.astore_n 2, 1) := by decide +kernel
theorem dX4_boltAt_21 : decode cX4_boltAt 21 = .ok (.aload_n 2, 1) := by decide +kernel
theorem dX4_boltAt_22 : decode cX4_boltAt 22 = .ok (.ifnonnull 13, 3) := by decide +kernel
theorem dX4_boltAt_25 : decode cX4_boltAt 25 = .ok (.new 125, 3) := by decide +kernel
theorem dX4_boltAt_28 : decode cX4_boltAt 28 = .ok (.dup, 1) := by decide +kernel
theorem dX4_boltAt_29 : decode cX4_boltAt 29 = .ok (.ldc 223, 2) := by decide +kernel
theorem dX4_boltAt_31 : decode cX4_boltAt 31 = .ok (.invokespecial 129, 3) := by decide +kernel
theorem dX4_boltAt_34 : decode cX4_boltAt 34 = .ok (.athrow, 1) := by decide +kernel
theorem dX4_boltAt_35 : decode cX4_boltAt 35 = .ok (.aload_n 2, 1) := by decide +kernel
theorem dX4_boltAt_36 : decode cX4_boltAt 36 = .ok (.areturn, 1) := by decide +kernel
theorem dX4_caskAt_0 : decode cX4_caskAt 0 = .ok (.iload_n 1, 1) := by decide +kernel
theorem dX4_caskAt_1 : decode cX4_caskAt 1 = .ok (.ifCond .lt 9, 3) := by decide +kernel
theorem dX4_caskAt_4 : decode cX4_caskAt 4 = .ok (.iload_n 1, 1) := by decide +kernel
theorem dX4_caskAt_5 : decode cX4_caskAt 5 = .ok (.bipush 30, 2) := by decide +kernel
theorem dX4_caskAt_7 : decode cX4_caskAt 7 = .ok (.if_icmp .lt 7, 3) := by decide +kernel
theorem dX4_caskAt_10 : decode cX4_caskAt 10 = .ok (.aconst_null, 1) := by decide +kernel
theorem dX4_caskAt_11 : decode cX4_caskAt 11 = .ok (.goto 9, 3) := by decide +kernel
theorem dX4_caskAt_14 : decode cX4_caskAt 14 = .ok (.aload_n 0, 1) := by decide +kernel
theorem dX4_caskAt_15 : decode cX4_caskAt 15 = .ok (.getfield 23, 3) := by decide +kernel
theorem dX4_caskAt_18 : decode cX4_caskAt 18 = .ok (.iload_n 1, 1) := by decide +kernel
theorem dX4_caskAt_19 : decode cX4_caskAt 19 = .ok (.aaload, 1) := by decide +kernel
theorem dX4_caskAt_20 : decode cX4_caskAt 20 = .ok (.astore_n 2, 1) := by decide +kernel
theorem dX4_caskAt_21 : decode cX4_caskAt 21 = .ok (.aload_n 2, 1) := by decide +kernel
theorem dX4_caskAt_22 : decode cX4_caskAt 22 = .ok (.ifnonnull 13, 3) := by decide +kernel
theorem dX4_caskAt_25 : decode cX4_caskAt 25 = .ok (.new 125, 3) := by decide +kernel
theorem dX4_caskAt_28 : decode cX4_caskAt 28 = .ok (.dup, 1) := by decide +kernel
theorem dX4_caskAt_29 : decode cX4_caskAt 29 = .ok (.ldc 225, 2) := by decide +kernel
theorem dX4_caskAt_31 : decode cX4_caskAt 31 = .ok (.invokespecial 129, 3) := by decide +kernel
theorem dX4_caskAt_34 : decode cX4_caskAt 34 = .ok (.athrow, 1) := by decide +kernel
theorem dX4_caskAt_35 : decode cX4_caskAt 35 = .ok (.aload_n 2, 1) := by decide +kernel
theorem dX4_caskAt_36 : decode cX4_caskAt 36 = .ok (.areturn, 1) := by decide +kernel
theorem dX4_checkStave_0 : decode cX4_checkStave 0 = .ok (.iload_n 1, 1) := by decide +kernel
theorem dX4_checkStave_1 : decode cX4_checkStave 1 = .ok (.ifCond .lt 11, 3) := by decide +kernel
theorem dX4_checkStave_4 : decode cX4_checkStave 4 = .ok (.iload_n 1, 1) := by decide +kernel
theorem dX4_checkStave_5 : decode cX4_checkStave 5 = .ok (.aload_n 0, 1) := by decide +kernel
theorem dX4_checkStave_6 : decode cX4_checkStave 6 = .ok (.getfield 227, 3) := by decide +kernel
theorem dX4_checkStave_9 : decode cX4_checkStave 9 = .ok (.if_icmp .lt 13, 3) := by decide +kernel
theorem dX4_checkStave_12 : decode cX4_checkStave 12 = .ok (.new 125, 3) := by decide +kernel
theorem dX4_checkStave_15 : decode cX4_checkStave 15 = .ok (.dup, 1) := by decide +kernel
theorem dX4_checkStave_16 : decode cX4_checkStave 16 = .ok (.ldc 230, 2) := by decide +kernel
theorem dX4_checkStave_18 : decode cX4_checkStave 18 = .ok (.invokespecial 129, 3) := by decide +kernel
theorem dX4_checkStave_21 : decode cX4_checkStave 21 = .ok (.athrow, 1) := by decide +kernel
theorem dX4_checkStave_22 : decode cX4_checkStave 22 = .ok (.return_, 1) := by decide +kernel
theorem dX4_checkHeight_0 : decode cX4_checkHeight 0 = .ok (.iload_n 1, 1) := by decide +kernel
theorem dX4_checkHeight_1 : decode cX4_checkHeight 1 = .ok (.ifCond .lt 11, 3) := by decide +kernel
theorem dX4_checkHeight_4 : decode cX4_checkHeight 4 = .ok (.iload_n 1, 1) := by decide +kernel
theorem dX4_checkHeight_5 : decode cX4_checkHeight 5 = .ok (.aload_n 0, 1) := by decide +kernel
theorem dX4_checkHeight_6 : decode cX4_checkHeight 6 = .ok (.getfield 232, 3) := by decide +kernel
theorem dX4_checkHeight_9 : decode cX4_checkHeight 9 = .ok (.if_icmp .le 13, 3) := by decide +kernel
theorem dX4_checkHeight_12 : decode cX4_checkHeight 12 = .ok (.new 77, 3) := by decide +kernel
theorem dX4_checkHeight_15 : decode cX4_checkHeight 15 = .ok (.dup, 1) := by decide +kernel
theorem dX4_checkHeight_16 : decode cX4_checkHeight 16 = .ok (.ldc 235, 2) := by decide +kernel
theorem dX4_checkHeight_18 : decode cX4_checkHeight 18 = .ok (.invokespecial 81, 3) := by decide +kernel
theorem dX4_checkHeight_21 : decode cX4_checkHeight 21 = .ok (.athrow, 1) := by decide +kernel
theorem dX4_checkHeight_22 : decode cX4_checkHeight 22 = .ok (.return_, 1) := by decide +kernel
theorem dX4_checkKind_0 : decode cX4_checkKind 0 = .ok (.iload_n 0, 1) := by decide +kernel
theorem dX4_checkKind_1 : decode cX4_checkKind 1 = .ok (.ifCond .lt 9, 3) := by decide +kernel
theorem dX4_checkKind_4 : decode cX4_checkKind 4 = .ok (.iload_n 0, 1) := by decide +kernel
theorem dX4_checkKind_5 : decode cX4_checkKind 5 = .ok (.bipush 16, 2) := by decide +kernel
theorem dX4_checkKind_7 : decode cX4_checkKind 7 = .ok (.if_icmp .lt 13, 3) := by decide +kernel
theorem dX4_checkKind_10 : decode cX4_checkKind 10 = .ok (.new 77, 3) := by decide +kernel
theorem dX4_checkKind_13 : decode cX4_checkKind 13 = .ok (.dup, 1) := by decide +kernel
theorem dX4_checkKind_14 : decode cX4_checkKind 14 = .ok (.ldc 237, 2) := by decide +kernel
theorem dX4_checkKind_16 : decode cX4_checkKind 16 = .ok (.invokespecial 81, 3) := by decide +kernel
theorem dX4_checkKind_19 : decode cX4_checkKind 19 = .ok (.athrow, 1) := by decide +kernel
theorem dX4_checkKind_20 : decode cX4_checkKind 20 = .ok (.return_, 1) := by decide +kernel
theorem dX4_isRipe_0 : decode cX4_isRipe 0 = .ok (.aload_n 0, 1) := by decide +kernel
theorem dX4_isRipe_1 : decode cX4_isRipe 1 = .ok (.getfield 88, 3) := by decide +kernel
theorem dX4_isRipe_4 : decode cX4_isRipe 4 = .ok (.aload_n 1, 1) := by decide +kernel
theorem dX4_isRipe_5 : decode cX4_isRipe 5 = .ok (.getfield 239, 3) := by decide +kernel
theorem dX4_isRipe_8 : decode cX4_isRipe 8 = .ok (.isub, 1) := by decide +kernel
theorem dX4_isRipe_9 : decode cX4_isRipe 9 = .ok (.sipush 1095, 3) := by decide +kernel
theorem dX4_isRipe_12 : decode cX4_isRipe 12 = .ok (.if_icmp .lt 7, 3) := by decide +kernel
theorem dX4_isRipe_15 : decode cX4_isRipe 15 = .ok (.iconst 1, 1) := by decide +kernel
theorem dX4_isRipe_16 : decode cX4_isRipe 16 = .ok (.goto 4, 3) := by decide +kernel
theorem dX4_isRipe_19 : decode cX4_isRipe 19 = .ok (.iconst 0, 1) := by decide +kernel
theorem dX4_isRipe_20 : decode cX4_isRipe 20 = .ok (.ireturn, 1) := by decide +kernel
set_option maxRecDepth 20000 in
theorem ggX4_isLet_X1_wholePast : GoodIn wsX4_isLet wsX1_wholePast := goodIn_r _ [6, 7, 8, 9, 21, 22, 23, 24, 25, 26, 27, 28, 29, 30, 31, 32] (by decide +kernel) (by decide +kernel)
set_option maxRecDepth 20000 in
theorem gX4_isLet_X1_wholePast : GoodIn wsX4_isLet (wsV RX4 242 RX1 yX1_wholePast wsX1_wholePast) := goodIn_app (goodIn_of _ (by decide +kernel)) ggX4_isLet_X1_wholePast
theorem dX4_isLet_0 : decode cX4_isLet 0 = .ok (.aload_n 1, 1) := by decide +kernel
theorem dX4_isLet_1 : decode cX4_isLet 1 = .ok (.invokevirtual 242, 3) := by decide +kernel
theorem dX4_isLet_4 : decode cX4_isLet 4 = .ok (.istore_n 3, 1) := by decide +kernel
theorem dX4_isLet_5 : decode cX4_isLet 5 = .ok (.iconst 0, 1) := by decide +kernel
theorem dX4_isLet_6 : decode cX4_isLet 6 = .ok (.istore 4, 2) := by decide +kernel
theorem dX4_isLet_8 : decode cX4_isLet 8 = .ok (.iload 4, 2) := by decide +kernel
theorem dX4_isLet_10 : decode cX4_isLet 10 = .ok (.bipush 16, 2) := by decide +kernel
theorem dX4_isLet_12 : decode cX4_isLet 12 = .ok (.if_icmp .ge 34, 3) := by decide +kernel
theorem dX4_isLet_15 : decode cX4_isLet 15 = .ok (.iload_n 3, 1) := by decide +kernel
theorem dX4_isLet_16 : decode cX4_isLet 16 = .ok (.iload 4, 2) := by decide +kernel
theorem dX4_isLet_18 : decode cX4_isLet 18 = .ok (.ishr, 1) := by decide +kernel
theorem dX4_isLet_19 : decode cX4_isLet 19 = .ok (.iconst 1, 1) := by decide +kernel
theorem dX4_isLet_20 : decode cX4_isLet 20 = .ok (.iand, 1) := by decide +kernel
theorem dX4_isLet_21 : decode cX4_isLet 21 = .ok (.ifCond .eq 19, 3) := by decide +kernel
theorem dX4_isLet_24 : decode cX4_isLet 24 = .ok (.aload_n 0, 1) := by decide +kernel
theorem dX4_isLet_25 : decode cX4_isLet 25 = .ok (.getfield 27, 3) := by decide +kernel
theorem dX4_isLet_28 : decode cX4_isLet 28 = .ok (.iload 4, 2) := by decide +kernel
theorem dX4_isLet_30 : decode cX4_isLet 30 = .ok (.iaload, 1) := by decide +kernel
theorem dX4_isLet_31 : decode cX4_isLet 31 = .ok (.iload_n 2, 1) := by decide +kernel
theorem dX4_isLet_32 : decode cX4_isLet 32 = .ok (.ishr, 1) := by decide +kernel
theorem dX4_isLet_33 : decode cX4_isLet 33 = .ok (.iconst 1, 1) := by decide +kernel
theorem dX4_isLet_34 : decode cX4_isLet 34 = .ok (.iand, 1) := by decide +kernel
theorem dX4_isLet_35 : decode cX4_isLet 35 = .ok (.ifCond .eq 5, 3) := by decide +kernel
theorem dX4_isLet_38 : decode cX4_isLet 38 = .ok (.iconst 0, 1) := by decide +kernel
theorem dX4_isLet_39 : decode cX4_isLet 39 = .ok (.ireturn, 1) := by decide +kernel
theorem dX4_isLet_40 : decode cX4_isLet 40 = .ok (.iinc 4 1, 3) := by decide +kernel
theorem dX4_isLet_43 : decode cX4_isLet 43 = .ok (.goto (-35), 3) := by decide +kernel
theorem dX4_isLet_46 : decode cX4_isLet 46 = .ok (.iconst 1, 1) := by decide +kernel
theorem dX4_isLet_47 : decode cX4_isLet 47 = .ok (.ireturn, 1) := by decide +kernel
set_option maxRecDepth 20000 in
theorem ggX4_setFor_X2_narrowPiece : GoodIn wsX4_setFor wsX2_narrowPiece := goodIn_r _ [8, 9, 10, 11, 12, 13, 95, 96, 97, 98] (by decide +kernel) (by decide +kernel)
set_option maxRecDepth 20000 in
theorem gX4_setFor_X2_narrowPiece : GoodIn wsX4_setFor (wsV RX4 245 RX2 yX2_narrowPiece wsX2_narrowPiece) := goodIn_app (goodIn_of _ (by decide +kernel)) ggX4_setFor_X2_narrowPiece
set_option maxRecDepth 20000 in
theorem ggX4_setFor_X3_prepare : GoodIn wsX4_setFor wsX3_prepare := goodIn_r _ [18, 19, 20, 21, 99, 100, 101, 102, 103, 104, 105, 106, 107, 108, 109, 110, 111, 112] (by decide +kernel) (by decide +kernel)
set_option maxRecDepth 20000 in
theorem gX4_setFor_X3_prepare : GoodIn wsX4_setFor (wsV RX4 248 RX3 yX3_prepare wsX3_prepare) := goodIn_app (goodIn_of _ (by decide +kernel)) ggX4_setFor_X3_prepare
set_option maxRecDepth 20000 in
theorem ggX4_setFor_X4_isRipe : GoodIn wsX4_setFor wsX4_isRipe := goodIn_r _ [25, 26, 27, 84, 85, 86, 87, 88, 89, 90, 91, 92, 93, 94, 113, 114, 115, 116] (by decide +kernel) (by decide +kernel)
set_option maxRecDepth 20000 in
theorem gX4_setFor_X4_isRipe : GoodIn wsX4_setFor (wsV RX4 130 RX4 yX4_isRipe wsX4_isRipe) := goodIn_app (goodIn_of _ (by decide +kernel)) ggX4_setFor_X4_isRipe
set_option maxRecDepth 20000 in
theorem ggX4_setFor_X3_lay : GoodIn wsX4_setFor wsX3_lay := goodIn_r _ [31, 19, 32, 33, 34, 35, 36, 37, 38, 17, 39, 20, 21, 40, 41, 42, 43, 44, 45, 11, 12, 13, 46, 47, 48, 49, 50, 99, 100, 101, 102, 103, 104, 105, 106, 107, 108, 109, 110, 111, 112, 113, 114, 115, 116] (by decide +kernel) (by decide +kernel)
set_option maxRecDepth 20000 in
theorem gX4_setFor_X3_lay : GoodIn wsX4_setFor (wsV RX4 251 RX3 yX3_lay wsX3_lay) := goodIn_app (goodIn_of _ (by decide +kernel)) ggX4_setFor_X3_lay
set_option maxRecDepth 20000 in
theorem ggX4_setFor_X2_wides : GoodIn wsX4_setFor wsX2_wides := goodIn_r _ [54, 9, 10, 11, 12, 13, 95, 96, 97, 98] (by decide +kernel) (by decide +kernel)
set_option maxRecDepth 20000 in
theorem gX4_setFor_X2_wides : GoodIn wsX4_setFor (wsV RX4 149 RX2 yX2_wides wsX2_wides) := goodIn_app (goodIn_of _ (by decide +kernel)) ggX4_setFor_X2_wides
set_option maxRecDepth 20000 in
theorem ggX4_setFor_X2_narrows : GoodIn wsX4_setFor wsX2_narrows := goodIn_r _ [58, 10, 59, 52, 53, 7, 54, 9, 11, 12, 13, 95, 96, 97, 98] (by decide +kernel) (by decide +kernel)
set_option maxRecDepth 20000 in
theorem gX4_setFor_X2_narrows : GoodIn wsX4_setFor (wsV RX4 153 RX2 yX2_narrows wsX2_narrows) := goodIn_app (goodIn_of _ (by decide +kernel)) ggX4_setFor_X2_narrows
set_option maxRecDepth 20000 in
theorem ggX4_setFor_X3_fewestSet : GoodIn wsX4_setFor wsX3_fewestSet := goodIn_r _ [63, 19, 64, 65, 66, 17, 67, 20, 68, 40, 69, 70, 71, 72, 43, 50, 44, 45, 73, 74, 75, 76, 21, 77, 78, 79, 80, 81, 82, 83, 99, 100, 101, 102, 103, 104, 105, 106, 107, 108, 109, 110, 111, 112] (by decide +kernel) (by decide +kernel)
set_option maxRecDepth 20000 in
theorem gX4_setFor_X3_fewestSet : GoodIn wsX4_setFor (wsV RX4 255 RX3 yX3_fewestSet wsX3_fewestSet) := goodIn_app (goodIn_of _ (by decide +kernel)) ggX4_setFor_X3_fewestSet
theorem dX4_setFor_0 : decode cX4_setFor 0 = .ok (.aload_n 0, 1) := by decide +kernel
theorem dX4_setFor_1 : decode cX4_setFor 1 = .ok (.getfield 37, 3) := by decide +kernel
theorem dX4_setFor_4 : decode cX4_setFor 4 = .ok (.aload_n 1, 1) := by decide +kernel
theorem dX4_setFor_5 : decode cX4_setFor 5 = .ok (.invokevirtual 245, 3) := by decide +kernel
theorem dX4_setFor_8 : decode cX4_setFor 8 = .ok (.invokevirtual 248, 3) := by decide +kernel
theorem dX4_setFor_11 : decode cX4_setFor 11 = .ok (.iconst 0, 1) := by decide +kernel
theorem dX4_setFor_12 : decode cX4_setFor 12 = .ok (.istore_n 2, 1) := by decide +kernel
theorem dX4_setFor_13 : decode cX4_setFor 13 = .ok (.iload_n 2, 1) := by decide +kernel
theorem dX4_setFor_14 : decode cX4_setFor 14 = .ok (.aload_n 0, 1) := by decide +kernel
theorem dX4_setFor_15 : decode cX4_setFor 15 = .ok (.getfield 93, 3) := by decide +kernel
theorem dX4_setFor_18 : decode cX4_setFor 18 = .ok (.if_icmp .ge 37, 3) := by decide +kernel
theorem dX4_setFor_21 : decode cX4_setFor 21 = .ok (.aload_n 0, 1) := by decide +kernel
theorem dX4_setFor_22 : decode cX4_setFor 22 = .ok (.getfield 17, 3) := by decide +kernel
theorem dX4_setFor_25 : decode cX4_setFor 25 = .ok (.iload_n 2, 1) := by decide +kernel
theorem dX4_setFor_26 : decode cX4_setFor 26 = .ok (.aaload, 1) := by decide +kernel
theorem dX4_setFor_27 : decode cX4_setFor 27 = .ok (.astore_n 3, 1) := by decide +kernel
theorem dX4_setFor_28 : decode cX4_setFor 28 = .ok (.aload_n 3, 1) := by decide +kernel
theorem dX4_setFor_29 : decode cX4_setFor 29 = .ok (.ifnull 20, 3) := by decide +kernel
theorem dX4_setFor_32 : decode cX4_setFor 32 = .ok (.aload_n 0, 1) := by decide +kernel
theorem dX4_setFor_33 : decode cX4_setFor 33 = .ok (.aload_n 3, 1) := by decide +kernel
theorem dX4_setFor_34 : decode cX4_setFor 34 = .ok (.invokevirtual 130, 3) := by decide +kernel
theorem dX4_setFor_37 : decode cX4_setFor 37 = .ok (.ifCond .eq 12, 3) := by decide +kernel
theorem dX4_setFor_40 : decode cX4_setFor 40 = .ok (.aload_n 0, 1) := by decide +kernel
theorem dX4_setFor_41 : decode cX4_setFor 41 = .ok (.getfield 37, 3) := by decide +kernel
theorem dX4_setFor_44 : decode cX4_setFor 44 = .ok (.aload_n 3, 1) := by decide +kernel
theorem dX4_setFor_45 : decode cX4_setFor 45 = .ok (.iload_n 2, 1) := by decide +kernel
theorem dX4_setFor_46 : decode cX4_setFor 46 = .ok (.invokevirtual 251, 3) := by decide +kernel
theorem dX4_setFor_49 : decode cX4_setFor 49 = .ok (.iinc 2 1, 3) := by decide +kernel
theorem dX4_setFor_52 : decode cX4_setFor 52 = .ok (.goto (-39), 3) := by decide +kernel
theorem dX4_setFor_55 : decode cX4_setFor 55 = .ok (.aload_n 0, 1) := by decide +kernel
theorem dX4_setFor_56 : decode cX4_setFor 56 = .ok (.getfield 37, 3) := by decide +kernel
theorem dX4_setFor_59 : decode cX4_setFor 59 = .ok (.aload_n 1, 1) := by decide +kernel
theorem dX4_setFor_60 : decode cX4_setFor 60 = .ok (.invokevirtual 149, 3) := by decide +kernel
theorem dX4_setFor_63 : decode cX4_setFor 63 = .ok (.aload_n 1, 1) := by decide +kernel
theorem dX4_setFor_64 : decode cX4_setFor 64 = .ok (.invokevirtual 153, 3) := by decide +kernel
theorem dX4_setFor_67 : decode cX4_setFor 67 = .ok (.invokevirtual 255, 3) := by decide +kernel
theorem dX4_setFor_70 : decode cX4_setFor 70 = .ok (.ireturn, 1) := by decide +kernel
set_option maxRecDepth 20000 in
theorem ggX4_handOut_X1_takePieces : GoodIn wsX4_handOut wsX1_takePieces := goodIn_r _ [10, 11, 12, 13, 14, 15, 16, 17, 18, 19, 20, 21, 22, 23, 24, 25, 26, 27, 28, 29, 30, 31, 32, 33, 34, 35, 36, 37, 38, 39, 40, 41, 67, 68, 69, 70, 71, 72, 73, 74, 75, 76, 77, 78] (by decide +kernel) (by decide +kernel)
set_option maxRecDepth 20000 in
theorem gX4_handOut_X1_takePieces : GoodIn wsX4_handOut (wsV RX4 265 RX1 yX1_takePieces wsX1_takePieces) := goodIn_app (goodIn_of _ (by decide +kernel)) ggX4_handOut_X1_takePieces
theorem dX4_handOut_0 : decode cX4_handOut 0 = .ok (.iconst 0, 1) := by decide +kernel
theorem dX4_handOut_1 : decode cX4_handOut 1 = .ok (.istore_n 2, 1) := by decide +kernel
theorem dX4_handOut_2 : decode cX4_handOut 2 = .ok (.iconst 0, 1) := by decide +kernel
theorem dX4_handOut_3 : decode cX4_handOut 3 = .ok (.istore_n 3, 1) := by decide +kernel
theorem dX4_handOut_4 : decode cX4_handOut 4 = .ok (.iconst 0, 1) := by decide +kernel
theorem dX4_handOut_5 : decode cX4_handOut 5 = .ok (.istore 4, 2) := by decide +kernel
theorem dX4_handOut_7 : decode cX4_handOut 7 = .ok (.iload 4, 2) := by decide +kernel
theorem dX4_handOut_9 : decode cX4_handOut 9 = .ok (.aload_n 0, 1) := by decide +kernel
theorem dX4_handOut_10 : decode cX4_handOut 10 = .ok (.getfield 37, 3) := by decide +kernel
theorem dX4_handOut_13 : decode cX4_handOut 13 = .ok (.getfield 258, 3) := by decide +kernel
theorem dX4_handOut_16 : decode cX4_handOut 16 = .ok (.if_icmp .ge 63, 3) := by decide +kernel
theorem dX4_handOut_19 : decode cX4_handOut 19 = .ok (.aload_n 1, 1) := by decide +kernel
theorem dX4_handOut_20 : decode cX4_handOut 20 = .ok (.aload_n 0, 1) := by decide +kernel
theorem dX4_handOut_21 : decode cX4_handOut 21 = .ok (.getfield 37, 3) := by decide +kernel
theorem dX4_handOut_24 : decode cX4_handOut 24 = .ok (.getfield 259, 3) := by decide +kernel
theorem dX4_handOut_27 : decode cX4_handOut 27 = .ok (.iload 4, 2) := by decide +kernel
theorem dX4_handOut_29 : decode cX4_handOut 29 = .ok (.iaload, 1) := by decide +kernel
theorem dX4_handOut_30 : decode cX4_handOut 30 = .ok (.iconst 1, 1) := by decide +kernel
theorem dX4_handOut_31 : decode cX4_handOut 31 = .ok (.iload_n 2, 1) := by decide +kernel
theorem dX4_handOut_32 : decode cX4_handOut 32 = .ok (.aload_n 0, 1) := by decide +kernel
theorem dX4_handOut_33 : decode cX4_handOut 33 = .ok (.getfield 37, 3) := by decide +kernel
theorem dX4_handOut_36 : decode cX4_handOut 36 = .ok (.getfield 262, 3) := by decide +kernel
theorem dX4_handOut_39 : decode cX4_handOut 39 = .ok (.iload 4, 2) := by decide +kernel
theorem dX4_handOut_41 : decode cX4_handOut 41 = .ok (.iaload, 1) := by decide +kernel
theorem dX4_handOut_42 : decode cX4_handOut 42 = .ok (.invokevirtual 265, 3) := by decide +kernel
theorem dX4_handOut_45 : decode cX4_handOut 45 = .ok (.istore_n 2, 1) := by decide +kernel
theorem dX4_handOut_46 : decode cX4_handOut 46 = .ok (.aload_n 1, 1) := by decide +kernel
theorem dX4_handOut_47 : decode cX4_handOut 47 = .ok (.aload_n 0, 1) := by decide +kernel
theorem dX4_handOut_48 : decode cX4_handOut 48 = .ok (.getfield 37, 3) := by decide +kernel
theorem dX4_handOut_51 : decode cX4_handOut 51 = .ok (.getfield 269, 3) := by decide +kernel
theorem dX4_handOut_54 : decode cX4_handOut 54 = .ok (.iload 4, 2) := by decide +kernel
theorem dX4_handOut_56 : decode cX4_handOut 56 = .ok (.iaload, 1) := by decide +kernel
theorem dX4_handOut_57 : decode cX4_handOut 57 = .ok (.iconst 0, 1) := by decide +kernel
theorem dX4_handOut_58 : decode cX4_handOut 58 = .ok (.iload_n 3, 1) := by decide +kernel
theorem dX4_handOut_59 : decode cX4_handOut 59 = .ok (.aload_n 0, 1) := by decide +kernel
theorem dX4_handOut_60 : decode cX4_handOut 60 = .ok (.getfield 37, 3) := by decide +kernel
theorem dX4_handOut_63 : decode cX4_handOut 63 = .ok (.getfield 262, 3) := by decide +kernel
theorem dX4_handOut_66 : decode cX4_handOut 66 = .ok (.iload 4, 2) := by decide +kernel
theorem dX4_handOut_68 : decode cX4_handOut 68 = .ok (.iaload, 1) := by decide +kernel
theorem dX4_handOut_69 : decode cX4_handOut 69 = .ok (.invokevirtual 265, 3) := by decide +kernel
theorem dX4_handOut_72 : decode cX4_handOut 72 = .ok (.istore_n 3, 1) := by decide +kernel
theorem dX4_handOut_73 : decode cX4_handOut 73 = .ok (.iinc 4 1, 3) := by decide +kernel
theorem dX4_handOut_76 : decode cX4_handOut 76 = .ok (.goto (-69), 3) := by decide +kernel
theorem dX4_handOut_79 : decode cX4_handOut 79 = .ok (.return_, 1) := by decide +kernel
theorem dX4_parted_0 : decode cX4_parted 0 = .ok (.iload_n 1, 1) := by decide +kernel
theorem dX4_parted_1 : decode cX4_parted 1 = .ok (.ifCond .gt 7, 3) := by decide +kernel
theorem dX4_parted_4 : decode cX4_parted 4 = .ok (.iconst 0, 1) := by decide +kernel
theorem dX4_parted_5 : decode cX4_parted 5 = .ok (.goto 6, 3) := by decide +kernel
theorem dX4_parted_8 : decode cX4_parted 8 = .ok (.iload_n 0, 1) := by decide +kernel
theorem dX4_parted_9 : decode cX4_parted 9 = .ok (.iload_n 1, 1) := by decide +kernel
theorem dX4_parted_10 : decode cX4_parted 10 = .ok (.idiv, 1) := by decide +kernel
theorem dX4_parted_11 : decode cX4_parted 11 = .ok (.ireturn, 1) := by decide +kernel
end
section
theorem dX5_init_0 : decode cX5_init 0 = .ok (.aload_n 0, 1) := by decide +kernel
theorem dX5_init_1 : decode cX5_init 1 = .ok (.invokespecial 1, 3) := by decide +kernel
theorem dX5_init_4 : decode cX5_init 4 = .ok (.aload_n 0, 1) := by decide +kernel
theorem dX5_init_5 : decode cX5_init 5 = .ok (.bipush 8, 2) := by decide +kernel
theorem dX5_init_7 : decode cX5_init 7 = .ok (.newarray .int, 2) := by decide +kernel
theorem dX5_init_9 : decode cX5_init 9 = .ok (.putfield 9, 3) := by decide +kernel
theorem dX5_init_12 : decode cX5_init 12 = .ok (.aload_n 0, 1) := by decide +kernel
theorem dX5_init_13 : decode cX5_init 13 = .ok (.bipush 8, 2) := by decide +kernel
theorem dX5_init_15 : decode cX5_init 15 = .ok (.newarray .int, 2) := by decide +kernel
theorem dX5_init_17 : decode cX5_init 17 = .ok (.putfield 13, 3) := by decide +kernel
theorem dX5_init_20 : decode cX5_init 20 = .ok (.aload_n 0, 1) := by decide +kernel
theorem dX5_init_21 : decode cX5_init 21 = .ok (.bipush 8, 2) := by decide +kernel
theorem dX5_init_23 : decode cX5_init 23 = .ok (.newarray .int, 2) := by decide +kernel
theorem dX5_init_25 : decode cX5_init 25 = .ok (.putfield 16, 3) := by decide +kernel
theorem dX5_init_28 : decode cX5_init 28 = .ok (.aload_n 0, 1) := by decide +kernel
theorem dX5_init_29 : decode cX5_init 29 = .ok (.bipush 8, 2) := by decide +kernel
theorem dX5_init_31 : decode cX5_init 31 = .ok (.newarray .int, 2) := by decide +kernel
theorem dX5_init_33 : decode cX5_init 33 = .ok (.putfield 19, 3) := by decide +kernel
theorem dX5_init_36 : decode cX5_init 36 = .ok (.aload_n 0, 1) := by decide +kernel
theorem dX5_init_37 : decode cX5_init 37 = .ok (.bipush 40, 2) := by decide +kernel
theorem dX5_init_39 : decode cX5_init 39 = .ok (.newarray .int, 2) := by decide +kernel
theorem dX5_init_41 : decode cX5_init 41 = .ok (.putfield 22, 3) := by decide +kernel
theorem dX5_init_44 : decode cX5_init 44 = .ok (.aload_n 0, 1) := by decide +kernel
theorem dX5_init_45 : decode cX5_init 45 = .ok (.bipush 40, 2) := by decide +kernel
theorem dX5_init_47 : decode cX5_init 47 = .ok (.newarray .int, 2) := by decide +kernel
theorem dX5_init_49 : decode cX5_init 49 = .ok (.putfield 25, 3) := by decide +kernel
theorem dX5_init_52 : decode cX5_init 52 = .ok (.aload_n 0, 1) := by decide +kernel
theorem dX5_init_53 : decode cX5_init 53 = .ok (.sipush 200, 3) := by decide +kernel
theorem dX5_init_56 : decode cX5_init 56 = .ok (.newarray .int, 2) := by decide +kernel
theorem dX5_init_58 : decode cX5_init 58 = .ok (.putfield 28, 3) := by decide +kernel
theorem dX5_init_61 : decode cX5_init 61 = .ok (.aload_n 0, 1) := by decide +kernel
theorem dX5_init_62 : decode cX5_init 62 = .ok (.sipush 200, 3) := by decide +kernel
theorem dX5_init_65 : decode cX5_init 65 = .ok (.newarray .int, 2) := by decide +kernel
theorem dX5_init_67 : decode cX5_init 67 = .ok (.putfield 31, 3) := by decide +kernel
theorem dX5_init_70 : decode cX5_init 70 = .ok (.aload_n 0, 1) := by decide +kernel
theorem dX5_init_71 : decode cX5_init 71 = .ok (.bipush 30, 2) := by decide +kernel
theorem dX5_init_73 : decode cX5_init 73 = .ok (.newarray .int, 2) := by decide +kernel
theorem dX5_init_75 : decode cX5_init 75 = .ok (.putfield 34, 3) := by decide +kernel
theorem dX5_init_78 : decode cX5_init 78 = .ok (.aload_n 0, 1) := by decide +kernel
theorem dX5_init_79 : decode cX5_init 79 = .ok (.sipush 1200, 3) := by decide +kernel
theorem dX5_init_82 : decode cX5_init 82 = .ok (.newarray .int, 2) := by decide +kernel
theorem dX5_init_84 : decode cX5_init 84 = .ok (.putfield 37, 3) := by decide +kernel
theorem dX5_init_87 : decode cX5_init 87 = .ok (.aload_n 0, 1) := by decide +kernel
theorem dX5_init_88 : decode cX5_init 88 = .ok (.sipush 1200, 3) := by decide +kernel
theorem dX5_init_91 : decode cX5_init 91 = .ok (.newarray .int, 2) := by decide +kernel
theorem dX5_init_93 : decode cX5_init 93 = .ok (.putfield 40, 3) := by decide +kernel
theorem dX5_init_96 : decode cX5_init 96 = .ok (.aload_n 0, 1) := by decide +kernel
theorem dX5_init_97 : decode cX5_init 97 = .ok (.bipush 30, 2) := by decide +kernel
theorem dX5_init_99 : decode cX5_init 99 = .ok (.newarray .int, 2) := by decide +kernel
theorem dX5_init_101 : decode cX5_init 101 = .ok (.putfield 43, 3) := by decide +kernel
theorem dX5_init_104 : decode cX5_init 104 = .ok (.aload_n 0, 1) := by decide +kernel
theorem dX5_init_105 : decode cX5_init 105 = .ok (.sipush 1200, 3) := by decide +kernel
theorem dX5_init_108 : decode cX5_init 108 = .ok (.newarray .int, 2) := by decide +kernel
theorem dX5_init_110 : decode cX5_init 110 = .ok (.putfield 46, 3) := by decide +kernel
theorem dX5_init_113 : decode cX5_init 113 = .ok (.aload_n 0, 1) := by decide +kernel
theorem dX5_init_114 : decode cX5_init 114 = .ok (.sipush 1200, 3) := by decide +kernel
theorem dX5_init_117 : decode cX5_init 117 = .ok (.newarray .int, 2) := by decide +kernel
theorem dX5_init_119 : decode cX5_init 119 = .ok (.putfield 49, 3) := by decide +kernel
theorem dX5_init_122 : decode cX5_init 122 = .ok (.aload_n 0, 1) := by decide +kernel
theorem dX5_init_123 : decode cX5_init 123 = .ok (.sipush 1200, 3) := by decide +kernel
theorem dX5_init_126 : decode cX5_init 126 = .ok (.newarray .int, 2) := by decide +kernel
theorem dX5_init_128 : decode cX5_init 128 = .ok (.putfield 52, 3) := by decide +kernel
theorem dX5_init_131 : decode cX5_init 131 = .ok (.aload_n 0, 1) := by decide +kernel
theorem dX5_init_132 : decode cX5_init 132 = .ok (.sipush 256, 3) := by decide +kernel
theorem dX5_init_135 : decode cX5_init 135 = .ok (.newarray .boolean, 2) := by decide +kernel
theorem dX5_init_137 : decode cX5_init 137 = .ok (.putfield 55, 3) := by decide +kernel
theorem dX5_init_140 : decode cX5_init 140 = .ok (.aload_n 0, 1) := by decide +kernel
theorem dX5_init_141 : decode cX5_init 141 = .ok (.bipush 16, 2) := by decide +kernel
theorem dX5_init_143 : decode cX5_init 143 = .ok (.newarray .int, 2) := by decide +kernel
theorem dX5_init_145 : decode cX5_init 145 = .ok (.putfield 59, 3) := by decide +kernel
theorem dX5_init_148 : decode cX5_init 148 = .ok (.aload_n 0, 1) := by decide +kernel
theorem dX5_init_149 : decode cX5_init 149 = .ok (.bipush 32, 2) := by decide +kernel
theorem dX5_init_151 : decode cX5_init 151 = .ok (.newarray .int, 2) := by decide +kernel
theorem dX5_init_153 : decode cX5_init 153 = .ok (.putfield 62, 3) := by decide +kernel
theorem dX5_init_156 : decode cX5_init 156 = .ok (.aload_n 0, 1) := by decide +kernel
theorem dX5_init_157 : decode cX5_init 157 = .ok (.bipush 32, 2) := by decide +kernel
theorem dX5_init_159 : decode cX5_init 159 = .ok (.newarray .int, 2) := by decide +kernel
theorem dX5_init_161 : decode cX5_init 161 = .ok (.putfield 65, 3) := by decide +kernel
theorem dX5_init_164 : decode cX5_init 164 = .ok (.aload_n 0, 1) := by decide +kernel
theorem dX5_init_165 : decode cX5_init 165 = .ok (.sipush 1353, 3) := by decide +kernel
theorem dX5_init_168 : decode cX5_init 168 = .ok (.newarray .int, 2) := by decide +kernel
theorem dX5_init_170 : decode cX5_init 170 = .ok (.putfield 68, 3) := by decide +kernel
theorem dX5_init_173 : decode cX5_init 173 = .ok (.aload_n 0, 1) := by decide +kernel
theorem dX5_init_174 : decode cX5_init 174 = .ok (.bipush 10, 2) := by decide +kernel
theorem dX5_init_176 : decode cX5_init 176 = .ok (.newarray .int, 2) := by decide +kernel
theorem dX5_init_178 : decode cX5_init 178 = .ok (.putfield 71, 3) := by decide +kernel
theorem dX5_init_181 : decode cX5_init 181 = .ok (.aload_n 0, 1) := by decide +kernel
theorem dX5_init_182 : decode cX5_init 182 = .ok (.bipush 10, 2) := by decide +kernel
theorem dX5_init_184 : decode cX5_init 184 = .ok (.newarray .int, 2) := by decide +kernel
theorem dX5_init_186 : decode cX5_init 186 = .ok (.putfield 74, 3) := by decide +kernel
theorem dX5_init_189 : decode cX5_init 189 = .ok (.aload_n 0, 1) := by decide +kernel
theorem dX5_init_190 : decode cX5_init 190 = .ok (.bipush 8, 2) := by decide +kernel
theorem dX5_init_192 : decode cX5_init 192 = .ok (.newarray .int, 2) := by decide +kernel
theorem dX5_init_194 : decode cX5_init 194 = .ok (.putfield 77, 3) := by decide +kernel
theorem dX5_init_197 : decode cX5_init 197 = .ok (.aload_n 0, 1) := by decide +kernel
theorem dX5_init_198 : decode cX5_init 198 = .ok (.bipush 80, 2) := by decide +kernel
theorem dX5_init_200 : decode cX5_init 200 = .ok (.newarray .int, 2) := by decide +kernel
theorem dX5_init_202 : decode cX5_init 202 = .ok (.putfield 80, 3) := by decide +kernel
theorem dX5_init_205 : decode cX5_init 205 = .ok (.iconst 0, 1) := by decide +kernel
theorem dX5_init_206 : decode cX5_init 206 = .ok (.istore_n 1, 1) := by decide +kernel
theorem dX5_init_207 : decode cX5_init 207 = .ok (.iload_n 1, 1) := by decide +kernel
theorem dX5_init_208 : decode cX5_init 208 = .ok (.bipush 16, 2) := by decide +kernel
theorem dX5_init_210 : decode cX5_init 210 = .ok (.if_icmp .ge 18, 3) := by decide +kernel
theorem dX5_init_213 : decode cX5_init 213 = .ok (.aload_n 0, 1) := by decide +kernel
theorem dX5_init_214 : decode cX5_init 214 = .ok (.getfield 59, 3) := by decide +kernel
theorem dX5_init_217 : decode cX5_init 217 = .ok (.iload_n 1, 1) := by decide +kernel
theorem dX5_init_218 : decode cX5_init 218 = .ok (.sipush 1000, 3) := by decide +kernel
theorem dX5_init_221 : decode cX5_init 221 = .ok (.iastore, 1) := by decide +kernel
theorem dX5_init_222 : decode cX5_init 222 = .ok (.iinc 1 1, 3) := by decide +kernel
theorem dX5_init_225 : decode cX5_init 225 = .ok (.goto (-18), 3) := by decide +kernel
theorem dX5_init_228 : decode cX5_init 228 = .ok (.return_, 1) := by decide +kernel
theorem dX5_thrown_0 : decode cX5_thrown 0 = .ok (.aload_n 0, 1) := by decide +kernel
theorem dX5_thrown_1 : decode cX5_thrown 1 = .ok (.getfield 83, 3) := by decide +kernel
theorem dX5_thrown_4 : decode cX5_thrown 4 = .ok (.ireturn, 1) := by decide +kernel
theorem dX5_fail_0 : decode cX5_fail 0 = .ok (.aload_n 0, 1) := by decide +kernel
theorem dX5_fail_1 : decode cX5_fail 1 = .ok (.iload_n 1, 1) := by decide +kernel
theorem dX5_fail_2 : decode cX5_fail 2 = .ok (.putfield 83, 3) := by decide +kernel
theorem dX5_fail_5 : decode cX5_fail 5 = .ok (.iconst 0, 1) := by decide +kernel
theorem dX5_fail_6 : decode cX5_fail 6 = .ok (.ireturn, 1) := by decide +kernel
theorem dX5_isForm_0 : decode cX5_isForm 0 = .ok (.iload_n 1, 1) := by decide +kernel
theorem dX5_isForm_1 : decode cX5_isForm 1 = .ok (.ifCond .lt 15, 3) := by decide +kernel
theorem dX5_isForm_4 : decode cX5_isForm 4 = .ok (.iload_n 1, 1) := by decide +kernel
theorem dX5_isForm_5 : decode cX5_isForm 5 = .ok (.aload_n 0, 1) := by decide +kernel
theorem dX5_isForm_6 : decode cX5_isForm 6 = .ok (.getfield 87, 3) := by decide +kernel
theorem dX5_isForm_9 : decode cX5_isForm 9 = .ok (.if_icmp .ge 7, 3) := by decide +kernel
theorem dX5_isForm_12 : decode cX5_isForm 12 = .ok (.iconst 1, 1) := by decide +kernel
theorem dX5_isForm_13 : decode cX5_isForm 13 = .ok (.goto 4, 3) := by decide +kernel
theorem dX5_isForm_16 : decode cX5_isForm 16 = .ok (.iconst 0, 1) := by decide +kernel
theorem dX5_isForm_17 : decode cX5_isForm 17 = .ok (.ireturn, 1) := by decide +kernel
theorem dX5_form_0 : decode cX5_form 0 = .ok (.aload_n 0, 1) := by decide +kernel
theorem dX5_form_1 : decode cX5_form 1 = .ok (.iconst 0, 1) := by decide +kernel
theorem dX5_form_2 : decode cX5_form 2 = .ok (.putfield 83, 3) := by decide +kernel
theorem dX5_form_5 : decode cX5_form 5 = .ok (.aload_n 0, 1) := by decide +kernel
theorem dX5_form_6 : decode cX5_form 6 = .ok (.getfield 87, 3) := by decide +kernel
theorem dX5_form_9 : decode cX5_form 9 = .ok (.bipush 8, 2) := by decide +kernel
theorem dX5_form_11 : decode cX5_form 11 = .ok (.if_icmp .eq 60, 3) := by decide +kernel
theorem dX5_form_14 : decode cX5_form 14 = .ok (.iload_n 1, 1) := by decide +kernel
theorem dX5_form_15 : decode cX5_form 15 = .ok (.bipush 10, 2) := by decide +kernel
theorem dX5_form_17 : decode cX5_form 17 = .ok (.if_icmp .lt 54, 3) := by decide +kernel
theorem dX5_form_20 : decode cX5_form 20 = .ok (.iload_n 1, 1) := by decide +kernel
theorem dX5_form_21 : decode cX5_form 21 = .ok (.sipush 200, 3) := by decide +kernel
theorem dX5_form_24 : decode cX5_form 24 = .ok (.if_icmp .gt 47, 3) := by decide +kernel
theorem dX5_form_27 : decode cX5_form 27 = .ok (.iload_n 1, 1) := by decide +kernel
theorem dX5_form_28 : decode cX5_form 28 = .ok (.iconst 2, 1) := by decide +kernel
theorem dX5_form_29 : decode cX5_form 29 = .ok (.irem, 1) := by decide +kernel
theorem dX5_form_30 : decode cX5_form 30 = .ok (.ifCond .ne 41, 3) := by decide +kernel
theorem dX5_form_33 : decode cX5_form 33 = .ok (.iload_n 2, 1) := by decide +kernel
theorem dX5_form_34 : decode cX5_form 34 = .ok (.bipush 100, 2) := by decide +kernel
theorem dX5_form_36 : decode cX5_form 36 = .ok (.if_icmp .lt 35, 3) := by decide +kernel
theorem dX5_form_39 : decode cX5_form 39 = .ok (.iload_n 2, 1) := by decide +kernel
theorem dX5_form_40 : decode cX5_form 40 = .ok (.sipush 2000, 3) := by decide +kernel
theorem dX5_form_43 : decode cX5_form 43 = .ok (.if_icmp .gt 28, 3) := by decide +kernel
theorem dX5_form_46 : decode cX5_form 46 = .ok (.iload_n 3, 1) := by decide +kernel
theorem dX5_form_47 : decode cX5_form 47 = .ok (.bipush 50, 2) := by decide +kernel
theorem dX5_form_49 : decode cX5_form 49 = .ok (.if_icmp .lt 22, 3) := by decide +kernel
theorem dX5_form_52 : decode cX5_form 52 = .ok (.iload_n 3, 1) := by decide +kernel
theorem dX5_form_53 : decode cX5_form 53 = .ok (.iload_n 2, 1) := by decide +kernel
theorem dX5_form_54 : decode cX5_form 54 = .ok (.if_icmp .gt 17, 3) := by decide +kernel
theorem dX5_form_57 : decode cX5_form 57 = .ok (.iload 4, 2) := by decide +kernel
theorem dX5_form_59 : decode cX5_form 59 = .ok (.bipush 8, 2) := by decide +kernel
theorem dX5_form_61 : decode cX5_form 61 = .ok (.if_icmp .lt 10, 3) := by decide +kernel
theorem dX5_form_64 : decode cX5_form 64 = .ok (.iload 4, 2) := by decide +kernel
theorem dX5_form_66 : decode cX5_form 66 = .ok (.bipush 40, 2) := by decide +kernel
theorem dX5_form_68 : decode cX5_form 68 = .ok (.if_icmp .le 5, 3) := by decide +kernel
theorem dX5_form_71 : decode cX5_form 71 = .ok (.iconst (-1), 1) := by decide +kernel
theorem dX5_form_72 : decode cX5_form 72 = .ok (.ireturn, 1) := by decide +kernel
theorem dX5_form_73 : decode cX5_form 73 = .ok (.aload_n 0, 1) := by decide +kernel
theorem dX5_form_74 : decode cX5_form 74 = .ok (.getfield 9, 3) := by decide +kernel
theorem dX5_form_77 : decode cX5_form 77 = .ok (.aload_n 0, 1) := by decide +kernel
theorem dX5_form_78 : decode cX5_form 78 = .ok (.getfield 87, 3) := by decide +kernel
theorem dX5_form_81 : decode cX5_form 81 = .ok (.iload_n 1, 1) := by decide +kernel
theorem dX5_form_82 : decode cX5_form 82 = .ok (.iastore, 1) := by decide +kernel
theorem dX5_form_83 : decode cX5_form 83 = .ok (.aload_n 0, 1) := by decide +kernel
theorem dX5_form_84 : decode cX5_form 84 = .ok (.getfield 13, 3) := by decide +kernel
theorem dX5_form_87 : decode cX5_form 87 = .ok (.aload_n 0, 1) := by decide +kernel
theorem dX5_form_88 : decode cX5_form 88 = .ok (.getfield 87, 3) := by decide +kernel
theorem dX5_form_91 : decode cX5_form 91 = .ok (.iload_n 2, 1) := by decide +kernel
theorem dX5_form_92 : decode cX5_form 92 = .ok (.iastore, 1) := by decide +kernel
theorem dX5_form_93 : decode cX5_form 93 = .ok (.aload_n 0, 1) := by decide +kernel
theorem dX5_form_94 : decode cX5_form 94 = .ok (.getfield 16, 3) := by decide +kernel
theorem dX5_form_97 : decode cX5_form 97 = .ok (.aload_n 0, 1) := by decide +kernel
theorem dX5_form_98 : decode cX5_form 98 = .ok (.getfield 87, 3) := by decide +kernel
theorem dX5_form_101 : decode cX5_form 101 = .ok (.iload_n 3, 1) := by decide +kernel
theorem dX5_form_102 : decode cX5_form 102 = .ok (.iastore, 1) := by decide +kernel
theorem dX5_form_103 : decode cX5_form 103 = .ok (.aload_n 0, 1) := by decide +kernel
theorem dX5_form_104 : decode cX5_form 104 = .ok (.getfield 19, 3) := by decide +kernel
theorem dX5_form_107 : decode cX5_form 107 = .ok (.aload_n 0, 1) := by decide +kernel
theorem dX5_form_108 : decode cX5_form 108 = .ok (.getfield 87, 3) := by decide +kernel
theorem dX5_form_111 : decode cX5_form 111 = .ok (.iload 4, 2) := by decide +kernel
theorem dX5_form_113 : decode cX5_form 113 = .ok (.iastore, 1) := by decide +kernel
theorem dX5_form_114 : decode cX5_form 114 = .ok (.aload_n 0, 1) := by decide +kernel
theorem dX5_form_115 : decode cX5_form 115 = .ok (.dup, 1) := by decide +kernel
theorem dX5_form_116 : decode cX5_form 116 = .ok (.getfield 87, 3) := by decide +kernel
theorem dX5_form_119 : decode cX5_form 119 = .ok (.iconst 1, 1) := by decide +kernel
theorem dX5_form_120 : decode cX5_form 120 = .ok (.iadd, 1) := by decide +kernel
theorem dX5_form_121 : decode cX5_form 121 = .ok (.putfield 87, 3) := by decide +kernel
theorem dX5_form_124 : decode cX5_form 124 = .ok (.aload_n 0, 1) := by decide +kernel
theorem dX5_form_125 : decode cX5_form 125 = .ok (.getfield 87, 3) := by decide +kernel
theorem dX5_form_128 : decode cX5_form 128 = .ok (.iconst 1, 1) := by decide +kernel
theorem dX5_form_129 : decode cX5_form 129 = .ok (.isub, 1) := by decide +kernel
theorem dX5_form_130 : decode cX5_form 130 = .ok (.ireturn, 1) := by decide +kernel
theorem dX5_girthOf_0 : decode cX5_girthOf 0 = .ok (.iconst 2, 1) := by decide +kernel
theorem dX5_girthOf_1 : decode cX5_girthOf 1 = .ok (.iload_n 2, 1) := by decide +kernel
theorem dX5_girthOf_2 : decode cX5_girthOf 2 = .ok (.imul, 1) := by decide +kernel
theorem dX5_girthOf_3 : decode cX5_girthOf 3 = .ok (.aload_n 0, 1) := by decide +kernel
theorem dX5_girthOf_4 : decode cX5_girthOf 4 = .ok (.getfield 9, 3) := by decide +kernel
theorem dX5_girthOf_7 : decode cX5_girthOf 7 = .ok (.iload_n 1, 1) := by decide +kernel
theorem dX5_girthOf_8 : decode cX5_girthOf 8 = .ok (.iaload, 1) := by decide +kernel
theorem dX5_girthOf_9 : decode cX5_girthOf 9 = .ok (.isub, 1) := by decide +kernel
theorem dX5_girthOf_10 : decode cX5_girthOf 10 = .ok (.istore_n 3, 1) := by decide +kernel
theorem dX5_girthOf_11 : decode cX5_girthOf 11 = .ok (.aload_n 0, 1) := by decide +kernel
theorem dX5_girthOf_12 : decode cX5_girthOf 12 = .ok (.getfield 13, 3) := by decide +kernel
theorem dX5_girthOf_15 : decode cX5_girthOf 15 = .ok (.iload_n 1, 1) := by decide +kernel
theorem dX5_girthOf_16 : decode cX5_girthOf 16 = .ok (.iaload, 1) := by decide +kernel
theorem dX5_girthOf_17 : decode cX5_girthOf 17 = .ok (.aload_n 0, 1) := by decide +kernel
theorem dX5_girthOf_18 : decode cX5_girthOf 18 = .ok (.getfield 13, 3) := by decide +kernel
theorem dX5_girthOf_21 : decode cX5_girthOf 21 = .ok (.iload_n 1, 1) := by decide +kernel
theorem dX5_girthOf_22 : decode cX5_girthOf 22 = .ok (.iaload, 1) := by decide +kernel
theorem dX5_girthOf_23 : decode cX5_girthOf 23 = .ok (.aload_n 0, 1) := by decide +kernel
theorem dX5_girthOf_24 : decode cX5_girthOf 24 = .ok (.getfield 16, 3) := by decide +kernel
theorem dX5_girthOf_27 : decode cX5_girthOf 27 = .ok (.iload_n 1, 1) := by decide +kernel
theorem dX5_girthOf_28 : decode cX5_girthOf 28 = .ok (.iaload, 1) := by decide +kernel
theorem dX5_girthOf_29 : decode cX5_girthOf 29 = .ok (.isub, 1) := by decide +kernel
theorem dX5_girthOf_30 : decode cX5_girthOf 30 = .ok (.iload_n 3, 1) := by decide +kernel
theorem dX5_girthOf_31 : decode cX5_girthOf 31 = .ok (.iload_n 3, 1) := by decide +kernel
theorem dX5_girthOf_32 : decode cX5_girthOf 32 = .ok (.imul, 1) := by decide +kernel
theorem dX5_girthOf_33 : decode cX5_girthOf 33 = .ok (.imul, 1) := by decide +kernel
theorem dX5_girthOf_34 : decode cX5_girthOf 34 = .ok (.aload_n 0, 1) := by decide +kernel
theorem dX5_girthOf_35 : decode cX5_girthOf 35 = .ok (.getfield 9, 3) := by decide +kernel
theorem dX5_girthOf_38 : decode cX5_girthOf 38 = .ok (.iload_n 1, 1) := by decide +kernel
theorem dX5_girthOf_39 : decode cX5_girthOf 39 = .ok (.iaload, 1) := by decide +kernel
theorem dX5_girthOf_40 : decode cX5_girthOf 40 = .ok (.aload_n 0, 1) := by decide +kernel
theorem dX5_girthOf_41 : decode cX5_girthOf 41 = .ok (.getfield 9, 3) := by decide +kernel
theorem dX5_girthOf_44 : decode cX5_girthOf 44 = .ok (.iload_n 1, 1) := by decide +kernel
theorem dX5_girthOf_45 : decode cX5_girthOf 45 = .ok (.iaload, 1) := by decide +kernel
theorem dX5_girthOf_46 : decode cX5_girthOf 46 = .ok (.imul, 1) := by decide +kernel
theorem dX5_girthOf_47 : decode cX5_girthOf 47 = .ok (.idiv, 1) := by decide +kernel
theorem dX5_girthOf_48 : decode cX5_girthOf 48 = .ok (.isub, 1) := by decide +kernel
theorem dX5_girthOf_49 : decode cX5_girthOf 49 = .ok (.ireturn, 1) := by decide +kernel
theorem dX5_isHeight_0 : decode cX5_isHeight 0 = .ok (.iload_n 2, 1) := by decide +kernel
theorem dX5_isHeight_1 : decode cX5_isHeight 1 = .ok (.ifCond .lt 17, 3) := by decide +kernel
theorem dX5_isHeight_4 : decode cX5_isHeight 4 = .ok (.iload_n 2, 1) := by decide +kernel
theorem dX5_isHeight_5 : decode cX5_isHeight 5 = .ok (.aload_n 0, 1) := by decide +kernel
theorem dX5_isHeight_6 : decode cX5_isHeight 6 = .ok (.getfield 9, 3) := by decide +kernel
theorem dX5_isHeight_9 : decode cX5_isHeight 9 = .ok (.iload_n 1, 1) := by decide +kernel
theorem dX5_isHeight_10 : decode cX5_isHeight 10 = .ok (.iaload, 1) := by decide +kernel
theorem dX5_isHeight_11 : decode cX5_isHeight 11 = .ok (.if_icmp .gt 7, 3) := by decide +kernel
theorem dX5_isHeight_14 : decode cX5_isHeight 14 = .ok (.iconst 1, 1) := by decide +kernel
theorem dX5_isHeight_15 : decode cX5_isHeight 15 = .ok (.goto 4, 3) := by decide +kernel
theorem dX5_isHeight_18 : decode cX5_isHeight 18 = .ok (.iconst 0, 1) := by decide +kernel
theorem dX5_isHeight_19 : decode cX5_isHeight 19 = .ok (.ireturn, 1) := by decide +kernel
set_option maxRecDepth 20000 in
theorem ggX5_girth_X5_isForm : GoodIn wsX5_girth wsX5_isForm := goodIn_r _ [6, 7, 23, 24, 25, 26, 27, 28, 29, 30, 31, 32, 33, 34, 35, 36, 37, 38, 39, 40, 41, 42, 43, 44, 45, 46, 47, 48, 49, 50, 51, 52, 53, 54, 55, 56] (by decide +kernel) (by decide +kernel)
set_option maxRecDepth 20000 in
theorem gX5_girth_X5_isForm : GoodIn wsX5_girth (wsV RX5 90 RX5 yX5_isForm wsX5_isForm) := goodIn_app (goodIn_of _ (by decide +kernel)) ggX5_girth_X5_isForm
set_option maxRecDepth 20000 in
theorem ggX5_girth_X5_fail : GoodIn wsX5_girth wsX5_fail := goodIn_r _ [11, 1, 23, 24, 25, 26, 27, 28, 29, 30, 31, 32, 33, 34, 35, 36, 37, 38, 39, 40, 41, 42, 43, 44, 45, 46, 47, 48, 49, 50, 51, 52, 53, 54, 55, 56] (by decide +kernel) (by decide +kernel)
set_option maxRecDepth 20000 in
theorem gX5_girth_X5_fail : GoodIn wsX5_girth (wsV RX5 94 RX5 yX5_fail wsX5_fail) := goodIn_app (goodIn_of _ (by decide +kernel)) ggX5_girth_X5_fail
set_option maxRecDepth 20000 in
theorem ggX5_girth_X5_isHeight : GoodIn wsX5_girth wsX5_isHeight := goodIn_r _ [15, 16, 23, 24, 25, 26, 27, 28, 29, 30, 31, 32, 33, 34, 35, 36, 37, 38, 39, 40, 41, 42, 43, 44, 45, 46, 47, 48, 49, 50, 51, 52, 53, 54, 55, 56] (by decide +kernel) (by decide +kernel)
set_option maxRecDepth 20000 in
theorem gX5_girth_X5_isHeight : GoodIn wsX5_girth (wsV RX5 98 RX5 yX5_isHeight wsX5_isHeight) := goodIn_app (goodIn_of _ (by decide +kernel)) ggX5_girth_X5_isHeight
set_option maxRecDepth 20000 in
theorem ggX5_girth_X5_girthOf : GoodIn wsX5_girth wsX5_girthOf := goodIn_r _ [20, 16, 21, 22, 23, 24, 25, 26, 27, 28, 29, 30, 31, 32, 33, 34, 35, 36, 37, 38, 39, 40, 41, 42, 43, 44, 45, 46, 47, 48, 49, 50, 51, 52, 53, 54, 55, 56] (by decide +kernel) (by decide +kernel)
set_option maxRecDepth 20000 in
theorem gX5_girth_X5_girthOf : GoodIn wsX5_girth (wsV RX5 102 RX5 yX5_girthOf wsX5_girthOf) := goodIn_app (goodIn_of _ (by decide +kernel)) ggX5_girth_X5_girthOf
theorem dX5_girth_0 : decode cX5_girth 0 = .ok (.aload_n 0, 1) := by decide +kernel
theorem dX5_girth_1 : decode cX5_girth 1 = .ok (.iconst 0, 1) := by decide +kernel
theorem dX5_girth_2 : decode cX5_girth 2 = .ok (.putfield 83, 3) := by decide +kernel
theorem dX5_girth_5 : decode cX5_girth 5 = .ok (.aload_n 0, 1) := by decide +kernel
theorem dX5_girth_6 : decode cX5_girth 6 = .ok (.iload_n 1, 1) := by decide +kernel
theorem dX5_girth_7 : decode cX5_girth 7 = .ok (.invokevirtual 90, 3) := by decide +kernel
theorem dX5_girth_10 : decode cX5_girth 10 = .ok (.ifCond .ne 11, 3) := by decide +kernel
theorem dX5_girth_13 : decode cX5_girth 13 = .ok (.aload_n 0, 1) := by decide +kernel
theorem dX5_girth_14 : decode cX5_girth 14 = .ok (.iconst 1, 1) := by decide +kernel
theorem dX5_girth_15 : decode cX5_girth 15 = .ok (.invokevirtual 94, 3) := by decide +kernel
theorem dX5_girth_18 : decode cX5_girth 18 = .ok (.goto 26, 3) := by decide +kernel
theorem dX5_girth_21 : decode cX5_girth 21 = .ok (.aload_n 0, 1) := by decide +kernel
theorem dX5_girth_22 : decode cX5_girth 22 = .ok (.iload_n 1, 1) := by decide +kernel
theorem dX5_girth_23 : decode cX5_girth 23 = .ok (.iload_n 2, 1) := by decide +kernel
theorem dX5_girth_24 : decode cX5_girth 24 = .ok (.invokevirtual 98, 3) := by decide +kernel
theorem dX5_girth_27 : decode cX5_girth 27 = .ok (.ifCond .ne 11, 3) := by decide +kernel
theorem dX5_girth_30 : decode cX5_girth 30 = .ok (.aload_n 0, 1) := by decide +kernel
theorem dX5_girth_31 : decode cX5_girth 31 = .ok (.iconst 2, 1) := by decide +kernel
theorem dX5_girth_32 : decode cX5_girth 32 = .ok (.invokevirtual 94, 3) := by decide +kernel
theorem dX5_girth_35 : decode cX5_girth 35 = .ok (.goto 9, 3) := by decide +kernel
theorem dX5_girth_38 : decode cX5_girth 38 = .ok (.aload_n 0, 1) := by decide +kernel
theorem dX5_girth_39 : decode cX5_girth 39 = .ok (.iload_n 1, 1) := by decide +kernel
theorem dX5_girth_40 : decode cX5_girth 40 = .ok (.iload_n 2, 1) := by decide +kernel
theorem dX5_girth_41 : decode cX5_girth 41 = .ok (.invokevirtual 102, 3) := by decide +kernel
theorem dX5_girth_44 : decode cX5_girth 44 = .ok (.ireturn, 1) := by decide +kernel
set_option maxRecDepth 20000 in
theorem ggX5_widthOf_X5_girthOf : GoodIn wsX5_widthOf wsX5_girthOf := goodIn_r _ [6, 7, 8, 9, 10, 11, 12, 13, 14, 15, 16, 17, 18, 19, 20, 21, 22, 23, 24, 25, 26, 27, 28, 29, 30, 31, 32, 33, 34, 35, 36, 37, 38, 39, 40, 41, 42, 43] (by decide +kernel) (by decide +kernel)
set_option maxRecDepth 20000 in
theorem gX5_widthOf_X5_girthOf : GoodIn wsX5_widthOf (wsV RX5 102 RX5 yX5_girthOf wsX5_girthOf) := goodIn_app (goodIn_of _ (by decide +kernel)) ggX5_widthOf_X5_girthOf
theorem dX5_widthOf_0 : decode cX5_widthOf 0 = .ok (.aload_n 0, 1) := by decide +kernel
theorem dX5_widthOf_1 : decode cX5_widthOf 1 = .ok (.iload_n 1, 1) := by decide +kernel
theorem dX5_widthOf_2 : decode cX5_widthOf 2 = .ok (.iload_n 3, 1) := by decide +kernel
theorem dX5_widthOf_3 : decode cX5_widthOf 3 = .ok (.invokevirtual 102, 3) := by decide +kernel
theorem dX5_widthOf_6 : decode cX5_widthOf 6 = .ok (.istore 4, 2) := by decide +kernel
theorem dX5_widthOf_8 : decode cX5_widthOf 8 = .ok (.iload 4, 2) := by decide +kernel
theorem dX5_widthOf_10 : decode cX5_widthOf 10 = .ok (.iload_n 2, 1) := by decide +kernel
theorem dX5_widthOf_11 : decode cX5_widthOf 11 = .ok (.iconst 1, 1) := by decide +kernel
theorem dX5_widthOf_12 : decode cX5_widthOf 12 = .ok (.iadd, 1) := by decide +kernel
theorem dX5_widthOf_13 : decode cX5_widthOf 13 = .ok (.imul, 1) := by decide +kernel
theorem dX5_widthOf_14 : decode cX5_widthOf 14 = .ok (.aload_n 0, 1) := by decide +kernel
theorem dX5_widthOf_15 : decode cX5_widthOf 15 = .ok (.getfield 19, 3) := by decide +kernel
theorem dX5_widthOf_18 : decode cX5_widthOf 18 = .ok (.iload_n 1, 1) := by decide +kernel
theorem dX5_widthOf_19 : decode cX5_widthOf 19 = .ok (.iaload, 1) := by decide +kernel
theorem dX5_widthOf_20 : decode cX5_widthOf 20 = .ok (.idiv, 1) := by decide +kernel
theorem dX5_widthOf_21 : decode cX5_widthOf 21 = .ok (.iload 4, 2) := by decide +kernel
theorem dX5_widthOf_23 : decode cX5_widthOf 23 = .ok (.iload_n 2, 1) := by decide +kernel
theorem dX5_widthOf_24 : decode cX5_widthOf 24 = .ok (.imul, 1) := by decide +kernel
theorem dX5_widthOf_25 : decode cX5_widthOf 25 = .ok (.aload_n 0, 1) := by decide +kernel
theorem dX5_widthOf_26 : decode cX5_widthOf 26 = .ok (.getfield 19, 3) := by decide +kernel
theorem dX5_widthOf_29 : decode cX5_widthOf 29 = .ok (.iload_n 1, 1) := by decide +kernel
theorem dX5_widthOf_30 : decode cX5_widthOf 30 = .ok (.iaload, 1) := by decide +kernel
theorem dX5_widthOf_31 : decode cX5_widthOf 31 = .ok (.idiv, 1) := by decide +kernel
theorem dX5_widthOf_32 : decode cX5_widthOf 32 = .ok (.isub, 1) := by decide +kernel
theorem dX5_widthOf_33 : decode cX5_widthOf 33 = .ok (.ireturn, 1) := by decide +kernel
set_option maxRecDepth 20000 in
theorem ggX5_width_X5_isForm : GoodIn wsX5_width wsX5_isForm := goodIn_r _ [7, 8, 28, 29, 30, 31, 32, 33, 34, 35, 36, 37, 38, 39, 40, 41, 42, 43, 44, 45, 46, 47, 48, 49, 50, 51, 52, 53, 54, 55, 56, 57, 58, 59, 60, 61] (by decide +kernel) (by decide +kernel)
set_option maxRecDepth 20000 in
theorem gX5_width_X5_isForm : GoodIn wsX5_width (wsV RX5 90 RX5 yX5_isForm wsX5_isForm) := goodIn_app (goodIn_of _ (by decide +kernel)) ggX5_width_X5_isForm
set_option maxRecDepth 20000 in
theorem ggX5_width_X5_fail : GoodIn wsX5_width wsX5_fail := goodIn_r _ [12, 1, 28, 29, 30, 31, 32, 33, 34, 35, 36, 37, 38, 39, 40, 41, 42, 43, 44, 45, 46, 47, 48, 49, 50, 51, 52, 53, 54, 55, 56, 57, 58, 59, 60, 61] (by decide +kernel) (by decide +kernel)
set_option maxRecDepth 20000 in
theorem gX5_width_X5_fail : GoodIn wsX5_width (wsV RX5 94 RX5 yX5_fail wsX5_fail) := goodIn_app (goodIn_of _ (by decide +kernel)) ggX5_width_X5_fail
set_option maxRecDepth 20000 in
theorem ggX5_width_X5_isHeight : GoodIn wsX5_width wsX5_isHeight := goodIn_r _ [16, 17, 28, 29, 30, 31, 32, 33, 34, 35, 36, 37, 38, 39, 40, 41, 42, 43, 44, 45, 46, 47, 48, 49, 50, 51, 52, 53, 54, 55, 56, 57, 58, 59, 60, 61] (by decide +kernel) (by decide +kernel)
set_option maxRecDepth 20000 in
theorem gX5_width_X5_isHeight : GoodIn wsX5_width (wsV RX5 98 RX5 yX5_isHeight wsX5_isHeight) := goodIn_app (goodIn_of _ (by decide +kernel)) ggX5_width_X5_isHeight
set_option maxRecDepth 20000 in
theorem ggX5_width_X5_widthOf : GoodIn wsX5_width wsX5_widthOf := goodIn_r _ [21, 2, 22, 23, 24, 6, 25, 17, 26, 27, 28, 29, 30, 31, 32, 33, 34, 35, 36, 37, 38, 39, 40, 41, 42, 43, 44, 45, 46, 47, 48, 49, 50, 51, 52, 53, 54, 55, 56, 57, 58, 59, 60, 61] (by decide +kernel) (by decide +kernel)
set_option maxRecDepth 20000 in
theorem gX5_width_X5_widthOf : GoodIn wsX5_width (wsV RX5 106 RX5 yX5_widthOf wsX5_widthOf) := goodIn_app (goodIn_of _ (by decide +kernel)) ggX5_width_X5_widthOf
theorem dX5_width_0 : decode cX5_width 0 = .ok (.aload_n 0, 1) := by decide +kernel
theorem dX5_width_1 : decode cX5_width 1 = .ok (.iconst 0, 1) := by decide +kernel
theorem dX5_width_2 : decode cX5_width 2 = .ok (.putfield 83, 3) := by decide +kernel
theorem dX5_width_5 : decode cX5_width 5 = .ok (.aload_n 0, 1) := by decide +kernel
theorem dX5_width_6 : decode cX5_width 6 = .ok (.iload_n 1, 1) := by decide +kernel
theorem dX5_width_7 : decode cX5_width 7 = .ok (.invokevirtual 90, 3) := by decide +kernel
theorem dX5_width_10 : decode cX5_width 10 = .ok (.ifCond .eq 17, 3) := by decide +kernel
theorem dX5_width_13 : decode cX5_width 13 = .ok (.iload_n 2, 1) := by decide +kernel
theorem dX5_width_14 : decode cX5_width 14 = .ok (.ifCond .lt 13, 3) := by decide +kernel
theorem dX5_width_17 : decode cX5_width 17 = .ok (.iload_n 2, 1) := by decide +kernel
theorem dX5_width_18 : decode cX5_width 18 = .ok (.aload_n 0, 1) := by decide +kernel
theorem dX5_width_19 : decode cX5_width 19 = .ok (.getfield 19, 3) := by decide +kernel
theorem dX5_width_22 : decode cX5_width 22 = .ok (.iload_n 1, 1) := by decide +kernel
theorem dX5_width_23 : decode cX5_width 23 = .ok (.iaload, 1) := by decide +kernel
theorem dX5_width_24 : decode cX5_width 24 = .ok (.if_icmp .lt 9, 3) := by decide +kernel
theorem dX5_width_27 : decode cX5_width 27 = .ok (.aload_n 0, 1) := by decide +kernel
theorem dX5_width_28 : decode cX5_width 28 = .ok (.iconst 1, 1) := by decide +kernel
theorem dX5_width_29 : decode cX5_width 29 = .ok (.invokevirtual 94, 3) := by decide +kernel
theorem dX5_width_32 : decode cX5_width 32 = .ok (.ireturn, 1) := by decide +kernel
theorem dX5_width_33 : decode cX5_width 33 = .ok (.aload_n 0, 1) := by decide +kernel
theorem dX5_width_34 : decode cX5_width 34 = .ok (.iload_n 1, 1) := by decide +kernel
theorem dX5_width_35 : decode cX5_width 35 = .ok (.iload_n 3, 1) := by decide +kernel
theorem dX5_width_36 : decode cX5_width 36 = .ok (.invokevirtual 98, 3) := by decide +kernel
theorem dX5_width_39 : decode cX5_width 39 = .ok (.ifCond .eq 13, 3) := by decide +kernel
theorem dX5_width_42 : decode cX5_width 42 = .ok (.aload_n 0, 1) := by decide +kernel
theorem dX5_width_43 : decode cX5_width 43 = .ok (.iload_n 1, 1) := by decide +kernel
theorem dX5_width_44 : decode cX5_width 44 = .ok (.iload_n 2, 1) := by decide +kernel
theorem dX5_width_45 : decode cX5_width 45 = .ok (.iload_n 3, 1) := by decide +kernel
theorem dX5_width_46 : decode cX5_width 46 = .ok (.invokevirtual 106, 3) := by decide +kernel
theorem dX5_width_49 : decode cX5_width 49 = .ok (.goto 8, 3) := by decide +kernel
theorem dX5_width_52 : decode cX5_width 52 = .ok (.aload_n 0, 1) := by decide +kernel
theorem dX5_width_53 : decode cX5_width 53 = .ok (.iconst 2, 1) := by decide +kernel
theorem dX5_width_54 : decode cX5_width 54 = .ok (.invokevirtual 94, 3) := by decide +kernel
theorem dX5_width_57 : decode cX5_width 57 = .ok (.ireturn, 1) := by decide +kernel
set_option maxRecDepth 20000 in
theorem ggX5_holdsAt_X5_girthOf : GoodIn wsX5_holdsAt wsX5_girthOf := goodIn_r _ [7, 8, 9, 10, 11, 12, 13, 14, 15, 16, 17, 18, 19, 20, 21, 22, 23, 24, 25, 26, 27, 28, 29, 30, 31, 32, 33, 34, 35, 36, 37, 38, 39, 40, 41, 42, 43, 44] (by decide +kernel) (by decide +kernel)
set_option maxRecDepth 20000 in
theorem gX5_holdsAt_X5_girthOf : GoodIn wsX5_holdsAt (wsV RX5 102 RX5 yX5_girthOf wsX5_girthOf) := goodIn_app (goodIn_of _ (by decide +kernel)) ggX5_holdsAt_X5_girthOf
theorem dX5_holdsAt_0 : decode cX5_holdsAt 0 = .ok (.lconst 0, 1) := by decide +kernel
theorem dX5_holdsAt_1 : decode cX5_holdsAt 1 = .ok (.lstore_n 3, 1) := by decide +kernel
theorem dX5_holdsAt_2 : decode cX5_holdsAt 2 = .ok (.iconst 0, 1) := by decide +kernel
theorem dX5_holdsAt_3 : decode cX5_holdsAt 3 = .ok (.istore 5, 2) := by decide +kernel
theorem dX5_holdsAt_5 : decode cX5_holdsAt 5 = .ok (.iload 5, 2) := by decide +kernel
theorem dX5_holdsAt_7 : decode cX5_holdsAt 7 = .ok (.iload_n 2, 1) := by decide +kernel
theorem dX5_holdsAt_8 : decode cX5_holdsAt 8 = .ok (.if_icmp .ge 29, 3) := by decide +kernel
theorem dX5_holdsAt_11 : decode cX5_holdsAt 11 = .ok (.lload_n 3, 1) := by decide +kernel
theorem dX5_holdsAt_12 : decode cX5_holdsAt 12 = .ok (.aload_n 0, 1) := by decide +kernel
theorem dX5_holdsAt_13 : decode cX5_holdsAt 13 = .ok (.iload_n 1, 1) := by decide +kernel
theorem dX5_holdsAt_14 : decode cX5_holdsAt 14 = .ok (.iload 5, 2) := by decide +kernel
theorem dX5_holdsAt_16 : decode cX5_holdsAt 16 = .ok (.invokevirtual 102, 3) := by decide +kernel
theorem dX5_holdsAt_19 : decode cX5_holdsAt 19 = .ok (.i2l, 1) := by decide +kernel
theorem dX5_holdsAt_20 : decode cX5_holdsAt 20 = .ok (.aload_n 0, 1) := by decide +kernel
theorem dX5_holdsAt_21 : decode cX5_holdsAt 21 = .ok (.iload_n 1, 1) := by decide +kernel
theorem dX5_holdsAt_22 : decode cX5_holdsAt 22 = .ok (.iload 5, 2) := by decide +kernel
theorem dX5_holdsAt_24 : decode cX5_holdsAt 24 = .ok (.invokevirtual 102, 3) := by decide +kernel
theorem dX5_holdsAt_27 : decode cX5_holdsAt 27 = .ok (.i2l, 1) := by decide +kernel
theorem dX5_holdsAt_28 : decode cX5_holdsAt 28 = .ok (.lmul, 1) := by decide +kernel
theorem dX5_holdsAt_29 : decode cX5_holdsAt 29 = .ok (.ladd, 1) := by decide +kernel
theorem dX5_holdsAt_30 : decode cX5_holdsAt 30 = .ok (.lstore_n 3, 1) := by decide +kernel
theorem dX5_holdsAt_31 : decode cX5_holdsAt 31 = .ok (.iinc 5 1, 3) := by decide +kernel
theorem dX5_holdsAt_34 : decode cX5_holdsAt 34 = .ok (.goto (-29), 3) := by decide +kernel
theorem dX5_holdsAt_37 : decode cX5_holdsAt 37 = .ok (.lload_n 3, 1) := by decide +kernel
theorem dX5_holdsAt_38 : decode cX5_holdsAt 38 = .ok (.ldc2_w 110, 3) := by decide +kernel
theorem dX5_holdsAt_41 : decode cX5_holdsAt 41 = .ok (.lmul, 1) := by decide +kernel
theorem dX5_holdsAt_42 : decode cX5_holdsAt 42 = .ok (.ldc2_w 112, 3) := by decide +kernel
theorem dX5_holdsAt_45 : decode cX5_holdsAt 45 = .ok (.ldiv, 1) := by decide +kernel
theorem dX5_holdsAt_46 : decode cX5_holdsAt 46 = .ok (.l2i, 1) := by decide +kernel
theorem dX5_holdsAt_47 : decode cX5_holdsAt 47 = .ok (.ireturn, 1) := by decide +kernel
set_option maxRecDepth 20000 in
theorem ggX5_holds_X5_isForm : GoodIn wsX5_holds wsX5_isForm := goodIn_r _ [6, 7, 29, 30, 31, 32, 33, 34, 35, 36, 37, 38, 39, 40, 41, 42, 43, 44, 45, 46, 47, 48, 49, 50, 51, 52, 53, 54, 55, 56, 57, 58, 59, 60, 61, 62] (by decide +kernel) (by decide +kernel)
set_option maxRecDepth 20000 in
theorem gX5_holds_X5_isForm : GoodIn wsX5_holds (wsV RX5 90 RX5 yX5_isForm wsX5_isForm) := goodIn_app (goodIn_of _ (by decide +kernel)) ggX5_holds_X5_isForm
set_option maxRecDepth 20000 in
theorem ggX5_holds_X5_fail : GoodIn wsX5_holds wsX5_fail := goodIn_r _ [11, 1, 29, 30, 31, 32, 33, 34, 35, 36, 37, 38, 39, 40, 41, 42, 43, 44, 45, 46, 47, 48, 49, 50, 51, 52, 53, 54, 55, 56, 57, 58, 59, 60, 61, 62] (by decide +kernel) (by decide +kernel)
set_option maxRecDepth 20000 in
theorem gX5_holds_X5_fail : GoodIn wsX5_holds (wsV RX5 94 RX5 yX5_fail wsX5_fail) := goodIn_app (goodIn_of _ (by decide +kernel)) ggX5_holds_X5_fail
set_option maxRecDepth 20000 in
theorem ggX5_holds_X5_isHeight : GoodIn wsX5_holds wsX5_isHeight := goodIn_r _ [15, 16, 29, 30, 31, 32, 33, 34, 35, 36, 37, 38, 39, 40, 41, 42, 43, 44, 45, 46, 47, 48, 49, 50, 51, 52, 53, 54, 55, 56, 57, 58, 59, 60, 61, 62] (by decide +kernel) (by decide +kernel)
set_option maxRecDepth 20000 in
theorem gX5_holds_X5_isHeight : GoodIn wsX5_holds (wsV RX5 98 RX5 yX5_isHeight wsX5_isHeight) := goodIn_app (goodIn_of _ (by decide +kernel)) ggX5_holds_X5_isHeight
set_option maxRecDepth 20000 in
theorem ggX5_holds_X5_holdsAt : GoodIn wsX5_holds wsX5_holdsAt := goodIn_r _ [20, 21, 22, 23, 24, 25, 5, 26, 16, 27, 28, 29, 30, 31, 32, 33, 34, 35, 36, 37, 38, 39, 40, 41, 42, 43, 44, 45, 46, 47, 48, 49, 50, 51, 52, 53, 54, 55, 56, 57, 58, 59, 60, 61, 62] (by decide +kernel) (by decide +kernel)
set_option maxRecDepth 20000 in
theorem gX5_holds_X5_holdsAt : GoodIn wsX5_holds (wsV RX5 114 RX5 yX5_holdsAt wsX5_holdsAt) := goodIn_app (goodIn_of _ (by decide +kernel)) ggX5_holds_X5_holdsAt
theorem dX5_holds_0 : decode cX5_holds 0 = .ok (.aload_n 0, 1) := by decide +kernel
theorem dX5_holds_1 : decode cX5_holds 1 = .ok (.iconst 0, 1) := by decide +kernel
theorem dX5_holds_2 : decode cX5_holds 2 = .ok (.putfield 83, 3) := by decide +kernel
theorem dX5_holds_5 : decode cX5_holds 5 = .ok (.aload_n 0, 1) := by decide +kernel
theorem dX5_holds_6 : decode cX5_holds 6 = .ok (.iload_n 1, 1) := by decide +kernel
theorem dX5_holds_7 : decode cX5_holds 7 = .ok (.invokevirtual 90, 3) := by decide +kernel
theorem dX5_holds_10 : decode cX5_holds 10 = .ok (.ifCond .ne 11, 3) := by decide +kernel
theorem dX5_holds_13 : decode cX5_holds 13 = .ok (.aload_n 0, 1) := by decide +kernel
theorem dX5_holds_14 : decode cX5_holds 14 = .ok (.iconst 1, 1) := by decide +kernel
theorem dX5_holds_15 : decode cX5_holds 15 = .ok (.invokevirtual 94, 3) := by decide +kernel
theorem dX5_holds_18 : decode cX5_holds 18 = .ok (.goto 26, 3) := by decide +kernel
theorem dX5_holds_21 : decode cX5_holds 21 = .ok (.aload_n 0, 1) := by decide +kernel
theorem dX5_holds_22 : decode cX5_holds 22 = .ok (.iload_n 1, 1) := by decide +kernel
theorem dX5_holds_23 : decode cX5_holds 23 = .ok (.iload_n 2, 1) := by decide +kernel
theorem dX5_holds_24 : decode cX5_holds 24 = .ok (.invokevirtual 98, 3) := by decide +kernel
theorem dX5_holds_27 : decode cX5_holds 27 = .ok (.ifCond .ne 11, 3) := by decide +kernel
theorem dX5_holds_30 : decode cX5_holds 30 = .ok (.aload_n 0, 1) := by decide +kernel
theorem dX5_holds_31 : decode cX5_holds 31 = .ok (.iconst 2, 1) := by decide +kernel
theorem dX5_holds_32 : decode cX5_holds 32 = .ok (.invokevirtual 94, 3) := by decide +kernel
theorem dX5_holds_35 : decode cX5_holds 35 = .ok (.goto 9, 3) := by decide +kernel
theorem dX5_holds_38 : decode cX5_holds 38 = .ok (.aload_n 0, 1) := by decide +kernel
theorem dX5_holds_39 : decode cX5_holds 39 = .ok (.iload_n 1, 1) := by decide +kernel
theorem dX5_holds_40 : decode cX5_holds 40 = .ok (.iload_n 2, 1) := by decide +kernel
theorem dX5_holds_41 : decode cX5_holds 41 = .ok (.invokevirtual 114, 3) := by decide +kernel
theorem dX5_holds_44 : decode cX5_holds 44 = .ok (.ireturn, 1) := by decide +kernel
set_option maxRecDepth 20000 in
theorem ggX5_level_X5_isForm : GoodIn wsX5_level wsX5_isForm := goodIn_r _ [7, 8, 25, 26, 27, 28, 29, 30, 31, 32, 33, 34, 35, 36, 37, 38, 39, 40, 41, 42, 43, 44, 45, 46, 47, 48, 49, 50, 51, 52, 53, 54, 55, 56, 57, 58] (by decide +kernel) (by decide +kernel)
set_option maxRecDepth 20000 in
theorem gX5_level_X5_isForm : GoodIn wsX5_level (wsV RX5 90 RX5 yX5_isForm wsX5_isForm) := goodIn_app (goodIn_of _ (by decide +kernel)) ggX5_level_X5_isForm
set_option maxRecDepth 20000 in
theorem ggX5_level_X5_fail : GoodIn wsX5_level wsX5_fail := goodIn_r _ [12, 1, 25, 26, 27, 28, 29, 30, 31, 32, 33, 34, 35, 36, 37, 38, 39, 40, 41, 42, 43, 44, 45, 46, 47, 48, 49, 50, 51, 52, 53, 54, 55, 56, 57, 58] (by decide +kernel) (by decide +kernel)
set_option maxRecDepth 20000 in
theorem gX5_level_X5_fail : GoodIn wsX5_level (wsV RX5 94 RX5 yX5_fail wsX5_fail) := goodIn_app (goodIn_of _ (by decide +kernel)) ggX5_level_X5_fail
set_option maxRecDepth 20000 in
theorem ggX5_level_X5_holdsAt : GoodIn wsX5_level wsX5_holdsAt := goodIn_r _ [16, 17, 18, 19, 20, 21, 6, 22, 2, 23, 24, 25, 26, 27, 28, 29, 30, 31, 32, 33, 34, 35, 36, 37, 38, 39, 40, 41, 42, 43, 44, 45, 46, 47, 48, 49, 50, 51, 52, 53, 54, 55, 56, 57, 58] (by decide +kernel) (by decide +kernel)
set_option maxRecDepth 20000 in
theorem gX5_level_X5_holdsAt : GoodIn wsX5_level (wsV RX5 114 RX5 yX5_holdsAt wsX5_holdsAt) := goodIn_app (goodIn_of _ (by decide +kernel)) ggX5_level_X5_holdsAt
theorem dX5_level_0 : decode cX5_level 0 = .ok (.aload_n 0, 1) := by decide +kernel
theorem dX5_level_1 : decode cX5_level 1 = .ok (.iconst 0, 1) := by decide +kernel
theorem dX5_level_2 : decode cX5_level 2 = .ok (.putfield 83, 3) := by decide +kernel
theorem dX5_level_5 : decode cX5_level 5 = .ok (.aload_n 0, 1) := by decide +kernel
theorem dX5_level_6 : decode cX5_level 6 = .ok (.iload_n 1, 1) := by decide +kernel
theorem dX5_level_7 : decode cX5_level 7 = .ok (.invokevirtual 90, 3) := by decide +kernel
theorem dX5_level_10 : decode cX5_level 10 = .ok (.ifCond .ne 9, 3) := by decide +kernel
theorem dX5_level_13 : decode cX5_level 13 = .ok (.aload_n 0, 1) := by decide +kernel
theorem dX5_level_14 : decode cX5_level 14 = .ok (.iconst 1, 1) := by decide +kernel
theorem dX5_level_15 : decode cX5_level 15 = .ok (.invokevirtual 94, 3) := by decide +kernel
theorem dX5_level_18 : decode cX5_level 18 = .ok (.ireturn, 1) := by decide +kernel
theorem dX5_level_19 : decode cX5_level 19 = .ok (.iload_n 2, 1) := by decide +kernel
theorem dX5_level_20 : decode cX5_level 20 = .ok (.ifCond .ge 9, 3) := by decide +kernel
theorem dX5_level_23 : decode cX5_level 23 = .ok (.aload_n 0, 1) := by decide +kernel
theorem dX5_level_24 : decode cX5_level 24 = .ok (.iconst 2, 1) := by decide +kernel
theorem dX5_level_25 : decode cX5_level 25 = .ok (.invokevirtual 94, 3) := by decide +kernel
theorem dX5_level_28 : decode cX5_level 28 = .ok (.ireturn, 1) := by decide +kernel
theorem dX5_level_29 : decode cX5_level 29 = .ok (.iconst 0, 1) := by decide +kernel
theorem dX5_level_30 : decode cX5_level 30 = .ok (.istore_n 3, 1) := by decide +kernel
theorem dX5_level_31 : decode cX5_level 31 = .ok (.iload_n 3, 1) := by decide +kernel
theorem dX5_level_32 : decode cX5_level 32 = .ok (.aload_n 0, 1) := by decide +kernel
theorem dX5_level_33 : decode cX5_level 33 = .ok (.getfield 9, 3) := by decide +kernel
theorem dX5_level_36 : decode cX5_level 36 = .ok (.iload_n 1, 1) := by decide +kernel
theorem dX5_level_37 : decode cX5_level 37 = .ok (.iaload, 1) := by decide +kernel
theorem dX5_level_38 : decode cX5_level 38 = .ok (.if_icmp .gt 19, 3) := by decide +kernel
theorem dX5_level_41 : decode cX5_level 41 = .ok (.aload_n 0, 1) := by decide +kernel
theorem dX5_level_42 : decode cX5_level 42 = .ok (.iload_n 1, 1) := by decide +kernel
theorem dX5_level_43 : decode cX5_level 43 = .ok (.iload_n 3, 1) := by decide +kernel
theorem dX5_level_44 : decode cX5_level 44 = .ok (.invokevirtual 114, 3) := by decide +kernel
theorem dX5_level_47 : decode cX5_level 47 = .ok (.iload_n 2, 1) := by decide +kernel
theorem dX5_level_48 : decode cX5_level 48 = .ok (.if_icmp .ge 9, 3) := by decide +kernel
theorem dX5_level_51 : decode cX5_level 51 = .ok (.iinc 3 1, 3) := by decide +kernel
theorem dX5_level_54 : decode cX5_level 54 = .ok (.goto (-23), 3) := by decide +kernel
theorem dX5_level_57 : decode cX5_level 57 = .ok (.iload_n 3, 1) := by decide +kernel
theorem dX5_level_58 : decode cX5_level 58 = .ok (.aload_n 0, 1) := by decide +kernel
theorem dX5_level_59 : decode cX5_level 59 = .ok (.getfield 9, 3) := by decide +kernel
theorem dX5_level_62 : decode cX5_level 62 = .ok (.iload_n 1, 1) := by decide +kernel
theorem dX5_level_63 : decode cX5_level 63 = .ok (.iaload, 1) := by decide +kernel
theorem dX5_level_64 : decode cX5_level 64 = .ok (.if_icmp .le 7, 3) := by decide +kernel
theorem dX5_level_67 : decode cX5_level 67 = .ok (.iconst (-1), 1) := by decide +kernel
theorem dX5_level_68 : decode cX5_level 68 = .ok (.goto 4, 3) := by decide +kernel
theorem dX5_level_71 : decode cX5_level 71 = .ok (.iload_n 3, 1) := by decide +kernel
theorem dX5_level_72 : decode cX5_level 72 = .ok (.ireturn, 1) := by decide +kernel
set_option maxRecDepth 20000 in
theorem ggX5_head_X5_isForm : GoodIn wsX5_head wsX5_isForm := goodIn_r _ [6, 7, 19, 20, 21, 22, 23, 24, 25, 26, 27, 28, 29, 30, 31, 32, 33, 34, 35, 36, 37, 38, 39, 40, 41, 42, 43, 44, 45, 46, 47, 48, 49, 50, 51, 52] (by decide +kernel) (by decide +kernel)
set_option maxRecDepth 20000 in
theorem gX5_head_X5_isForm : GoodIn wsX5_head (wsV RX5 90 RX5 yX5_isForm wsX5_isForm) := goodIn_app (goodIn_of _ (by decide +kernel)) ggX5_head_X5_isForm
set_option maxRecDepth 20000 in
theorem ggX5_head_X5_girthOf : GoodIn wsX5_head wsX5_girthOf := goodIn_r _ [11, 12, 13, 14, 19, 20, 21, 22, 23, 24, 25, 26, 27, 28, 29, 30, 31, 32, 33, 34, 35, 36, 37, 38, 39, 40, 41, 42, 43, 44, 45, 46, 47, 48, 49, 50, 51, 52] (by decide +kernel) (by decide +kernel)
set_option maxRecDepth 20000 in
theorem gX5_head_X5_girthOf : GoodIn wsX5_head (wsV RX5 102 RX5 yX5_girthOf wsX5_girthOf) := goodIn_app (goodIn_of _ (by decide +kernel)) ggX5_head_X5_girthOf
set_option maxRecDepth 20000 in
theorem ggX5_head_X5_fail : GoodIn wsX5_head wsX5_fail := goodIn_r _ [18, 1, 19, 20, 21, 22, 23, 24, 25, 26, 27, 28, 29, 30, 31, 32, 33, 34, 35, 36, 37, 38, 39, 40, 41, 42, 43, 44, 45, 46, 47, 48, 49, 50, 51, 52] (by decide +kernel) (by decide +kernel)
set_option maxRecDepth 20000 in
theorem gX5_head_X5_fail : GoodIn wsX5_head (wsV RX5 94 RX5 yX5_fail wsX5_fail) := goodIn_app (goodIn_of _ (by decide +kernel)) ggX5_head_X5_fail
theorem dX5_head_0 : decode cX5_head 0 = .ok (.aload_n 0, 1) := by decide +kernel
theorem dX5_head_1 : decode cX5_head 1 = .ok (.iconst 0, 1) := by decide +kernel
theorem dX5_head_2 : decode cX5_head 2 = .ok (.putfield 83, 3) := by decide +kernel
theorem dX5_head_5 : decode cX5_head 5 = .ok (.aload_n 0, 1) := by decide +kernel
theorem dX5_head_6 : decode cX5_head 6 = .ok (.iload_n 1, 1) := by decide +kernel
theorem dX5_head_7 : decode cX5_head 7 = .ok (.invokevirtual 90, 3) := by decide +kernel
theorem dX5_head_10 : decode cX5_head 10 = .ok (.ifCond .eq 19, 3) := by decide +kernel
theorem dX5_head_13 : decode cX5_head 13 = .ok (.aload_n 0, 1) := by decide +kernel
theorem dX5_head_14 : decode cX5_head 14 = .ok (.iload_n 1, 1) := by decide +kernel
theorem dX5_head_15 : decode cX5_head 15 = .ok (.iconst 0, 1) := by decide +kernel
theorem dX5_head_16 : decode cX5_head 16 = .ok (.invokevirtual 102, 3) := by decide +kernel
theorem dX5_head_19 : decode cX5_head 19 = .ok (.bipush 113, 2) := by decide +kernel
theorem dX5_head_21 : decode cX5_head 21 = .ok (.imul, 1) := by decide +kernel
theorem dX5_head_22 : decode cX5_head 22 = .ok (.sipush 355, 3) := by decide +kernel
theorem dX5_head_25 : decode cX5_head 25 = .ok (.idiv, 1) := by decide +kernel
theorem dX5_head_26 : decode cX5_head 26 = .ok (.goto 8, 3) := by decide +kernel
theorem dX5_head_29 : decode cX5_head 29 = .ok (.aload_n 0, 1) := by decide +kernel
theorem dX5_head_30 : decode cX5_head 30 = .ok (.iconst 1, 1) := by decide +kernel
theorem dX5_head_31 : decode cX5_head 31 = .ok (.invokevirtual 94, 3) := by decide +kernel
theorem dX5_head_34 : decode cX5_head 34 = .ok (.ireturn, 1) := by decide +kernel
set_option maxRecDepth 20000 in
theorem ggX5_days_X5_fail : GoodIn wsX5_days wsX5_fail := goodIn_r _ [8, 1, 9, 10, 11, 12, 13, 14, 15, 16, 17, 18, 19, 20, 21, 22, 23, 24, 25, 26, 27, 28, 29, 30, 31, 32, 33, 34, 35, 36, 37, 38, 39, 40, 41, 42] (by decide +kernel) (by decide +kernel)
set_option maxRecDepth 20000 in
theorem gX5_days_X5_fail : GoodIn wsX5_days (wsV RX5 94 RX5 yX5_fail wsX5_fail) := goodIn_app (goodIn_of _ (by decide +kernel)) ggX5_days_X5_fail
theorem dX5_days_0 : decode cX5_days 0 = .ok (.aload_n 0, 1) := by decide +kernel
theorem dX5_days_1 : decode cX5_days 1 = .ok (.iconst 0, 1) := by decide +kernel
theorem dX5_days_2 : decode cX5_days 2 = .ok (.putfield 83, 3) := by decide +kernel
theorem dX5_days_5 : decode cX5_days 5 = .ok (.iload_n 1, 1) := by decide +kernel
theorem dX5_days_6 : decode cX5_days 6 = .ok (.ifCond .lt 18, 3) := by decide +kernel
theorem dX5_days_9 : decode cX5_days 9 = .ok (.aload_n 0, 1) := by decide +kernel
theorem dX5_days_10 : decode cX5_days 10 = .ok (.getfield 117, 3) := by decide +kernel
theorem dX5_days_13 : decode cX5_days 13 = .ok (.i2l, 1) := by decide +kernel
theorem dX5_days_14 : decode cX5_days 14 = .ok (.iload_n 1, 1) := by decide +kernel
theorem dX5_days_15 : decode cX5_days 15 = .ok (.i2l, 1) := by decide +kernel
theorem dX5_days_16 : decode cX5_days 16 = .ok (.ladd, 1) := by decide +kernel
theorem dX5_days_17 : decode cX5_days 17 = .ok (.ldc2_w 120, 3) := by decide +kernel
theorem dX5_days_20 : decode cX5_days 20 = .ok (.lcmp, 1) := by decide +kernel
theorem dX5_days_21 : decode cX5_days 21 = .ok (.ifCond .le 9, 3) := by decide +kernel
theorem dX5_days_24 : decode cX5_days 24 = .ok (.aload_n 0, 1) := by decide +kernel
theorem dX5_days_25 : decode cX5_days 25 = .ok (.iconst 1, 1) := by decide +kernel
theorem dX5_days_26 : decode cX5_days 26 = .ok (.invokevirtual 94, 3) := by decide +kernel
theorem dX5_days_29 : decode cX5_days 29 = .ok (.ireturn, 1) := by decide +kernel
theorem dX5_days_30 : decode cX5_days 30 = .ok (.aload_n 0, 1) := by decide +kernel
theorem dX5_days_31 : decode cX5_days 31 = .ok (.dup, 1) := by decide +kernel
theorem dX5_days_32 : decode cX5_days 32 = .ok (.getfield 117, 3) := by decide +kernel
theorem dX5_days_35 : decode cX5_days 35 = .ok (.iload_n 1, 1) := by decide +kernel
theorem dX5_days_36 : decode cX5_days 36 = .ok (.iadd, 1) := by decide +kernel
theorem dX5_days_37 : decode cX5_days 37 = .ok (.putfield 117, 3) := by decide +kernel
theorem dX5_days_40 : decode cX5_days 40 = .ok (.aload_n 0, 1) := by decide +kernel
theorem dX5_days_41 : decode cX5_days 41 = .ok (.getfield 117, 3) := by decide +kernel
theorem dX5_days_44 : decode cX5_days 44 = .ok (.ireturn, 1) := by decide +kernel
theorem dX5_isBolt_0 : decode cX5_isBolt 0 = .ok (.iload_n 1, 1) := by decide +kernel
theorem dX5_isBolt_1 : decode cX5_isBolt 1 = .ok (.ifCond .lt 15, 3) := by decide +kernel
theorem dX5_isBolt_4 : decode cX5_isBolt 4 = .ok (.iload_n 1, 1) := by decide +kernel
theorem dX5_isBolt_5 : decode cX5_isBolt 5 = .ok (.aload_n 0, 1) := by decide +kernel
theorem dX5_isBolt_6 : decode cX5_isBolt 6 = .ok (.getfield 122, 3) := by decide +kernel
theorem dX5_isBolt_9 : decode cX5_isBolt 9 = .ok (.if_icmp .ge 7, 3) := by decide +kernel
theorem dX5_isBolt_12 : decode cX5_isBolt 12 = .ok (.iconst 1, 1) := by decide +kernel
theorem dX5_isBolt_13 : decode cX5_isBolt 13 = .ok (.goto 4, 3) := by decide +kernel
theorem dX5_isBolt_16 : decode cX5_isBolt 16 = .ok (.iconst 0, 1) := by decide +kernel
theorem dX5_isBolt_17 : decode cX5_isBolt 17 = .ok (.ireturn, 1) := by decide +kernel
theorem dX5_part_0 : decode cX5_part 0 = .ok (.iconst 5, 1) := by decide +kernel
theorem dX5_part_1 : decode cX5_part 1 = .ok (.iload_n 0, 1) := by decide +kernel
theorem dX5_part_2 : decode cX5_part 2 = .ok (.imul, 1) := by decide +kernel
theorem dX5_part_3 : decode cX5_part 3 = .ok (.iload_n 1, 1) := by decide +kernel
theorem dX5_part_4 : decode cX5_part 4 = .ok (.iadd, 1) := by decide +kernel
theorem dX5_part_5 : decode cX5_part 5 = .ok (.ireturn, 1) := by decide +kernel
set_option maxRecDepth 20000 in
theorem ggX5_bolt_X5_part : GoodIn wsX5_bolt wsX5_part := goodIn_r _ [11] (by decide +kernel) (by decide +kernel)
set_option maxRecDepth 20000 in
theorem gX5_bolt_X5_part : GoodIn wsX5_bolt (va_wsS RX5 125 yX5_part wsX5_part) := goodIn_app (goodIn_of _ (by decide +kernel)) ggX5_bolt_X5_part
theorem dX5_bolt_0 : decode cX5_bolt 0 = .ok (.aload_n 0, 1) := by decide +kernel
theorem dX5_bolt_1 : decode cX5_bolt 1 = .ok (.iconst 0, 1) := by decide +kernel
theorem dX5_bolt_2 : decode cX5_bolt 2 = .ok (.putfield 83, 3) := by decide +kernel
theorem dX5_bolt_5 : decode cX5_bolt 5 = .ok (.aload_n 0, 1) := by decide +kernel
theorem dX5_bolt_6 : decode cX5_bolt 6 = .ok (.getfield 122, 3) := by decide +kernel
theorem dX5_bolt_9 : decode cX5_bolt 9 = .ok (.bipush 40, 2) := by decide +kernel
theorem dX5_bolt_11 : decode cX5_bolt 11 = .ok (.if_icmp .eq 15, 3) := by decide +kernel
theorem dX5_bolt_14 : decode cX5_bolt 14 = .ok (.iload_n 1, 1) := by decide +kernel
theorem dX5_bolt_15 : decode cX5_bolt 15 = .ok (.iconst 1, 1) := by decide +kernel
theorem dX5_bolt_16 : decode cX5_bolt 16 = .ok (.if_icmp .lt 10, 3) := by decide +kernel
theorem dX5_bolt_19 : decode cX5_bolt 19 = .ok (.iload_n 1, 1) := by decide +kernel
theorem dX5_bolt_20 : decode cX5_bolt 20 = .ok (.sipush 600, 3) := by decide +kernel
theorem dX5_bolt_23 : decode cX5_bolt 23 = .ok (.if_icmp .le 5, 3) := by decide +kernel
theorem dX5_bolt_26 : decode cX5_bolt 26 = .ok (.iconst (-1), 1) := by decide +kernel
theorem dX5_bolt_27 : decode cX5_bolt 27 = .ok (.ireturn, 1) := by decide +kernel
theorem dX5_bolt_28 : decode cX5_bolt 28 = .ok (.aload_n 0, 1) := by decide +kernel
theorem dX5_bolt_29 : decode cX5_bolt 29 = .ok (.getfield 22, 3) := by decide +kernel
theorem dX5_bolt_32 : decode cX5_bolt 32 = .ok (.aload_n 0, 1) := by decide +kernel
theorem dX5_bolt_33 : decode cX5_bolt 33 = .ok (.getfield 122, 3) := by decide +kernel
theorem dX5_bolt_36 : decode cX5_bolt 36 = .ok (.aload_n 0, 1) := by decide +kernel
theorem dX5_bolt_37 : decode cX5_bolt 37 = .ok (.getfield 117, 3) := by decide +kernel
theorem dX5_bolt_40 : decode cX5_bolt 40 = .ok (.iastore, 1) := by decide +kernel
theorem dX5_bolt_41 : decode cX5_bolt 41 = .ok (.aload_n 0, 1) := by decide +kernel
theorem dX5_bolt_42 : decode cX5_bolt 42 = .ok (.getfield 25, 3) := by decide +kernel
theorem dX5_bolt_45 : decode cX5_bolt 45 = .ok (.aload_n 0, 1) := by decide +kernel
theorem dX5_bolt_46 : decode cX5_bolt 46 = .ok (.getfield 122, 3) := by decide +kernel
theorem dX5_bolt_49 : decode cX5_bolt 49 = .ok (.iconst 1, 1) := by decide +kernel
theorem dX5_bolt_50 : decode cX5_bolt 50 = .ok (.iastore, 1) := by decide +kernel
theorem dX5_bolt_51 : decode cX5_bolt 51 = .ok (.aload_n 0, 1) := by decide +kernel
theorem dX5_bolt_52 : decode cX5_bolt 52 = .ok (.getfield 28, 3) := by decide +kernel
theorem dX5_bolt_55 : decode cX5_bolt 55 = .ok (.aload_n 0, 1) := by decide +kernel
theorem dX5_bolt_56 : decode cX5_bolt 56 = .ok (.getfield 122, 3) := by decide +kernel
theorem dX5_bolt_59 : decode cX5_bolt 59 = .ok (.iconst 0, 1) := by decide +kernel
theorem dX5_bolt_60 : decode cX5_bolt 60 = .ok (.invokestatic 125, 3) := by decide +kernel
theorem dX5_bolt_63 : decode cX5_bolt 63 = .ok (.iconst 0, 1) := by decide +kernel
theorem dX5_bolt_64 : decode cX5_bolt 64 = .ok (.iastore, 1) := by decide +kernel
theorem dX5_bolt_65 : decode cX5_bolt 65 = .ok (.aload_n 0, 1) := by decide +kernel
theorem dX5_bolt_66 : decode cX5_bolt 66 = .ok (.getfield 31, 3) := by decide +kernel
theorem dX5_bolt_69 : decode cX5_bolt 69 = .ok (.aload_n 0, 1) := by decide +kernel
theorem dX5_bolt_70 : decode cX5_bolt 70 = .ok (.getfield 122, 3) := by decide +kernel
theorem dX5_bolt_73 : decode cX5_bolt 73 = .ok (.iconst 0, 1) := by decide +kernel
theorem dX5_bolt_74 : decode cX5_bolt 74 = .ok (.invokestatic 125, 3) := by decide +kernel
theorem dX5_bolt_77 : decode cX5_bolt 77 = .ok (.iload_n 1, 1) := by decide +kernel
theorem dX5_bolt_78 : decode cX5_bolt 78 = .ok (.iastore, 1) := by decide +kernel
theorem dX5_bolt_79 : decode cX5_bolt 79 = .ok (.aload_n 0, 1) := by decide +kernel
theorem dX5_bolt_80 : decode cX5_bolt 80 = .ok (.dup, 1) := by decide +kernel
theorem dX5_bolt_81 : decode cX5_bolt 81 = .ok (.getfield 122, 3) := by decide +kernel
theorem dX5_bolt_84 : decode cX5_bolt 84 = .ok (.iconst 1, 1) := by decide +kernel
theorem dX5_bolt_85 : decode cX5_bolt 85 = .ok (.iadd, 1) := by decide +kernel
theorem dX5_bolt_86 : decode cX5_bolt 86 = .ok (.putfield 122, 3) := by decide +kernel
theorem dX5_bolt_89 : decode cX5_bolt 89 = .ok (.aload_n 0, 1) := by decide +kernel
theorem dX5_bolt_90 : decode cX5_bolt 90 = .ok (.getfield 122, 3) := by decide +kernel
theorem dX5_bolt_93 : decode cX5_bolt 93 = .ok (.iconst 1, 1) := by decide +kernel
theorem dX5_bolt_94 : decode cX5_bolt 94 = .ok (.isub, 1) := by decide +kernel
theorem dX5_bolt_95 : decode cX5_bolt 95 = .ok (.ireturn, 1) := by decide +kernel
set_option maxRecDepth 20000 in
theorem ggX5_flaw_X5_isBolt : GoodIn wsX5_flaw wsX5_isBolt := goodIn_r _ [18, 19, 27, 28, 29, 30, 31, 32, 33, 34, 35, 36, 37, 38, 39, 40, 41, 42, 43, 44, 45, 46, 47, 48, 49, 50, 51, 52, 53, 54, 55, 56, 57, 58, 59, 60] (by decide +kernel) (by decide +kernel)
set_option maxRecDepth 20000 in
theorem gX5_flaw_X5_isBolt : GoodIn wsX5_flaw (wsV RX5 128 RX5 yX5_isBolt wsX5_isBolt) := goodIn_app (goodIn_of _ (by decide +kernel)) ggX5_flaw_X5_isBolt
set_option maxRecDepth 20000 in
theorem ggX5_flaw_X5_fail : GoodIn wsX5_flaw wsX5_fail := goodIn_r _ [23, 1, 27, 28, 29, 30, 31, 32, 33, 34, 35, 36, 37, 38, 39, 40, 41, 42, 43, 44, 45, 46, 47, 48, 49, 50, 51, 52, 53, 54, 55, 56, 57, 58, 59, 60] (by decide +kernel) (by decide +kernel)
set_option maxRecDepth 20000 in
theorem gX5_flaw_X5_fail : GoodIn wsX5_flaw (wsV RX5 94 RX5 yX5_fail wsX5_fail) := goodIn_app (goodIn_of _ (by decide +kernel)) ggX5_flaw_X5_fail
set_option maxRecDepth 20000 in
theorem ggX5_flaw_X5_part : GoodIn wsX5_flaw wsX5_part := goodIn_r _ [26] (by decide +kernel) (by decide +kernel)
set_option maxRecDepth 20000 in
theorem gX5_flaw_X5_part : GoodIn wsX5_flaw (va_wsS RX5 125 yX5_part wsX5_part) := goodIn_app (goodIn_of _ (by decide +kernel)) ggX5_flaw_X5_part
theorem dX5_flaw_0 : decode cX5_flaw 0 = .ok (.aload_n 0, 1) := by decide +kernel
theorem dX5_flaw_1 : decode cX5_flaw 1 = .ok (.iconst 0, 1) := by decide +kernel
theorem dX5_flaw_2 : decode cX5_flaw 2 = .ok (.putfield 83, 3) := by decide +kernel
theorem dX5_flaw_5 : decode cX5_flaw 5 = .ok (.aload_n 0, 1) := by decide +kernel
theorem dX5_flaw_6 : decode cX5_flaw 6 = .ok (.iload_n 1, 1) := by decide +kernel
theorem dX5_flaw_7 : decode cX5_flaw 7 = .ok (.invokevirtual 128, 3) := by decide +kernel
theorem dX5_flaw_10 : decode cX5_flaw 10 = .ok (.ifCond .ne 9, 3) := by decide +kernel
theorem dX5_flaw_13 : decode cX5_flaw 13 = .ok (.aload_n 0, 1) := by decide +kernel
theorem dX5_flaw_14 : decode cX5_flaw 14 = .ok (.iconst 1, 1) := by decide +kernel
theorem dX5_flaw_15 : decode cX5_flaw 15 = .ok (.invokevirtual 94, 3) := by decide +kernel
theorem dX5_flaw_18 : decode cX5_flaw 18 = .ok (.ireturn, 1) := by decide +kernel
theorem dX5_flaw_19 : decode cX5_flaw 19 = .ok (.iload_n 2, 1) := by decide +kernel
theorem dX5_flaw_20 : decode cX5_flaw 20 = .ok (.ifCond .lt 15, 3) := by decide +kernel
theorem dX5_flaw_23 : decode cX5_flaw 23 = .ok (.iload_n 3, 1) := by decide +kernel
theorem dX5_flaw_24 : decode cX5_flaw 24 = .ok (.iload_n 2, 1) := by decide +kernel
theorem dX5_flaw_25 : decode cX5_flaw 25 = .ok (.if_icmp .le 10, 3) := by decide +kernel
theorem dX5_flaw_28 : decode cX5_flaw 28 = .ok (.iload_n 3, 1) := by decide +kernel
theorem dX5_flaw_29 : decode cX5_flaw 29 = .ok (.sipush 600, 3) := by decide +kernel
theorem dX5_flaw_32 : decode cX5_flaw 32 = .ok (.if_icmp .le 5, 3) := by decide +kernel
theorem dX5_flaw_35 : decode cX5_flaw 35 = .ok (.iconst (-1), 1) := by decide +kernel
theorem dX5_flaw_36 : decode cX5_flaw 36 = .ok (.ireturn, 1) := by decide +kernel
theorem dX5_flaw_37 : decode cX5_flaw 37 = .ok (.iconst 0, 1) := by decide +kernel
theorem dX5_flaw_38 : decode cX5_flaw 38 = .ok (.istore 4, 2) := by decide +kernel
theorem dX5_flaw_40 : decode cX5_flaw 40 = .ok (.iconst 0, 1) := by decide +kernel
theorem dX5_flaw_41 : decode cX5_flaw 41 = .ok (.istore 5, 2) := by decide +kernel
theorem dX5_flaw_43 : decode cX5_flaw 43 = .ok (.iload 5, 2) := by decide +kernel
theorem dX5_flaw_45 : decode cX5_flaw 45 = .ok (.aload_n 0, 1) := by decide +kernel
theorem dX5_flaw_46 : decode cX5_flaw 46 = .ok (.getfield 25, 3) := by decide +kernel
theorem dX5_flaw_49 : decode cX5_flaw 49 = .ok (.iload_n 1, 1) := by decide +kernel
theorem dX5_flaw_50 : decode cX5_flaw 50 = .ok (.iaload, 1) := by decide +kernel
theorem dX5_flaw_51 : decode cX5_flaw 51 = .ok (.if_icmp .ge 107, 3) := by decide +kernel
theorem dX5_flaw_54 : decode cX5_flaw 54 = .ok (.aload_n 0, 1) := by decide +kernel
theorem dX5_flaw_55 : decode cX5_flaw 55 = .ok (.getfield 28, 3) := by decide +kernel
theorem dX5_flaw_58 : decode cX5_flaw 58 = .ok (.iload_n 1, 1) := by decide +kernel
theorem dX5_flaw_59 : decode cX5_flaw 59 = .ok (.iload 5, 2) := by decide +kernel
theorem dX5_flaw_61 : decode cX5_flaw 61 = .ok (.invokestatic 125, 3) := by decide +kernel
theorem dX5_flaw_64 : decode cX5_flaw 64 = .ok (.iaload, 1) := by decide +kernel
theorem dX5_flaw_65 : decode cX5_flaw 65 = .ok (.istore 6, 2) := by decide +kernel
theorem dX5_flaw_67 : decode cX5_flaw 67 = .ok (.aload_n 0, 1) := by decide +kernel
theorem dX5_flaw_68 : decode cX5_flaw 68 = .ok (.getfield 31, 3) := by decide +kernel
theorem dX5_flaw_71 : decode cX5_flaw 71 = .ok (.iload_n 1, 1) := by decide +kernel
theorem dX5_flaw_72 : decode cX5_flaw 72 = .ok (.iload 5, 2) := by decide +kernel
theorem dX5_flaw_74 : decode cX5_flaw 74 = .ok (.invokestatic 125, 3) := by decide +kernel
theorem dX5_flaw_77 : decode cX5_flaw 77 = .ok (.iaload, 1) := by decide +kernel
theorem dX5_flaw_78 : decode cX5_flaw 78 = .ok (.istore 7, 2) := by decide +kernel
theorem dX5_flaw_80 : decode cX5_flaw 80 = .ok (.iload 6, 2) := by decide +kernel
theorem dX5_flaw_82 : decode cX5_flaw 82 = .ok (.iload 7, 2) := by decide +kernel
theorem dX5_flaw_84 : decode cX5_flaw 84 = .ok (.iload_n 2, 1) := by decide +kernel
theorem dX5_flaw_85 : decode cX5_flaw 85 = .ok (.invokestatic 131, 3) := by decide +kernel
theorem dX5_flaw_88 : decode cX5_flaw 88 = .ok (.if_icmp .ge 28, 3) := by decide +kernel
theorem dX5_flaw_91 : decode cX5_flaw 91 = .ok (.aload_n 0, 1) := by decide +kernel
theorem dX5_flaw_92 : decode cX5_flaw 92 = .ok (.getfield 71, 3) := by decide +kernel
theorem dX5_flaw_95 : decode cX5_flaw 95 = .ok (.iload 4, 2) := by decide +kernel
theorem dX5_flaw_97 : decode cX5_flaw 97 = .ok (.iload 6, 2) := by decide +kernel
theorem dX5_flaw_99 : decode cX5_flaw 99 = .ok (.iastore, 1) := by decide +kernel
theorem dX5_flaw_100 : decode cX5_flaw 100 = .ok (.aload_n 0, 1) := by decide +kernel
theorem dX5_flaw_101 : decode cX5_flaw 101 = .ok (.getfield 74, 3) := by decide +kernel
theorem dX5_flaw_104 : decode cX5_flaw 104 = .ok (.iload 4, 2) := by decide +kernel
theorem dX5_flaw_106 : decode cX5_flaw 106 = .ok (.iload 7, 2) := by decide +kernel
theorem dX5_flaw_108 : decode cX5_flaw 108 = .ok (.iload_n 2, 1) := by decide +kernel
theorem dX5_flaw_109 : decode cX5_flaw 109 = .ok (.invokestatic 131, 3) := by decide +kernel
theorem dX5_flaw_112 : decode cX5_flaw 112 = .ok (.iastore, 1) := by decide +kernel
theorem dX5_flaw_113 : decode cX5_flaw 113 = .ok (.iinc 4 1, 3) := by decide +kernel
theorem dX5_flaw_116 : decode cX5_flaw 116 = .ok (.iload 6, 2) := by decide +kernel
theorem dX5_flaw_118 : decode cX5_flaw 118 = .ok (.iload_n 3, 1) := by decide +kernel
theorem dX5_flaw_119 : decode cX5_flaw 119 = .ok (.invokestatic 136, 3) := by decide +kernel
theorem dX5_flaw_122 : decode cX5_flaw 122 = .ok (.iload 7, 2) := by decide +kernel
theorem dX5_flaw_124 : decode cX5_flaw 124 = .ok (.if_icmp .ge 28, 3) := by decide +kernel
theorem dX5_flaw_127 : decode cX5_flaw 127 = .ok (.aload_n 0, 1) := by decide +kernel
theorem dX5_flaw_128 : decode cX5_flaw 128 = .ok (.getfield 71, 3) := by decide +kernel
theorem dX5_flaw_131 : decode cX5_flaw 131 = .ok (.iload 4, 2) := by decide +kernel
theorem dX5_flaw_133 : decode cX5_flaw 133 = .ok (.iload 6, 2) := by decide +kernel
theorem dX5_flaw_135 : decode cX5_flaw 135 = .ok (.iload_n 3, 1) := by decide +kernel
theorem dX5_flaw_136 : decode cX5_flaw 136 = .ok (.invokestatic 136, 3) := by decide +kernel
theorem dX5_flaw_139 : decode cX5_flaw 139 = .ok (.iastore, 1) := by decide +kernel
theorem dX5_flaw_140 : decode cX5_flaw 140 = .ok (.aload_n 0, 1) := by decide +kernel
theorem dX5_flaw_141 : decode cX5_flaw 141 = .ok (.getfield 74, 3) := by decide +kernel
theorem dX5_flaw_144 : decode cX5_flaw 144 = .ok (.iload 4, 2) := by decide +kernel
theorem dX5_flaw_146 : decode cX5_flaw 146 = .ok (.iload 7, 2) := by decide +kernel
theorem dX5_flaw_148 : decode cX5_flaw 148 = .ok (.iastore, 1) := by decide +kernel
theorem dX5_flaw_149 : decode cX5_flaw 149 = .ok (.iinc 4 1, 3) := by decide +kernel
theorem dX5_flaw_152 : decode cX5_flaw 152 = .ok (.iinc 5 1, 3) := by decide +kernel
theorem dX5_flaw_155 : decode cX5_flaw 155 = .ok (.goto (-112), 3) := by decide +kernel
theorem dX5_flaw_158 : decode cX5_flaw 158 = .ok (.iload 4, 2) := by decide +kernel
theorem dX5_flaw_160 : decode cX5_flaw 160 = .ok (.iconst 4, 1) := by decide +kernel
theorem dX5_flaw_161 : decode cX5_flaw 161 = .ok (.if_icmp .le 5, 3) := by decide +kernel
theorem dX5_flaw_164 : decode cX5_flaw 164 = .ok (.iconst (-1), 1) := by decide +kernel
theorem dX5_flaw_165 : decode cX5_flaw 165 = .ok (.ireturn, 1) := by decide +kernel
theorem dX5_flaw_166 : decode cX5_flaw 166 = .ok (.iconst 0, 1) := by decide +kernel
theorem dX5_flaw_167 : decode cX5_flaw 167 = .ok (.istore 5, 2) := by decide +kernel
theorem dX5_flaw_169 : decode cX5_flaw 169 = .ok (.iload 5, 2) := by decide +kernel
theorem dX5_flaw_171 : decode cX5_flaw 171 = .ok (.iload 4, 2) := by decide +kernel
theorem dX5_flaw_173 : decode cX5_flaw 173 = .ok (.if_icmp .ge 45, 3) := by decide +kernel
theorem dX5_flaw_176 : decode cX5_flaw 176 = .ok (.aload_n 0, 1) := by decide +kernel
theorem dX5_flaw_177 : decode cX5_flaw 177 = .ok (.getfield 28, 3) := by decide +kernel
theorem dX5_flaw_180 : decode cX5_flaw 180 = .ok (.iload_n 1, 1) := by decide +kernel
theorem dX5_flaw_181 : decode cX5_flaw 181 = .ok (.iload 5, 2) := by decide +kernel
theorem dX5_flaw_183 : decode cX5_flaw 183 = .ok (.invokestatic 125, 3) := by decide +kernel
theorem dX5_flaw_186 : decode cX5_flaw 186 = .ok (.aload_n 0, 1) := by decide +kernel
theorem dX5_flaw_187 : decode cX5_flaw 187 = .ok (.getfield 71, 3) := by decide +kernel
theorem dX5_flaw_190 : decode cX5_flaw 190 = .ok (.iload 5, 2) := by decide +kernel
theorem dX5_flaw_192 : decode cX5_flaw 192 = .ok (.iaload, 1) := by decide +kernel
theorem dX5_flaw_193 : decode cX5_flaw 193 = .ok (.iastore, 1) := by decide +kernel
theorem dX5_flaw_194 : decode cX5_flaw 194 = .ok (.aload_n 0, 1) := by decide +kernel
theorem dX5_flaw_195 : decode cX5_flaw 195 = .ok (.getfield 31, 3) := by decide +kernel
theorem dX5_flaw_198 : decode cX5_flaw 198 = .ok (.iload_n 1, 1) := by decide +kernel
theorem dX5_flaw_199 : decode cX5_flaw 199 = .ok (.iload 5, 2) := by decide +kernel
theorem dX5_flaw_201 : decode cX5_flaw 201 = .ok (.invokestatic 125, 3) := by decide +kernel
theorem dX5_flaw_204 : decode cX5_flaw 204 = .ok (.aload_n 0, 1) := by decide +kernel
theorem dX5_flaw_205 : decode cX5_flaw 205 = .ok (.getfield 74, 3) := by decide +kernel
theorem dX5_flaw_208 : decode cX5_flaw 208 = .ok (.iload 5, 2) := by decide +kernel
theorem dX5_flaw_210 : decode cX5_flaw 210 = .ok (.iaload, 1) := by decide +kernel
theorem dX5_flaw_211 : decode cX5_flaw 211 = .ok (.iastore, 1) := by decide +kernel
theorem dX5_flaw_212 : decode cX5_flaw 212 = .ok (.iinc 5 1, 3) := by decide +kernel
theorem dX5_flaw_215 : decode cX5_flaw 215 = .ok (.goto (-46), 3) := by decide +kernel
theorem dX5_flaw_218 : decode cX5_flaw 218 = .ok (.aload_n 0, 1) := by decide +kernel
theorem dX5_flaw_219 : decode cX5_flaw 219 = .ok (.getfield 25, 3) := by decide +kernel
theorem dX5_flaw_222 : decode cX5_flaw 222 = .ok (.iload_n 1, 1) := by decide +kernel
theorem dX5_flaw_223 : decode cX5_flaw 223 = .ok (.iload 4, 2) := by decide +kernel
theorem dX5_flaw_225 : decode cX5_flaw 225 = .ok (.iastore, 1) := by decide +kernel
theorem dX5_flaw_226 : decode cX5_flaw 226 = .ok (.iload 4, 2) := by decide +kernel
theorem dX5_flaw_228 : decode cX5_flaw 228 = .ok (.ireturn, 1) := by decide +kernel
set_option maxRecDepth 20000 in
theorem ggX5_clear_X5_isBolt : GoodIn wsX5_clear wsX5_isBolt := goodIn_r _ [9, 10, 18, 19, 20, 21, 22, 23, 24, 25, 26, 27, 28, 29, 30, 31, 32, 33, 34, 35, 36, 37, 38, 39, 40, 41, 42, 43, 44, 45, 46, 47, 48, 49, 50, 51] (by decide +kernel) (by decide +kernel)
set_option maxRecDepth 20000 in
theorem gX5_clear_X5_isBolt : GoodIn wsX5_clear (wsV RX5 128 RX5 yX5_isBolt wsX5_isBolt) := goodIn_app (goodIn_of _ (by decide +kernel)) ggX5_clear_X5_isBolt
set_option maxRecDepth 20000 in
theorem ggX5_clear_X5_fail : GoodIn wsX5_clear wsX5_fail := goodIn_r _ [14, 1, 18, 19, 20, 21, 22, 23, 24, 25, 26, 27, 28, 29, 30, 31, 32, 33, 34, 35, 36, 37, 38, 39, 40, 41, 42, 43, 44, 45, 46, 47, 48, 49, 50, 51] (by decide +kernel) (by decide +kernel)
set_option maxRecDepth 20000 in
theorem gX5_clear_X5_fail : GoodIn wsX5_clear (wsV RX5 94 RX5 yX5_fail wsX5_fail) := goodIn_app (goodIn_of _ (by decide +kernel)) ggX5_clear_X5_fail
set_option maxRecDepth 20000 in
theorem ggX5_clear_X5_part : GoodIn wsX5_clear wsX5_part := goodIn_r _ [17] (by decide +kernel) (by decide +kernel)
set_option maxRecDepth 20000 in
theorem gX5_clear_X5_part : GoodIn wsX5_clear (va_wsS RX5 125 yX5_part wsX5_part) := goodIn_app (goodIn_of _ (by decide +kernel)) ggX5_clear_X5_part
theorem dX5_clear_0 : decode cX5_clear 0 = .ok (.aload_n 0, 1) := by decide +kernel
theorem dX5_clear_1 : decode cX5_clear 1 = .ok (.iconst 0, 1) := by decide +kernel
theorem dX5_clear_2 : decode cX5_clear 2 = .ok (.putfield 83, 3) := by decide +kernel
theorem dX5_clear_5 : decode cX5_clear 5 = .ok (.aload_n 0, 1) := by decide +kernel
theorem dX5_clear_6 : decode cX5_clear 6 = .ok (.iload_n 1, 1) := by decide +kernel
theorem dX5_clear_7 : decode cX5_clear 7 = .ok (.invokevirtual 128, 3) := by decide +kernel
theorem dX5_clear_10 : decode cX5_clear 10 = .ok (.ifCond .eq 26, 3) := by decide +kernel
theorem dX5_clear_13 : decode cX5_clear 13 = .ok (.iload_n 2, 1) := by decide +kernel
theorem dX5_clear_14 : decode cX5_clear 14 = .ok (.ifCond .lt 22, 3) := by decide +kernel
theorem dX5_clear_17 : decode cX5_clear 17 = .ok (.iload_n 2, 1) := by decide +kernel
theorem dX5_clear_18 : decode cX5_clear 18 = .ok (.aload_n 0, 1) := by decide +kernel
theorem dX5_clear_19 : decode cX5_clear 19 = .ok (.getfield 25, 3) := by decide +kernel
theorem dX5_clear_22 : decode cX5_clear 22 = .ok (.iload_n 1, 1) := by decide +kernel
theorem dX5_clear_23 : decode cX5_clear 23 = .ok (.iaload, 1) := by decide +kernel
theorem dX5_clear_24 : decode cX5_clear 24 = .ok (.if_icmp .ge 12, 3) := by decide +kernel
theorem dX5_clear_27 : decode cX5_clear 27 = .ok (.iload_n 3, 1) := by decide +kernel
theorem dX5_clear_28 : decode cX5_clear 28 = .ok (.ifCond .lt 8, 3) := by decide +kernel
theorem dX5_clear_31 : decode cX5_clear 31 = .ok (.iload_n 3, 1) := by decide +kernel
theorem dX5_clear_32 : decode cX5_clear 32 = .ok (.iconst 1, 1) := by decide +kernel
theorem dX5_clear_33 : decode cX5_clear 33 = .ok (.if_icmp .le 9, 3) := by decide +kernel
theorem dX5_clear_36 : decode cX5_clear 36 = .ok (.aload_n 0, 1) := by decide +kernel
theorem dX5_clear_37 : decode cX5_clear 37 = .ok (.iconst 1, 1) := by decide +kernel
theorem dX5_clear_38 : decode cX5_clear 38 = .ok (.invokevirtual 94, 3) := by decide +kernel
theorem dX5_clear_41 : decode cX5_clear 41 = .ok (.ireturn, 1) := by decide +kernel
theorem dX5_clear_42 : decode cX5_clear 42 = .ok (.iload_n 3, 1) := by decide +kernel
theorem dX5_clear_43 : decode cX5_clear 43 = .ok (.ifCond .ne 16, 3) := by decide +kernel
theorem dX5_clear_46 : decode cX5_clear 46 = .ok (.aload_n 0, 1) := by decide +kernel
theorem dX5_clear_47 : decode cX5_clear 47 = .ok (.getfield 28, 3) := by decide +kernel
theorem dX5_clear_50 : decode cX5_clear 50 = .ok (.iload_n 1, 1) := by decide +kernel
theorem dX5_clear_51 : decode cX5_clear 51 = .ok (.iload_n 2, 1) := by decide +kernel
theorem dX5_clear_52 : decode cX5_clear 52 = .ok (.invokestatic 125, 3) := by decide +kernel
theorem dX5_clear_55 : decode cX5_clear 55 = .ok (.iaload, 1) := by decide +kernel
theorem dX5_clear_56 : decode cX5_clear 56 = .ok (.goto 13, 3) := by decide +kernel
theorem dX5_clear_59 : decode cX5_clear 59 = .ok (.aload_n 0, 1) := by decide +kernel
theorem dX5_clear_60 : decode cX5_clear 60 = .ok (.getfield 31, 3) := by decide +kernel
theorem dX5_clear_63 : decode cX5_clear 63 = .ok (.iload_n 1, 1) := by decide +kernel
theorem dX5_clear_64 : decode cX5_clear 64 = .ok (.iload_n 2, 1) := by decide +kernel
theorem dX5_clear_65 : decode cX5_clear 65 = .ok (.invokestatic 125, 3) := by decide +kernel
theorem dX5_clear_68 : decode cX5_clear 68 = .ok (.iaload, 1) := by decide +kernel
theorem dX5_clear_69 : decode cX5_clear 69 = .ok (.ireturn, 1) := by decide +kernel
theorem dX5_isRipe_0 : decode cX5_isRipe 0 = .ok (.aload_n 0, 1) := by decide +kernel
theorem dX5_isRipe_1 : decode cX5_isRipe 1 = .ok (.getfield 117, 3) := by decide +kernel
theorem dX5_isRipe_4 : decode cX5_isRipe 4 = .ok (.aload_n 0, 1) := by decide +kernel
theorem dX5_isRipe_5 : decode cX5_isRipe 5 = .ok (.getfield 22, 3) := by decide +kernel
theorem dX5_isRipe_8 : decode cX5_isRipe 8 = .ok (.iload_n 1, 1) := by decide +kernel
theorem dX5_isRipe_9 : decode cX5_isRipe 9 = .ok (.iaload, 1) := by decide +kernel
theorem dX5_isRipe_10 : decode cX5_isRipe 10 = .ok (.isub, 1) := by decide +kernel
theorem dX5_isRipe_11 : decode cX5_isRipe 11 = .ok (.sipush 1095, 3) := by decide +kernel
theorem dX5_isRipe_14 : decode cX5_isRipe 14 = .ok (.if_icmp .lt 7, 3) := by decide +kernel
theorem dX5_isRipe_17 : decode cX5_isRipe 17 = .ok (.iconst 1, 1) := by decide +kernel
theorem dX5_isRipe_18 : decode cX5_isRipe 18 = .ok (.goto 4, 3) := by decide +kernel
theorem dX5_isRipe_21 : decode cX5_isRipe 21 = .ok (.iconst 0, 1) := by decide +kernel
theorem dX5_isRipe_22 : decode cX5_isRipe 22 = .ok (.ireturn, 1) := by decide +kernel
set_option maxRecDepth 20000 in
theorem ggX5_ripe_X5_isBolt : GoodIn wsX5_ripe wsX5_isBolt := goodIn_r _ [6, 7, 18, 19, 20, 21, 22, 23, 24, 25, 26, 27, 28, 29, 30, 31, 32, 33, 34, 35, 36, 37, 38, 39, 40, 41, 42, 43, 44, 45, 46, 47, 48, 49, 50, 51] (by decide +kernel) (by decide +kernel)
set_option maxRecDepth 20000 in
theorem gX5_ripe_X5_isBolt : GoodIn wsX5_ripe (wsV RX5 128 RX5 yX5_isBolt wsX5_isBolt) := goodIn_app (goodIn_of _ (by decide +kernel)) ggX5_ripe_X5_isBolt
set_option maxRecDepth 20000 in
theorem ggX5_ripe_X5_fail : GoodIn wsX5_ripe wsX5_fail := goodIn_r _ [11, 1, 18, 19, 20, 21, 22, 23, 24, 25, 26, 27, 28, 29, 30, 31, 32, 33, 34, 35, 36, 37, 38, 39, 40, 41, 42, 43, 44, 45, 46, 47, 48, 49, 50, 51] (by decide +kernel) (by decide +kernel)
set_option maxRecDepth 20000 in
theorem gX5_ripe_X5_fail : GoodIn wsX5_ripe (wsV RX5 94 RX5 yX5_fail wsX5_fail) := goodIn_app (goodIn_of _ (by decide +kernel)) ggX5_ripe_X5_fail
set_option maxRecDepth 20000 in
theorem ggX5_ripe_X5_isRipe : GoodIn wsX5_ripe wsX5_isRipe := goodIn_r _ [15, 16, 17, 18, 19, 20, 21, 22, 23, 24, 25, 26, 27, 28, 29, 30, 31, 32, 33, 34, 35, 36, 37, 38, 39, 40, 41, 42, 43, 44, 45, 46, 47, 48, 49, 50, 51] (by decide +kernel) (by decide +kernel)
set_option maxRecDepth 20000 in
theorem gX5_ripe_X5_isRipe : GoodIn wsX5_ripe (wsV RX5 139 RX5 yX5_isRipe wsX5_isRipe) := goodIn_app (goodIn_of _ (by decide +kernel)) ggX5_ripe_X5_isRipe
theorem dX5_ripe_0 : decode cX5_ripe 0 = .ok (.aload_n 0, 1) := by decide +kernel
theorem dX5_ripe_1 : decode cX5_ripe 1 = .ok (.iconst 0, 1) := by decide +kernel
theorem dX5_ripe_2 : decode cX5_ripe 2 = .ok (.putfield 83, 3) := by decide +kernel
theorem dX5_ripe_5 : decode cX5_ripe 5 = .ok (.aload_n 0, 1) := by decide +kernel
theorem dX5_ripe_6 : decode cX5_ripe 6 = .ok (.iload_n 1, 1) := by decide +kernel
theorem dX5_ripe_7 : decode cX5_ripe 7 = .ok (.invokevirtual 128, 3) := by decide +kernel
theorem dX5_ripe_10 : decode cX5_ripe 10 = .ok (.ifCond .ne 11, 3) := by decide +kernel
theorem dX5_ripe_13 : decode cX5_ripe 13 = .ok (.aload_n 0, 1) := by decide +kernel
theorem dX5_ripe_14 : decode cX5_ripe 14 = .ok (.iconst 1, 1) := by decide +kernel
theorem dX5_ripe_15 : decode cX5_ripe 15 = .ok (.invokevirtual 94, 3) := by decide +kernel
theorem dX5_ripe_18 : decode cX5_ripe 18 = .ok (.pop, 1) := by decide +kernel
theorem dX5_ripe_19 : decode cX5_ripe 19 = .ok (.iconst 0, 1) := by decide +kernel
theorem dX5_ripe_20 : decode cX5_ripe 20 = .ok (.ireturn, 1) := by decide +kernel
theorem dX5_ripe_21 : decode cX5_ripe 21 = .ok (.aload_n 0, 1) := by decide +kernel
theorem dX5_ripe_22 : decode cX5_ripe 22 = .ok (.iload_n 1, 1) := by decide +kernel
theorem dX5_ripe_23 : decode cX5_ripe 23 = .ok (.invokevirtual 139, 3) := by decide +kernel
theorem dX5_ripe_26 : decode cX5_ripe 26 = .ok (.ireturn, 1) := by decide +kernel
set_option maxRecDepth 20000 in
theorem ggX5_cut_X5_part : GoodIn wsX5_cut wsX5_part := goodIn_r _ [5] (by decide +kernel) (by decide +kernel)
set_option maxRecDepth 20000 in
theorem gX5_cut_X5_part : GoodIn wsX5_cut (va_wsS RX5 125 yX5_part wsX5_part) := goodIn_app (goodIn_of _ (by decide +kernel)) ggX5_cut_X5_part
theorem dX5_cut_0 : decode cX5_cut 0 = .ok (.aload_n 0, 1) := by decide +kernel
theorem dX5_cut_1 : decode cX5_cut 1 = .ok (.getfield 28, 3) := by decide +kernel
theorem dX5_cut_4 : decode cX5_cut 4 = .ok (.iload_n 1, 1) := by decide +kernel
theorem dX5_cut_5 : decode cX5_cut 5 = .ok (.iload_n 2, 1) := by decide +kernel
theorem dX5_cut_6 : decode cX5_cut 6 = .ok (.invokestatic 125, 3) := by decide +kernel
theorem dX5_cut_9 : decode cX5_cut 9 = .ok (.dup2, 1) := by decide +kernel
theorem dX5_cut_10 : decode cX5_cut 10 = .ok (.iaload, 1) := by decide +kernel
theorem dX5_cut_11 : decode cX5_cut 11 = .ok (.iload_n 3, 1) := by decide +kernel
theorem dX5_cut_12 : decode cX5_cut 12 = .ok (.iadd, 1) := by decide +kernel
theorem dX5_cut_13 : decode cX5_cut 13 = .ok (.iastore, 1) := by decide +kernel
theorem dX5_cut_14 : decode cX5_cut 14 = .ok (.return_, 1) := by decide +kernel
set_option maxRecDepth 20000 in
theorem ggX5_tidy_X5_part : GoodIn wsX5_tidy wsX5_part := goodIn_r _ [7] (by decide +kernel) (by decide +kernel)
set_option maxRecDepth 20000 in
theorem gX5_tidy_X5_part : GoodIn wsX5_tidy (va_wsS RX5 125 yX5_part wsX5_part) := goodIn_app (goodIn_of _ (by decide +kernel)) ggX5_tidy_X5_part
theorem dX5_tidy_0 : decode cX5_tidy 0 = .ok (.iconst 0, 1) := by decide +kernel
theorem dX5_tidy_1 : decode cX5_tidy 1 = .ok (.istore_n 2, 1) := by decide +kernel
theorem dX5_tidy_2 : decode cX5_tidy 2 = .ok (.iconst 0, 1) := by decide +kernel
theorem dX5_tidy_3 : decode cX5_tidy 3 = .ok (.istore_n 3, 1) := by decide +kernel
theorem dX5_tidy_4 : decode cX5_tidy 4 = .ok (.iload_n 3, 1) := by decide +kernel
theorem dX5_tidy_5 : decode cX5_tidy 5 = .ok (.aload_n 0, 1) := by decide +kernel
theorem dX5_tidy_6 : decode cX5_tidy 6 = .ok (.getfield 25, 3) := by decide +kernel
theorem dX5_tidy_9 : decode cX5_tidy 9 = .ok (.iload_n 1, 1) := by decide +kernel
theorem dX5_tidy_10 : decode cX5_tidy 10 = .ok (.iaload, 1) := by decide +kernel
theorem dX5_tidy_11 : decode cX5_tidy 11 = .ok (.if_icmp .ge 78, 3) := by decide +kernel
theorem dX5_tidy_14 : decode cX5_tidy 14 = .ok (.aload_n 0, 1) := by decide +kernel
theorem dX5_tidy_15 : decode cX5_tidy 15 = .ok (.getfield 28, 3) := by decide +kernel
theorem dX5_tidy_18 : decode cX5_tidy 18 = .ok (.iload_n 1, 1) := by decide +kernel
theorem dX5_tidy_19 : decode cX5_tidy 19 = .ok (.iload_n 3, 1) := by decide +kernel
theorem dX5_tidy_20 : decode cX5_tidy 20 = .ok (.invokestatic 125, 3) := by decide +kernel
theorem dX5_tidy_23 : decode cX5_tidy 23 = .ok (.iaload, 1) := by decide +kernel
theorem dX5_tidy_24 : decode cX5_tidy 24 = .ok (.aload_n 0, 1) := by decide +kernel
theorem dX5_tidy_25 : decode cX5_tidy 25 = .ok (.getfield 31, 3) := by decide +kernel
theorem dX5_tidy_28 : decode cX5_tidy 28 = .ok (.iload_n 1, 1) := by decide +kernel
theorem dX5_tidy_29 : decode cX5_tidy 29 = .ok (.iload_n 3, 1) := by decide +kernel
theorem dX5_tidy_30 : decode cX5_tidy 30 = .ok (.invokestatic 125, 3) := by decide +kernel
theorem dX5_tidy_33 : decode cX5_tidy 33 = .ok (.iaload, 1) := by decide +kernel
theorem dX5_tidy_34 : decode cX5_tidy 34 = .ok (.if_icmp .ne 6, 3) := by decide +kernel
theorem dX5_tidy_37 : decode cX5_tidy 37 = .ok (.goto 46, 3) := by decide +kernel
theorem dX5_tidy_40 : decode cX5_tidy 40 = .ok (.aload_n 0, 1) := by decide +kernel
theorem dX5_tidy_41 : decode cX5_tidy 41 = .ok (.getfield 28, 3) := by decide +kernel
theorem dX5_tidy_44 : decode cX5_tidy 44 = .ok (.iload_n 1, 1) := by decide +kernel
theorem dX5_tidy_45 : decode cX5_tidy 45 = .ok (.iload_n 2, 1) := by decide +kernel
theorem dX5_tidy_46 : decode cX5_tidy 46 = .ok (.invokestatic 125, 3) := by decide +kernel
theorem dX5_tidy_49 : decode cX5_tidy 49 = .ok (.aload_n 0, 1) := by decide +kernel
theorem dX5_tidy_50 : decode cX5_tidy 50 = .ok (.getfield 28, 3) := by decide +kernel
theorem dX5_tidy_53 : decode cX5_tidy 53 = .ok (.iload_n 1, 1) := by decide +kernel
theorem dX5_tidy_54 : decode cX5_tidy 54 = .ok (.iload_n 3, 1) := by decide +kernel
theorem dX5_tidy_55 : decode cX5_tidy 55 = .ok (.invokestatic 125, 3) := by decide +kernel
theorem dX5_tidy_58 : decode cX5_tidy 58 = .ok (.iaload, 1) := by decide +kernel
theorem dX5_tidy_59 : decode cX5_tidy 59 = .ok (.iastore, 1) := by decide +kernel
theorem dX5_tidy_60 : decode cX5_tidy 60 = .ok (.aload_n 0, 1) := by decide +kernel
theorem dX5_tidy_61 : decode cX5_tidy 61 = .ok (.getfield 31, 3) := by decide +kernel
theorem dX5_tidy_64 : decode cX5_tidy 64 = .ok (.iload_n 1, 1) := by decide +kernel
theorem dX5_tidy_65 : decode cX5_tidy 65 = .ok (.iload_n 2, 1) := by decide +kernel
theorem dX5_tidy_66 : decode cX5_tidy 66 = .ok (.invokestatic 125, 3) := by decide +kernel
theorem dX5_tidy_69 : decode cX5_tidy 69 = .ok (.aload_n 0, 1) := by decide +kernel
theorem dX5_tidy_70 : decode cX5_tidy 70 = .ok (.getfield 31, 3) := by decide +kernel
theorem dX5_tidy_73 : decode cX5_tidy 73 = .ok (.iload_n 1, 1) := by decide +kernel
theorem dX5_tidy_74 : decode cX5_tidy 74 = .ok (.iload_n 3, 1) := by decide +kernel
theorem dX5_tidy_75 : decode cX5_tidy 75 = .ok (.invokestatic 125, 3) := by decide +kernel
theorem dX5_tidy_78 : decode cX5_tidy 78 = .ok (.iaload, 1) := by decide +kernel
theorem dX5_tidy_79 : decode cX5_tidy 79 = .ok (.iastore, 1) := by decide +kernel
theorem dX5_tidy_80 : decode cX5_tidy 80 = .ok (.iinc 2 1, 3) := by decide +kernel
theorem dX5_tidy_83 : decode cX5_tidy 83 = .ok (.iinc 3 1, 3) := by decide +kernel
theorem dX5_tidy_86 : decode cX5_tidy 86 = .ok (.goto (-82), 3) := by decide +kernel
theorem dX5_tidy_89 : decode cX5_tidy 89 = .ok (.aload_n 0, 1) := by decide +kernel
theorem dX5_tidy_90 : decode cX5_tidy 90 = .ok (.getfield 25, 3) := by decide +kernel
theorem dX5_tidy_93 : decode cX5_tidy 93 = .ok (.iload_n 1, 1) := by decide +kernel
theorem dX5_tidy_94 : decode cX5_tidy 94 = .ok (.iload_n 2, 1) := by decide +kernel
theorem dX5_tidy_95 : decode cX5_tidy 95 = .ok (.iastore, 1) := by decide +kernel
theorem dX5_tidy_96 : decode cX5_tidy 96 = .ok (.return_, 1) := by decide +kernel
set_option maxRecDepth 20000 in
theorem ggX5_pieces_X5_widthOf : GoodIn wsX5_pieces wsX5_widthOf := goodIn_r _ [16, 3, 17, 18, 19, 15, 20, 1, 21, 22, 23, 24, 25, 26, 27, 28, 29, 30, 31, 32, 33, 34, 35, 36, 37, 38, 39, 40, 41, 42, 43, 44, 45, 46, 47, 48, 49, 50, 51, 52, 53, 54, 55, 56] (by decide +kernel) (by decide +kernel)
set_option maxRecDepth 20000 in
theorem gX5_pieces_X5_widthOf : GoodIn wsX5_pieces (wsV RX5 106 RX5 yX5_widthOf wsX5_widthOf) := goodIn_app (goodIn_of _ (by decide +kernel)) ggX5_pieces_X5_widthOf
theorem dX5_pieces_0 : decode cX5_pieces 0 = .ok (.aload_n 0, 1) := by decide +kernel
theorem dX5_pieces_1 : decode cX5_pieces 1 = .ok (.getfield 9, 3) := by decide +kernel
theorem dX5_pieces_4 : decode cX5_pieces 4 = .ok (.iload_n 1, 1) := by decide +kernel
theorem dX5_pieces_5 : decode cX5_pieces 5 = .ok (.iaload, 1) := by decide +kernel
theorem dX5_pieces_6 : decode cX5_pieces 6 = .ok (.iconst 2, 1) := by decide +kernel
theorem dX5_pieces_7 : decode cX5_pieces 7 = .ok (.idiv, 1) := by decide +kernel
theorem dX5_pieces_8 : decode cX5_pieces 8 = .ok (.istore_n 2, 1) := by decide +kernel
theorem dX5_pieces_9 : decode cX5_pieces 9 = .ok (.ldc 142, 2) := by decide +kernel
theorem dX5_pieces_11 : decode cX5_pieces 11 = .ok (.istore_n 3, 1) := by decide +kernel
theorem dX5_pieces_12 : decode cX5_pieces 12 = .ok (.iconst 0, 1) := by decide +kernel
theorem dX5_pieces_13 : decode cX5_pieces 13 = .ok (.istore 4, 2) := by decide +kernel
theorem dX5_pieces_15 : decode cX5_pieces 15 = .ok (.iload 4, 2) := by decide +kernel
theorem dX5_pieces_17 : decode cX5_pieces 17 = .ok (.aload_n 0, 1) := by decide +kernel
theorem dX5_pieces_18 : decode cX5_pieces 18 = .ok (.getfield 19, 3) := by decide +kernel
theorem dX5_pieces_21 : decode cX5_pieces 21 = .ok (.iload_n 1, 1) := by decide +kernel
theorem dX5_pieces_22 : decode cX5_pieces 22 = .ok (.iaload, 1) := by decide +kernel
theorem dX5_pieces_23 : decode cX5_pieces 23 = .ok (.if_icmp .ge 22, 3) := by decide +kernel
theorem dX5_pieces_26 : decode cX5_pieces 26 = .ok (.iload_n 3, 1) := by decide +kernel
theorem dX5_pieces_27 : decode cX5_pieces 27 = .ok (.aload_n 0, 1) := by decide +kernel
theorem dX5_pieces_28 : decode cX5_pieces 28 = .ok (.iload_n 1, 1) := by decide +kernel
theorem dX5_pieces_29 : decode cX5_pieces 29 = .ok (.iload 4, 2) := by decide +kernel
theorem dX5_pieces_31 : decode cX5_pieces 31 = .ok (.iload_n 2, 1) := by decide +kernel
theorem dX5_pieces_32 : decode cX5_pieces 32 = .ok (.invokevirtual 106, 3) := by decide +kernel
theorem dX5_pieces_35 : decode cX5_pieces 35 = .ok (.invokestatic 131, 3) := by decide +kernel
theorem dX5_pieces_38 : decode cX5_pieces 38 = .ok (.istore_n 3, 1) := by decide +kernel
theorem dX5_pieces_39 : decode cX5_pieces 39 = .ok (.iinc 4 1, 3) := by decide +kernel
theorem dX5_pieces_42 : decode cX5_pieces 42 = .ok (.goto (-27), 3) := by decide +kernel
theorem dX5_pieces_45 : decode cX5_pieces 45 = .ok (.aload_n 0, 1) := by decide +kernel
theorem dX5_pieces_46 : decode cX5_pieces 46 = .ok (.iload_n 3, 1) := by decide +kernel
theorem dX5_pieces_47 : decode cX5_pieces 47 = .ok (.iconst 2, 1) := by decide +kernel
theorem dX5_pieces_48 : decode cX5_pieces 48 = .ok (.iadd, 1) := by decide +kernel
theorem dX5_pieces_49 : decode cX5_pieces 49 = .ok (.putfield 143, 3) := by decide +kernel
theorem dX5_pieces_52 : decode cX5_pieces 52 = .ok (.aload_n 0, 1) := by decide +kernel
theorem dX5_pieces_53 : decode cX5_pieces 53 = .ok (.iload_n 3, 1) := by decide +kernel
theorem dX5_pieces_54 : decode cX5_pieces 54 = .ok (.iconst 3, 1) := by decide +kernel
theorem dX5_pieces_55 : decode cX5_pieces 55 = .ok (.iadd, 1) := by decide +kernel
theorem dX5_pieces_56 : decode cX5_pieces 56 = .ok (.putfield 146, 3) := by decide +kernel
theorem dX5_pieces_59 : decode cX5_pieces 59 = .ok (.aload_n 0, 1) := by decide +kernel
theorem dX5_pieces_60 : decode cX5_pieces 60 = .ok (.iconst 0, 1) := by decide +kernel
theorem dX5_pieces_61 : decode cX5_pieces 61 = .ok (.putfield 149, 3) := by decide +kernel
theorem dX5_pieces_64 : decode cX5_pieces 64 = .ok (.iconst 0, 1) := by decide +kernel
theorem dX5_pieces_65 : decode cX5_pieces 65 = .ok (.istore 4, 2) := by decide +kernel
theorem dX5_pieces_67 : decode cX5_pieces 67 = .ok (.iload 4, 2) := by decide +kernel
theorem dX5_pieces_69 : decode cX5_pieces 69 = .ok (.aload_n 0, 1) := by decide +kernel
theorem dX5_pieces_70 : decode cX5_pieces 70 = .ok (.getfield 19, 3) := by decide +kernel
theorem dX5_pieces_73 : decode cX5_pieces 73 = .ok (.iload_n 1, 1) := by decide +kernel
theorem dX5_pieces_74 : decode cX5_pieces 74 = .ok (.iaload, 1) := by decide +kernel
theorem dX5_pieces_75 : decode cX5_pieces 75 = .ok (.if_icmp .ge 35, 3) := by decide +kernel
theorem dX5_pieces_78 : decode cX5_pieces 78 = .ok (.aload_n 0, 1) := by decide +kernel
theorem dX5_pieces_79 : decode cX5_pieces 79 = .ok (.dup, 1) := by decide +kernel
theorem dX5_pieces_80 : decode cX5_pieces 80 = .ok (.getfield 149, 3) := by decide +kernel
theorem dX5_pieces_83 : decode cX5_pieces 83 = .ok (.aload_n 0, 1) := by decide +kernel
theorem dX5_pieces_84 : decode cX5_pieces 84 = .ok (.iload_n 1, 1) := by decide +kernel
theorem dX5_pieces_85 : decode cX5_pieces 85 = .ok (.iload 4, 2) := by decide +kernel
theorem dX5_pieces_87 : decode cX5_pieces 87 = .ok (.iload_n 2, 1) := by decide +kernel
theorem dX5_pieces_88 : decode cX5_pieces 88 = .ok (.invokevirtual 106, 3) := by decide +kernel
theorem dX5_pieces_91 : decode cX5_pieces 91 = .ok (.iload_n 3, 1) := by decide +kernel
theorem dX5_pieces_92 : decode cX5_pieces 92 = .ok (.if_icmp .ne 7, 3) := by decide +kernel
theorem dX5_pieces_95 : decode cX5_pieces 95 = .ok (.iconst 1, 1) := by decide +kernel
theorem dX5_pieces_96 : decode cX5_pieces 96 = .ok (.goto 4, 3) := by decide +kernel
theorem dX5_pieces_99 : decode cX5_pieces 99 = .ok (.iconst 0, 1) := by decide +kernel
theorem dX5_pieces_100 : decode cX5_pieces 100 = .ok (.iadd, 1) := by decide +kernel
theorem dX5_pieces_101 : decode cX5_pieces 101 = .ok (.putfield 149, 3) := by decide +kernel
theorem dX5_pieces_104 : decode cX5_pieces 104 = .ok (.iinc 4 1, 3) := by decide +kernel
theorem dX5_pieces_107 : decode cX5_pieces 107 = .ok (.goto (-40), 3) := by decide +kernel
theorem dX5_pieces_110 : decode cX5_pieces 110 = .ok (.aload_n 0, 1) := by decide +kernel
theorem dX5_pieces_111 : decode cX5_pieces 111 = .ok (.aload_n 0, 1) := by decide +kernel
theorem dX5_pieces_112 : decode cX5_pieces 112 = .ok (.getfield 19, 3) := by decide +kernel
theorem dX5_pieces_115 : decode cX5_pieces 115 = .ok (.iload_n 1, 1) := by decide +kernel
theorem dX5_pieces_116 : decode cX5_pieces 116 = .ok (.iaload, 1) := by decide +kernel
theorem dX5_pieces_117 : decode cX5_pieces 117 = .ok (.aload_n 0, 1) := by decide +kernel
theorem dX5_pieces_118 : decode cX5_pieces 118 = .ok (.getfield 149, 3) := by decide +kernel
theorem dX5_pieces_121 : decode cX5_pieces 121 = .ok (.isub, 1) := by decide +kernel
theorem dX5_pieces_122 : decode cX5_pieces 122 = .ok (.putfield 152, 3) := by decide +kernel
theorem dX5_pieces_125 : decode cX5_pieces 125 = .ok (.return_, 1) := by decide +kernel
set_option maxRecDepth 20000 in
theorem ggX5_length_X5_part : GoodIn wsX5_length wsX5_part := goodIn_r _ [8] (by decide +kernel) (by decide +kernel)
set_option maxRecDepth 20000 in
theorem gX5_length_X5_part : GoodIn wsX5_length (va_wsS RX5 125 yX5_part wsX5_part) := goodIn_app (goodIn_of _ (by decide +kernel)) ggX5_length_X5_part
theorem dX5_length_0 : decode cX5_length 0 = .ok (.aload_n 0, 1) := by decide +kernel
theorem dX5_length_1 : decode cX5_length 1 = .ok (.getfield 62, 3) := by decide +kernel
theorem dX5_length_4 : decode cX5_length 4 = .ok (.iload_n 1, 1) := by decide +kernel
theorem dX5_length_5 : decode cX5_length 5 = .ok (.iaload, 1) := by decide +kernel
theorem dX5_length_6 : decode cX5_length 6 = .ok (.aload_n 0, 1) := by decide +kernel
theorem dX5_length_7 : decode cX5_length 7 = .ok (.getfield 65, 3) := by decide +kernel
theorem dX5_length_10 : decode cX5_length 10 = .ok (.iload_n 1, 1) := by decide +kernel
theorem dX5_length_11 : decode cX5_length 11 = .ok (.iaload, 1) := by decide +kernel
theorem dX5_length_12 : decode cX5_length 12 = .ok (.invokestatic 125, 3) := by decide +kernel
theorem dX5_length_15 : decode cX5_length 15 = .ok (.istore_n 2, 1) := by decide +kernel
theorem dX5_length_16 : decode cX5_length 16 = .ok (.aload_n 0, 1) := by decide +kernel
theorem dX5_length_17 : decode cX5_length 17 = .ok (.getfield 31, 3) := by decide +kernel
theorem dX5_length_20 : decode cX5_length 20 = .ok (.iload_n 2, 1) := by decide +kernel
theorem dX5_length_21 : decode cX5_length 21 = .ok (.iaload, 1) := by decide +kernel
theorem dX5_length_22 : decode cX5_length 22 = .ok (.aload_n 0, 1) := by decide +kernel
theorem dX5_length_23 : decode cX5_length 23 = .ok (.getfield 28, 3) := by decide +kernel
theorem dX5_length_26 : decode cX5_length 26 = .ok (.iload_n 2, 1) := by decide +kernel
theorem dX5_length_27 : decode cX5_length 27 = .ok (.iaload, 1) := by decide +kernel
theorem dX5_length_28 : decode cX5_length 28 = .ok (.isub, 1) := by decide +kernel
theorem dX5_length_29 : decode cX5_length 29 = .ok (.ireturn, 1) := by decide +kernel
set_option maxRecDepth 20000 in
theorem ggX5_reckon_X5_length : GoodIn wsX5_reckon wsX5_length := goodIn_r _ [14, 15, 16, 17, 18, 19, 20, 13, 21, 22, 23, 24, 25, 26, 27, 28, 29, 30, 31, 32, 33, 34, 35, 36, 37, 38, 39, 40, 41, 42, 43, 44, 45, 46, 47, 48, 49, 50, 51, 52, 53, 54, 55] (by decide +kernel) (by decide +kernel)
set_option maxRecDepth 20000 in
theorem gX5_reckon_X5_length : GoodIn wsX5_reckon (wsV RX5 158 RX5 yX5_length wsX5_length) := goodIn_app (goodIn_of _ (by decide +kernel)) ggX5_reckon_X5_length
theorem dX5_reckon_0 : decode cX5_reckon 0 = .ok (.bipush 41, 2) := by decide +kernel
theorem dX5_reckon_2 : decode cX5_reckon 2 = .ok (.istore_n 1, 1) := by decide +kernel
theorem dX5_reckon_3 : decode cX5_reckon 3 = .ok (.iconst 0, 1) := by decide +kernel
theorem dX5_reckon_4 : decode cX5_reckon 4 = .ok (.istore_n 2, 1) := by decide +kernel
theorem dX5_reckon_5 : decode cX5_reckon 5 = .ok (.iload_n 2, 1) := by decide +kernel
theorem dX5_reckon_6 : decode cX5_reckon 6 = .ok (.aload_n 0, 1) := by decide +kernel
theorem dX5_reckon_7 : decode cX5_reckon 7 = .ok (.getfield 152, 3) := by decide +kernel
theorem dX5_reckon_10 : decode cX5_reckon 10 = .ok (.if_icmp .gt 31, 3) := by decide +kernel
theorem dX5_reckon_13 : decode cX5_reckon 13 = .ok (.aload_n 0, 1) := by decide +kernel
theorem dX5_reckon_14 : decode cX5_reckon 14 = .ok (.getfield 68, 3) := by decide +kernel
theorem dX5_reckon_17 : decode cX5_reckon 17 = .ok (.iload_n 1, 1) := by decide +kernel
theorem dX5_reckon_18 : decode cX5_reckon 18 = .ok (.aload_n 0, 1) := by decide +kernel
theorem dX5_reckon_19 : decode cX5_reckon 19 = .ok (.getfield 155, 3) := by decide +kernel
theorem dX5_reckon_22 : decode cX5_reckon 22 = .ok (.imul, 1) := by decide +kernel
theorem dX5_reckon_23 : decode cX5_reckon 23 = .ok (.iload_n 2, 1) := by decide +kernel
theorem dX5_reckon_24 : decode cX5_reckon 24 = .ok (.iadd, 1) := by decide +kernel
theorem dX5_reckon_25 : decode cX5_reckon 25 = .ok (.iload_n 2, 1) := by decide +kernel
theorem dX5_reckon_26 : decode cX5_reckon 26 = .ok (.ifCond .ne 7, 3) := by decide +kernel
theorem dX5_reckon_29 : decode cX5_reckon 29 = .ok (.iconst 0, 1) := by decide +kernel
theorem dX5_reckon_30 : decode cX5_reckon 30 = .ok (.goto 4, 3) := by decide +kernel
theorem dX5_reckon_33 : decode cX5_reckon 33 = .ok (.iconst (-1), 1) := by decide +kernel
theorem dX5_reckon_34 : decode cX5_reckon 34 = .ok (.iastore, 1) := by decide +kernel
theorem dX5_reckon_35 : decode cX5_reckon 35 = .ok (.iinc 2 1, 3) := by decide +kernel
theorem dX5_reckon_38 : decode cX5_reckon 38 = .ok (.goto (-33), 3) := by decide +kernel
theorem dX5_reckon_41 : decode cX5_reckon 41 = .ok (.aload_n 0, 1) := by decide +kernel
theorem dX5_reckon_42 : decode cX5_reckon 42 = .ok (.getfield 155, 3) := by decide +kernel
theorem dX5_reckon_45 : decode cX5_reckon 45 = .ok (.iconst 1, 1) := by decide +kernel
theorem dX5_reckon_46 : decode cX5_reckon 46 = .ok (.isub, 1) := by decide +kernel
theorem dX5_reckon_47 : decode cX5_reckon 47 = .ok (.istore_n 2, 1) := by decide +kernel
theorem dX5_reckon_48 : decode cX5_reckon 48 = .ok (.iload_n 2, 1) := by decide +kernel
theorem dX5_reckon_49 : decode cX5_reckon 49 = .ok (.ifCond .lt 120, 3) := by decide +kernel
theorem dX5_reckon_52 : decode cX5_reckon 52 = .ok (.iconst 0, 1) := by decide +kernel
theorem dX5_reckon_53 : decode cX5_reckon 53 = .ok (.istore_n 3, 1) := by decide +kernel
theorem dX5_reckon_54 : decode cX5_reckon 54 = .ok (.iload_n 3, 1) := by decide +kernel
theorem dX5_reckon_55 : decode cX5_reckon 55 = .ok (.aload_n 0, 1) := by decide +kernel
theorem dX5_reckon_56 : decode cX5_reckon 56 = .ok (.getfield 152, 3) := by decide +kernel
theorem dX5_reckon_59 : decode cX5_reckon 59 = .ok (.if_icmp .gt 104, 3) := by decide +kernel
theorem dX5_reckon_62 : decode cX5_reckon 62 = .ok (.iconst (-1), 1) := by decide +kernel
theorem dX5_reckon_63 : decode cX5_reckon 63 = .ok (.istore 4, 2) := by decide +kernel
theorem dX5_reckon_65 : decode cX5_reckon 65 = .ok (.iconst 0, 1) := by decide +kernel
theorem dX5_reckon_66 : decode cX5_reckon 66 = .ok (.istore 5, 2) := by decide +kernel
theorem dX5_reckon_68 : decode cX5_reckon 68 = .ok (.iload 5, 2) := by decide +kernel
theorem dX5_reckon_70 : decode cX5_reckon 70 = .ok (.iload_n 3, 1) := by decide +kernel
theorem dX5_reckon_71 : decode cX5_reckon 71 = .ok (.if_icmp .gt 74, 3) := by decide +kernel
theorem dX5_reckon_74 : decode cX5_reckon 74 = .ok (.iload 5, 2) := by decide +kernel
theorem dX5_reckon_76 : decode cX5_reckon 76 = .ok (.aload_n 0, 1) := by decide +kernel
theorem dX5_reckon_77 : decode cX5_reckon 77 = .ok (.getfield 146, 3) := by decide +kernel
theorem dX5_reckon_80 : decode cX5_reckon 80 = .ok (.imul, 1) := by decide +kernel
theorem dX5_reckon_81 : decode cX5_reckon 81 = .ok (.aload_n 0, 1) := by decide +kernel
theorem dX5_reckon_82 : decode cX5_reckon 82 = .ok (.iload_n 2, 1) := by decide +kernel
theorem dX5_reckon_83 : decode cX5_reckon 83 = .ok (.invokevirtual 158, 3) := by decide +kernel
theorem dX5_reckon_86 : decode cX5_reckon 86 = .ok (.if_icmp .gt 59, 3) := by decide +kernel
theorem dX5_reckon_89 : decode cX5_reckon 89 = .ok (.aload_n 0, 1) := by decide +kernel
theorem dX5_reckon_90 : decode cX5_reckon 90 = .ok (.getfield 68, 3) := by decide +kernel
theorem dX5_reckon_93 : decode cX5_reckon 93 = .ok (.iload_n 1, 1) := by decide +kernel
theorem dX5_reckon_94 : decode cX5_reckon 94 = .ok (.iload_n 2, 1) := by decide +kernel
theorem dX5_reckon_95 : decode cX5_reckon 95 = .ok (.iconst 1, 1) := by decide +kernel
theorem dX5_reckon_96 : decode cX5_reckon 96 = .ok (.iadd, 1) := by decide +kernel
theorem dX5_reckon_97 : decode cX5_reckon 97 = .ok (.imul, 1) := by decide +kernel
theorem dX5_reckon_98 : decode cX5_reckon 98 = .ok (.iload_n 3, 1) := by decide +kernel
theorem dX5_reckon_99 : decode cX5_reckon 99 = .ok (.iadd, 1) := by decide +kernel
theorem dX5_reckon_100 : decode cX5_reckon 100 = .ok (.iload 5, 2) := by decide +kernel
theorem dX5_reckon_102 : decode cX5_reckon 102 = .ok (.isub, 1) := by decide +kernel
theorem dX5_reckon_103 : decode cX5_reckon 103 = .ok (.iaload, 1) := by decide +kernel
theorem dX5_reckon_104 : decode cX5_reckon 104 = .ok (.istore 6, 2) := by decide +kernel
theorem dX5_reckon_106 : decode cX5_reckon 106 = .ok (.iload 6, 2) := by decide +kernel
theorem dX5_reckon_108 : decode cX5_reckon 108 = .ok (.ifCond .lt 31, 3) := by decide +kernel
theorem dX5_reckon_111 : decode cX5_reckon 111 = .ok (.iload 4, 2) := by decide +kernel
theorem dX5_reckon_113 : decode cX5_reckon 113 = .ok (.iload 6, 2) := by decide +kernel
theorem dX5_reckon_115 : decode cX5_reckon 115 = .ok (.aload_n 0, 1) := by decide +kernel
theorem dX5_reckon_116 : decode cX5_reckon 116 = .ok (.iload_n 2, 1) := by decide +kernel
theorem dX5_reckon_117 : decode cX5_reckon 117 = .ok (.invokevirtual 158, 3) := by decide +kernel
theorem dX5_reckon_120 : decode cX5_reckon 120 = .ok (.iload 5, 2) := by decide +kernel
theorem dX5_reckon_122 : decode cX5_reckon 122 = .ok (.aload_n 0, 1) := by decide +kernel
theorem dX5_reckon_123 : decode cX5_reckon 123 = .ok (.getfield 146, 3) := by decide +kernel
theorem dX5_reckon_126 : decode cX5_reckon 126 = .ok (.imul, 1) := by decide +kernel
theorem dX5_reckon_127 : decode cX5_reckon 127 = .ok (.isub, 1) := by decide +kernel
theorem dX5_reckon_128 : decode cX5_reckon 128 = .ok (.aload_n 0, 1) := by decide +kernel
theorem dX5_reckon_129 : decode cX5_reckon 129 = .ok (.getfield 143, 3) := by decide +kernel
theorem dX5_reckon_132 : decode cX5_reckon 132 = .ok (.idiv, 1) := by decide +kernel
theorem dX5_reckon_133 : decode cX5_reckon 133 = .ok (.iadd, 1) := by decide +kernel
theorem dX5_reckon_134 : decode cX5_reckon 134 = .ok (.invokestatic 136, 3) := by decide +kernel
theorem dX5_reckon_137 : decode cX5_reckon 137 = .ok (.istore 4, 2) := by decide +kernel
theorem dX5_reckon_139 : decode cX5_reckon 139 = .ok (.iinc 5 1, 3) := by decide +kernel
theorem dX5_reckon_142 : decode cX5_reckon 142 = .ok (.goto (-74), 3) := by decide +kernel
theorem dX5_reckon_145 : decode cX5_reckon 145 = .ok (.aload_n 0, 1) := by decide +kernel
theorem dX5_reckon_146 : decode cX5_reckon 146 = .ok (.getfield 68, 3) := by decide +kernel
theorem dX5_reckon_149 : decode cX5_reckon 149 = .ok (.iload_n 1, 1) := by decide +kernel
theorem dX5_reckon_150 : decode cX5_reckon 150 = .ok (.iload_n 2, 1) := by decide +kernel
theorem dX5_reckon_151 : decode cX5_reckon 151 = .ok (.imul, 1) := by decide +kernel
theorem dX5_reckon_152 : decode cX5_reckon 152 = .ok (.iload_n 3, 1) := by decide +kernel
theorem dX5_reckon_153 : decode cX5_reckon 153 = .ok (.iadd, 1) := by decide +kernel
theorem dX5_reckon_154 : decode cX5_reckon 154 = .ok (.iload 4, 2) := by decide +kernel
theorem dX5_reckon_156 : decode cX5_reckon 156 = .ok (.iastore, 1) := by decide +kernel
theorem dX5_reckon_157 : decode cX5_reckon 157 = .ok (.iinc 3 1, 3) := by decide +kernel
theorem dX5_reckon_160 : decode cX5_reckon 160 = .ok (.goto (-106), 3) := by decide +kernel
theorem dX5_reckon_163 : decode cX5_reckon 163 = .ok (.iinc 2 (-1), 3) := by decide +kernel
theorem dX5_reckon_166 : decode cX5_reckon 166 = .ok (.goto (-118), 3) := by decide +kernel
theorem dX5_reckon_169 : decode cX5_reckon 169 = .ok (.return_, 1) := by decide +kernel
theorem dX5_gives_0 : decode cX5_gives 0 = .ok (.aload_n 0, 1) := by decide +kernel
theorem dX5_gives_1 : decode cX5_gives 1 = .ok (.getfield 68, 3) := by decide +kernel
theorem dX5_gives_4 : decode cX5_gives 4 = .ok (.bipush 41, 2) := by decide +kernel
theorem dX5_gives_6 : decode cX5_gives 6 = .ok (.iload_n 1, 1) := by decide +kernel
theorem dX5_gives_7 : decode cX5_gives 7 = .ok (.imul, 1) := by decide +kernel
theorem dX5_gives_8 : decode cX5_gives 8 = .ok (.iload_n 2, 1) := by decide +kernel
theorem dX5_gives_9 : decode cX5_gives 9 = .ok (.iadd, 1) := by decide +kernel
theorem dX5_gives_10 : decode cX5_gives 10 = .ok (.iaload, 1) := by decide +kernel
theorem dX5_gives_11 : decode cX5_gives 11 = .ok (.iload_n 3, 1) := by decide +kernel
theorem dX5_gives_12 : decode cX5_gives 12 = .ok (.if_icmp .lt 7, 3) := by decide +kernel
theorem dX5_gives_15 : decode cX5_gives 15 = .ok (.iconst 1, 1) := by decide +kernel
theorem dX5_gives_16 : decode cX5_gives 16 = .ok (.goto 4, 3) := by decide +kernel
theorem dX5_gives_19 : decode cX5_gives 19 = .ok (.iconst 0, 1) := by decide +kernel
theorem dX5_gives_20 : decode cX5_gives 20 = .ok (.ireturn, 1) := by decide +kernel
theorem dX5_take_0 : decode cX5_take 0 = .ok (.aload_n 0, 1) := by decide +kernel
theorem dX5_take_1 : decode cX5_take 1 = .ok (.iconst 0, 1) := by decide +kernel
theorem dX5_take_2 : decode cX5_take 2 = .ok (.putfield 155, 3) := by decide +kernel
theorem dX5_take_5 : decode cX5_take 5 = .ok (.iconst 0, 1) := by decide +kernel
theorem dX5_take_6 : decode cX5_take 6 = .ok (.istore_n 2, 1) := by decide +kernel
theorem dX5_take_7 : decode cX5_take 7 = .ok (.iload_n 2, 1) := by decide +kernel
theorem dX5_take_8 : decode cX5_take 8 = .ok (.bipush 8, 2) := by decide +kernel
theorem dX5_take_10 : decode cX5_take 10 = .ok (.if_icmp .ge 78, 3) := by decide +kernel
theorem dX5_take_13 : decode cX5_take 13 = .ok (.iload_n 1, 1) := by decide +kernel
theorem dX5_take_14 : decode cX5_take 14 = .ok (.iload_n 2, 1) := by decide +kernel
theorem dX5_take_15 : decode cX5_take 15 = .ok (.ishr, 1) := by decide +kernel
theorem dX5_take_16 : decode cX5_take 16 = .ok (.iconst 1, 1) := by decide +kernel
theorem dX5_take_17 : decode cX5_take 17 = .ok (.iand, 1) := by decide +kernel
theorem dX5_take_18 : decode cX5_take 18 = .ok (.ifCond .ne 6, 3) := by decide +kernel
theorem dX5_take_21 : decode cX5_take 21 = .ok (.goto 61, 3) := by decide +kernel
theorem dX5_take_24 : decode cX5_take 24 = .ok (.iconst 0, 1) := by decide +kernel
theorem dX5_take_25 : decode cX5_take 25 = .ok (.istore_n 3, 1) := by decide +kernel
theorem dX5_take_26 : decode cX5_take 26 = .ok (.iload_n 3, 1) := by decide +kernel
theorem dX5_take_27 : decode cX5_take 27 = .ok (.aload_n 0, 1) := by decide +kernel
theorem dX5_take_28 : decode cX5_take 28 = .ok (.getfield 25, 3) := by decide +kernel
theorem dX5_take_31 : decode cX5_take 31 = .ok (.aload_n 0, 1) := by decide +kernel
theorem dX5_take_32 : decode cX5_take 32 = .ok (.getfield 77, 3) := by decide +kernel
theorem dX5_take_35 : decode cX5_take 35 = .ok (.iload_n 2, 1) := by decide +kernel
theorem dX5_take_36 : decode cX5_take 36 = .ok (.iaload, 1) := by decide +kernel
theorem dX5_take_37 : decode cX5_take 37 = .ok (.iaload, 1) := by decide +kernel
theorem dX5_take_38 : decode cX5_take 38 = .ok (.if_icmp .ge 44, 3) := by decide +kernel
theorem dX5_take_41 : decode cX5_take 41 = .ok (.aload_n 0, 1) := by decide +kernel
theorem dX5_take_42 : decode cX5_take 42 = .ok (.getfield 62, 3) := by decide +kernel
theorem dX5_take_45 : decode cX5_take 45 = .ok (.aload_n 0, 1) := by decide +kernel
theorem dX5_take_46 : decode cX5_take 46 = .ok (.getfield 155, 3) := by decide +kernel
theorem dX5_take_49 : decode cX5_take 49 = .ok (.aload_n 0, 1) := by decide +kernel
theorem dX5_take_50 : decode cX5_take 50 = .ok (.getfield 77, 3) := by decide +kernel
theorem dX5_take_53 : decode cX5_take 53 = .ok (.iload_n 2, 1) := by decide +kernel
theorem dX5_take_54 : decode cX5_take 54 = .ok (.iaload, 1) := by decide +kernel
theorem dX5_take_55 : decode cX5_take 55 = .ok (.iastore, 1) := by decide +kernel
theorem dX5_take_56 : decode cX5_take 56 = .ok (.aload_n 0, 1) := by decide +kernel
theorem dX5_take_57 : decode cX5_take 57 = .ok (.getfield 65, 3) := by decide +kernel
theorem dX5_take_60 : decode cX5_take 60 = .ok (.aload_n 0, 1) := by decide +kernel
theorem dX5_take_61 : decode cX5_take 61 = .ok (.getfield 155, 3) := by decide +kernel
theorem dX5_take_64 : decode cX5_take 64 = .ok (.iload_n 3, 1) := by decide +kernel
theorem dX5_take_65 : decode cX5_take 65 = .ok (.iastore, 1) := by decide +kernel
theorem dX5_take_66 : decode cX5_take 66 = .ok (.aload_n 0, 1) := by decide +kernel
theorem dX5_take_67 : decode cX5_take 67 = .ok (.dup, 1) := by decide +kernel
theorem dX5_take_68 : decode cX5_take 68 = .ok (.getfield 155, 3) := by decide +kernel
theorem dX5_take_71 : decode cX5_take 71 = .ok (.iconst 1, 1) := by decide +kernel
theorem dX5_take_72 : decode cX5_take 72 = .ok (.iadd, 1) := by decide +kernel
theorem dX5_take_73 : decode cX5_take 73 = .ok (.putfield 155, 3) := by decide +kernel
theorem dX5_take_76 : decode cX5_take 76 = .ok (.iinc 3 1, 3) := by decide +kernel
theorem dX5_take_79 : decode cX5_take 79 = .ok (.goto (-53), 3) := by decide +kernel
theorem dX5_take_82 : decode cX5_take 82 = .ok (.iinc 2 1, 3) := by decide +kernel
theorem dX5_take_85 : decode cX5_take 85 = .ok (.goto (-78), 3) := by decide +kernel
theorem dX5_take_88 : decode cX5_take 88 = .ok (.return_, 1) := by decide +kernel
theorem dX5_ones_0 : decode cX5_ones 0 = .ok (.iconst 0, 1) := by decide +kernel
theorem dX5_ones_1 : decode cX5_ones 1 = .ok (.istore_n 1, 1) := by decide +kernel
theorem dX5_ones_2 : decode cX5_ones 2 = .ok (.iload_n 0, 1) := by decide +kernel
theorem dX5_ones_3 : decode cX5_ones 3 = .ok (.istore_n 2, 1) := by decide +kernel
theorem dX5_ones_4 : decode cX5_ones 4 = .ok (.iload_n 2, 1) := by decide +kernel
theorem dX5_ones_5 : decode cX5_ones 5 = .ok (.ifCond .eq 15, 3) := by decide +kernel
theorem dX5_ones_8 : decode cX5_ones 8 = .ok (.iinc 1 1, 3) := by decide +kernel
theorem dX5_ones_11 : decode cX5_ones 11 = .ok (.iload_n 2, 1) := by decide +kernel
theorem dX5_ones_12 : decode cX5_ones 12 = .ok (.iload_n 2, 1) := by decide +kernel
theorem dX5_ones_13 : decode cX5_ones 13 = .ok (.iconst 1, 1) := by decide +kernel
theorem dX5_ones_14 : decode cX5_ones 14 = .ok (.isub, 1) := by decide +kernel
theorem dX5_ones_15 : decode cX5_ones 15 = .ok (.iand, 1) := by decide +kernel
theorem dX5_ones_16 : decode cX5_ones 16 = .ok (.istore_n 2, 1) := by decide +kernel
theorem dX5_ones_17 : decode cX5_ones 17 = .ok (.goto (-13), 3) := by decide +kernel
theorem dX5_ones_20 : decode cX5_ones 20 = .ok (.iload_n 1, 1) := by decide +kernel
theorem dX5_ones_21 : decode cX5_ones 21 = .ok (.ireturn, 1) := by decide +kernel
theorem dX5_isAhead_0 : decode cX5_isAhead 0 = .ok (.iload_n 0, 1) := by decide +kernel
theorem dX5_isAhead_1 : decode cX5_isAhead 1 = .ok (.iload_n 1, 1) := by decide +kernel
theorem dX5_isAhead_2 : decode cX5_isAhead 2 = .ok (.ixor, 1) := by decide +kernel
theorem dX5_isAhead_3 : decode cX5_isAhead 3 = .ok (.istore_n 2, 1) := by decide +kernel
theorem dX5_isAhead_4 : decode cX5_isAhead 4 = .ok (.iload_n 0, 1) := by decide +kernel
theorem dX5_isAhead_5 : decode cX5_isAhead 5 = .ok (.iload_n 2, 1) := by decide +kernel
theorem dX5_isAhead_6 : decode cX5_isAhead 6 = .ok (.iload_n 2, 1) := by decide +kernel
theorem dX5_isAhead_7 : decode cX5_isAhead 7 = .ok (.ineg, 1) := by decide +kernel
theorem dX5_isAhead_8 : decode cX5_isAhead 8 = .ok (.iand, 1) := by decide +kernel
theorem dX5_isAhead_9 : decode cX5_isAhead 9 = .ok (.iand, 1) := by decide +kernel
theorem dX5_isAhead_10 : decode cX5_isAhead 10 = .ok (.ifCond .eq 7, 3) := by decide +kernel
theorem dX5_isAhead_13 : decode cX5_isAhead 13 = .ok (.iconst 1, 1) := by decide +kernel
theorem dX5_isAhead_14 : decode cX5_isAhead 14 = .ok (.goto 4, 3) := by decide +kernel
theorem dX5_isAhead_17 : decode cX5_isAhead 17 = .ok (.iconst 0, 1) := by decide +kernel
theorem dX5_isAhead_18 : decode cX5_isAhead 18 = .ok (.ireturn, 1) := by decide +kernel
set_option maxRecDepth 20000 in
theorem ggX5_bestSet_X5_pieces : GoodIn wsX5_bestSet wsX5_pieces := goodIn_r _ [9, 10, 11, 12, 13, 14, 15, 16, 17, 18, 4, 3, 19, 20, 21, 8, 22, 23, 24, 25, 26, 27, 28, 70, 71, 72, 73, 74, 75, 76, 77, 78, 79, 80, 81, 82, 83, 84, 85, 86, 87, 88, 89, 90, 91, 92, 93, 94, 95, 96, 97, 98, 99, 100, 101, 102, 103] (by decide +kernel) (by decide +kernel)
set_option maxRecDepth 20000 in
theorem gX5_bestSet_X5_pieces : GoodIn wsX5_bestSet (wsV RX5 161 RX5 yX5_pieces wsX5_pieces) := goodIn_app (goodIn_of _ (by decide +kernel)) ggX5_bestSet_X5_pieces
set_option maxRecDepth 20000 in
theorem ggX5_bestSet_X5_isRipe : GoodIn wsX5_bestSet wsX5_isRipe := goodIn_r _ [32, 33, 34, 70, 71, 72, 73, 74, 75, 76, 77, 78, 79, 80, 81, 82, 83, 84, 85, 86, 87, 88, 89, 90, 91, 92, 93, 94, 95, 96, 97, 98, 99, 100, 101, 102, 103] (by decide +kernel) (by decide +kernel)
set_option maxRecDepth 20000 in
theorem gX5_bestSet_X5_isRipe : GoodIn wsX5_bestSet (wsV RX5 139 RX5 yX5_isRipe wsX5_isRipe) := goodIn_app (goodIn_of _ (by decide +kernel)) ggX5_bestSet_X5_isRipe
set_option maxRecDepth 20000 in
theorem ggX5_bestSet_X5_ones : GoodIn wsX5_bestSet wsX5_ones := goodIn_r _ [37] (by decide +kernel) (by decide +kernel)
set_option maxRecDepth 20000 in
theorem gX5_bestSet_X5_ones : GoodIn wsX5_bestSet (va_wsS RX5 165 yX5_ones wsX5_ones) := goodIn_app (goodIn_of _ (by decide +kernel)) ggX5_bestSet_X5_ones
set_option maxRecDepth 20000 in
theorem ggX5_bestSet_X5_isAhead : GoodIn wsX5_bestSet wsX5_isAhead := goodIn_r _ [40] (by decide +kernel) (by decide +kernel)
set_option maxRecDepth 20000 in
theorem gX5_bestSet_X5_isAhead : GoodIn wsX5_bestSet (va_wsS RX5 168 yX5_isAhead wsX5_isAhead) := goodIn_app (goodIn_of _ (by decide +kernel)) ggX5_bestSet_X5_isAhead
set_option maxRecDepth 20000 in
theorem ggX5_bestSet_X5_take : GoodIn wsX5_bestSet wsX5_take := goodIn_r _ [44, 45, 46, 2, 47, 48, 70, 71, 72, 73, 74, 75, 76, 77, 78, 79, 80, 81, 82, 83, 84, 85, 86, 87, 88, 89, 90, 91, 92, 93, 94, 95, 96, 97, 98, 99, 100, 101, 102, 103] (by decide +kernel) (by decide +kernel)
set_option maxRecDepth 20000 in
theorem gX5_bestSet_X5_take : GoodIn wsX5_bestSet (wsV RX5 171 RX5 yX5_take wsX5_take) := goodIn_app (goodIn_of _ (by decide +kernel)) ggX5_bestSet_X5_take
set_option maxRecDepth 20000 in
theorem ggX5_bestSet_X5_reckon : GoodIn wsX5_bestSet wsX5_reckon := goodIn_r _ [52, 3, 53, 45, 18, 17, 54, 55, 15, 56, 57, 58, 59, 8, 60, 47, 48, 61, 62, 63, 64, 65, 70, 71, 72, 73, 74, 75, 76, 77, 78, 79, 80, 81, 82, 83, 84, 85, 86, 87, 88, 89, 90, 91, 92, 93, 94, 95, 96, 97, 98, 99, 100, 101, 102, 103] (by decide +kernel) (by decide +kernel)
set_option maxRecDepth 20000 in
theorem gX5_bestSet_X5_reckon : GoodIn wsX5_bestSet (wsV RX5 174 RX5 yX5_reckon wsX5_reckon) := goodIn_app (goodIn_of _ (by decide +kernel)) ggX5_bestSet_X5_reckon
set_option maxRecDepth 20000 in
theorem ggX5_bestSet_X5_gives : GoodIn wsX5_bestSet wsX5_gives := goodIn_r _ [69, 53, 70, 71, 72, 73, 74, 75, 76, 77, 78, 79, 80, 81, 82, 83, 84, 85, 86, 87, 88, 89, 90, 91, 92, 93, 94, 95, 96, 97, 98, 99, 100, 101, 102, 103] (by decide +kernel) (by decide +kernel)
set_option maxRecDepth 20000 in
theorem gX5_bestSet_X5_gives : GoodIn wsX5_bestSet (wsV RX5 177 RX5 yX5_gives wsX5_gives) := goodIn_app (goodIn_of _ (by decide +kernel)) ggX5_bestSet_X5_gives
theorem dX5_bestSet_0 : decode cX5_bestSet 0 = .ok (.aload_n 0, 1) := by decide +kernel
theorem dX5_bestSet_1 : decode cX5_bestSet 1 = .ok (.iload_n 1, 1) := by decide +kernel
theorem dX5_bestSet_2 : decode cX5_bestSet 2 = .ok (.invokevirtual 161, 3) := by decide +kernel
theorem dX5_bestSet_5 : decode cX5_bestSet 5 = .ok (.iconst 0, 1) := by decide +kernel
theorem dX5_bestSet_6 : decode cX5_bestSet 6 = .ok (.istore_n 2, 1) := by decide +kernel
theorem dX5_bestSet_7 : decode cX5_bestSet 7 = .ok (.iconst 0, 1) := by decide +kernel
theorem dX5_bestSet_8 : decode cX5_bestSet 8 = .ok (.istore_n 3, 1) := by decide +kernel
theorem dX5_bestSet_9 : decode cX5_bestSet 9 = .ok (.iload_n 3, 1) := by decide +kernel
theorem dX5_bestSet_10 : decode cX5_bestSet 10 = .ok (.aload_n 0, 1) := by decide +kernel
theorem dX5_bestSet_11 : decode cX5_bestSet 11 = .ok (.getfield 122, 3) := by decide +kernel
theorem dX5_bestSet_14 : decode cX5_bestSet 14 = .ok (.if_icmp .ge 36, 3) := by decide +kernel
theorem dX5_bestSet_17 : decode cX5_bestSet 17 = .ok (.iload_n 2, 1) := by decide +kernel
theorem dX5_bestSet_18 : decode cX5_bestSet 18 = .ok (.bipush 8, 2) := by decide +kernel
theorem dX5_bestSet_20 : decode cX5_bestSet 20 = .ok (.if_icmp .ge 30, 3) := by decide +kernel
theorem dX5_bestSet_23 : decode cX5_bestSet 23 = .ok (.aload_n 0, 1) := by decide +kernel
theorem dX5_bestSet_24 : decode cX5_bestSet 24 = .ok (.iload_n 3, 1) := by decide +kernel
theorem dX5_bestSet_25 : decode cX5_bestSet 25 = .ok (.invokevirtual 139, 3) := by decide +kernel
theorem dX5_bestSet_28 : decode cX5_bestSet 28 = .ok (.ifCond .ne 6, 3) := by decide +kernel
theorem dX5_bestSet_31 : decode cX5_bestSet 31 = .ok (.goto 13, 3) := by decide +kernel
theorem dX5_bestSet_34 : decode cX5_bestSet 34 = .ok (.aload_n 0, 1) := by decide +kernel
theorem dX5_bestSet_35 : decode cX5_bestSet 35 = .ok (.getfield 77, 3) := by decide +kernel
theorem dX5_bestSet_38 : decode cX5_bestSet 38 = .ok (.iload_n 2, 1) := by decide +kernel
theorem dX5_bestSet_39 : decode cX5_bestSet 39 = .ok (.iload_n 3, 1) := by decide +kernel
theorem dX5_bestSet_40 : decode cX5_bestSet 40 = .ok (.iastore, 1) := by decide +kernel
theorem dX5_bestSet_41 : decode cX5_bestSet 41 = .ok (.iinc 2 1, 3) := by decide +kernel
theorem dX5_bestSet_44 : decode cX5_bestSet 44 = .ok (.iinc 3 1, 3) := by decide +kernel
theorem dX5_bestSet_47 : decode cX5_bestSet 47 = .ok (.goto (-38), 3) := by decide +kernel
theorem dX5_bestSet_50 : decode cX5_bestSet 50 = .ok (.iconst 0, 1) := by decide +kernel
theorem dX5_bestSet_51 : decode cX5_bestSet 51 = .ok (.istore_n 3, 1) := by decide +kernel
theorem dX5_bestSet_52 : decode cX5_bestSet 52 = .ok (.iconst 1, 1) := by decide +kernel
theorem dX5_bestSet_53 : decode cX5_bestSet 53 = .ok (.istore 4, 2) := by decide +kernel
theorem dX5_bestSet_55 : decode cX5_bestSet 55 = .ok (.iload 4, 2) := by decide +kernel
theorem dX5_bestSet_57 : decode cX5_bestSet 57 = .ok (.iconst 1, 1) := by decide +kernel
theorem dX5_bestSet_58 : decode cX5_bestSet 58 = .ok (.iload_n 2, 1) := by decide +kernel
theorem dX5_bestSet_59 : decode cX5_bestSet 59 = .ok (.ishl, 1) := by decide +kernel
theorem dX5_bestSet_60 : decode cX5_bestSet 60 = .ok (.if_icmp .ge 90, 3) := by decide +kernel
theorem dX5_bestSet_63 : decode cX5_bestSet 63 = .ok (.iload_n 3, 1) := by decide +kernel
theorem dX5_bestSet_64 : decode cX5_bestSet 64 = .ok (.ifCond .eq 36, 3) := by decide +kernel
theorem dX5_bestSet_67 : decode cX5_bestSet 67 = .ok (.iload 4, 2) := by decide +kernel
theorem dX5_bestSet_69 : decode cX5_bestSet 69 = .ok (.invokestatic 165, 3) := by decide +kernel
theorem dX5_bestSet_72 : decode cX5_bestSet 72 = .ok (.iload_n 3, 1) := by decide +kernel
theorem dX5_bestSet_73 : decode cX5_bestSet 73 = .ok (.invokestatic 165, 3) := by decide +kernel
theorem dX5_bestSet_76 : decode cX5_bestSet 76 = .ok (.if_icmp .lt 24, 3) := by decide +kernel
theorem dX5_bestSet_79 : decode cX5_bestSet 79 = .ok (.iload 4, 2) := by decide +kernel
theorem dX5_bestSet_81 : decode cX5_bestSet 81 = .ok (.invokestatic 165, 3) := by decide +kernel
theorem dX5_bestSet_84 : decode cX5_bestSet 84 = .ok (.iload_n 3, 1) := by decide +kernel
theorem dX5_bestSet_85 : decode cX5_bestSet 85 = .ok (.invokestatic 165, 3) := by decide +kernel
theorem dX5_bestSet_88 : decode cX5_bestSet 88 = .ok (.if_icmp .ne 16, 3) := by decide +kernel
theorem dX5_bestSet_91 : decode cX5_bestSet 91 = .ok (.iload 4, 2) := by decide +kernel
theorem dX5_bestSet_93 : decode cX5_bestSet 93 = .ok (.iload_n 3, 1) := by decide +kernel
theorem dX5_bestSet_94 : decode cX5_bestSet 94 = .ok (.invokestatic 168, 3) := by decide +kernel
theorem dX5_bestSet_97 : decode cX5_bestSet 97 = .ok (.ifCond .eq 7, 3) := by decide +kernel
theorem dX5_bestSet_100 : decode cX5_bestSet 100 = .ok (.iconst 1, 1) := by decide +kernel
theorem dX5_bestSet_101 : decode cX5_bestSet 101 = .ok (.goto 4, 3) := by decide +kernel
theorem dX5_bestSet_104 : decode cX5_bestSet 104 = .ok (.iconst 0, 1) := by decide +kernel
theorem dX5_bestSet_105 : decode cX5_bestSet 105 = .ok (.istore 5, 2) := by decide +kernel
theorem dX5_bestSet_107 : decode cX5_bestSet 107 = .ok (.iload 5, 2) := by decide +kernel
theorem dX5_bestSet_109 : decode cX5_bestSet 109 = .ok (.ifCond .ne 6, 3) := by decide +kernel
theorem dX5_bestSet_112 : decode cX5_bestSet 112 = .ok (.goto 32, 3) := by decide +kernel
theorem dX5_bestSet_115 : decode cX5_bestSet 115 = .ok (.aload_n 0, 1) := by decide +kernel
theorem dX5_bestSet_116 : decode cX5_bestSet 116 = .ok (.iload 4, 2) := by decide +kernel
theorem dX5_bestSet_118 : decode cX5_bestSet 118 = .ok (.invokevirtual 171, 3) := by decide +kernel
theorem dX5_bestSet_121 : decode cX5_bestSet 121 = .ok (.aload_n 0, 1) := by decide +kernel
theorem dX5_bestSet_122 : decode cX5_bestSet 122 = .ok (.invokevirtual 174, 3) := by decide +kernel
theorem dX5_bestSet_125 : decode cX5_bestSet 125 = .ok (.aload_n 0, 1) := by decide +kernel
theorem dX5_bestSet_126 : decode cX5_bestSet 126 = .ok (.iconst 0, 1) := by decide +kernel
theorem dX5_bestSet_127 : decode cX5_bestSet 127 = .ok (.aload_n 0, 1) := by decide +kernel
theorem dX5_bestSet_128 : decode cX5_bestSet 128 = .ok (.getfield 152, 3) := by decide +kernel
theorem dX5_bestSet_131 : decode cX5_bestSet 131 = .ok (.aload_n 0, 1) := by decide +kernel
theorem dX5_bestSet_132 : decode cX5_bestSet 132 = .ok (.getfield 149, 3) := by decide +kernel
theorem dX5_bestSet_135 : decode cX5_bestSet 135 = .ok (.invokevirtual 177, 3) := by decide +kernel
theorem dX5_bestSet_138 : decode cX5_bestSet 138 = .ok (.ifCond .eq 6, 3) := by decide +kernel
theorem dX5_bestSet_141 : decode cX5_bestSet 141 = .ok (.iload 4, 2) := by decide +kernel
theorem dX5_bestSet_143 : decode cX5_bestSet 143 = .ok (.istore_n 3, 1) := by decide +kernel
theorem dX5_bestSet_144 : decode cX5_bestSet 144 = .ok (.iinc 4 1, 3) := by decide +kernel
theorem dX5_bestSet_147 : decode cX5_bestSet 147 = .ok (.goto (-92), 3) := by decide +kernel
theorem dX5_bestSet_150 : decode cX5_bestSet 150 = .ok (.iload_n 3, 1) := by decide +kernel
theorem dX5_bestSet_151 : decode cX5_bestSet 151 = .ok (.ireturn, 1) := by decide +kernel
set_option maxRecDepth 20000 in
theorem ggX5_fewest_X5_isForm : GoodIn wsX5_fewest wsX5_isForm := goodIn_r _ [6, 7, 84, 85, 86, 87, 88, 89, 90, 91, 92, 93, 94, 95, 96, 97, 98, 99, 100, 101, 102, 103, 104, 105, 106, 107, 108, 109, 110, 111, 112, 113, 114, 115, 116, 117] (by decide +kernel) (by decide +kernel)
set_option maxRecDepth 20000 in
theorem gX5_fewest_X5_isForm : GoodIn wsX5_fewest (wsV RX5 90 RX5 yX5_isForm wsX5_isForm) := goodIn_app (goodIn_of _ (by decide +kernel)) ggX5_fewest_X5_isForm
set_option maxRecDepth 20000 in
theorem ggX5_fewest_X5_fail : GoodIn wsX5_fewest wsX5_fail := goodIn_r _ [11, 1, 84, 85, 86, 87, 88, 89, 90, 91, 92, 93, 94, 95, 96, 97, 98, 99, 100, 101, 102, 103, 104, 105, 106, 107, 108, 109, 110, 111, 112, 113, 114, 115, 116, 117] (by decide +kernel) (by decide +kernel)
set_option maxRecDepth 20000 in
theorem gX5_fewest_X5_fail : GoodIn wsX5_fewest (wsV RX5 94 RX5 yX5_fail wsX5_fail) := goodIn_app (goodIn_of _ (by decide +kernel)) ggX5_fewest_X5_fail
set_option maxRecDepth 20000 in
theorem ggX5_fewest_X5_bestSet : GoodIn wsX5_fewest wsX5_bestSet := goodIn_r _ [15, 16, 17, 18, 19, 20, 21, 22, 5, 23, 24, 25, 26, 27, 28, 29, 30, 31, 32, 33, 34, 35, 36, 37, 38, 39, 40, 41, 42, 43, 44, 45, 46, 47, 48, 49, 50, 51, 52, 53, 54, 55, 56, 57, 58, 59, 60, 61, 62, 63, 64, 65, 66, 67, 68, 69, 70, 71, 72, 73, 74, 75, 76, 77, 78, 79, 80, 81, 82, 83, 84, 85, 86, 87, 88, 89, 90, 91, 92, 93, 94, 95, 96, 97, 98, 99, 100, 101, 102, 103, 104, 105, 106, 107, 108, 109, 110, 111, 112, 113, 114, 115, 116, 117] (by decide +kernel) (by decide +kernel)
set_option maxRecDepth 20000 in
theorem gX5_fewest_X5_bestSet : GoodIn wsX5_fewest (wsV RX5 181 RX5 yX5_bestSet wsX5_bestSet) := goodIn_app (goodIn_of _ (by decide +kernel)) ggX5_fewest_X5_bestSet
set_option maxRecDepth 20000 in
theorem ggX5_fewest_X5_ones : GoodIn wsX5_fewest wsX5_ones := goodIn_r _ [51] (by decide +kernel) (by decide +kernel)
set_option maxRecDepth 20000 in
theorem gX5_fewest_X5_ones : GoodIn wsX5_fewest (va_wsS RX5 165 yX5_ones wsX5_ones) := goodIn_app (goodIn_of _ (by decide +kernel)) ggX5_fewest_X5_ones
theorem dX5_fewest_0 : decode cX5_fewest 0 = .ok (.aload_n 0, 1) := by decide +kernel
theorem dX5_fewest_1 : decode cX5_fewest 1 = .ok (.iconst 0, 1) := by decide +kernel
theorem dX5_fewest_2 : decode cX5_fewest 2 = .ok (.putfield 83, 3) := by decide +kernel
theorem dX5_fewest_5 : decode cX5_fewest 5 = .ok (.aload_n 0, 1) := by decide +kernel
theorem dX5_fewest_6 : decode cX5_fewest 6 = .ok (.iload_n 1, 1) := by decide +kernel
theorem dX5_fewest_7 : decode cX5_fewest 7 = .ok (.invokevirtual 90, 3) := by decide +kernel
theorem dX5_fewest_10 : decode cX5_fewest 10 = .ok (.ifCond .ne 9, 3) := by decide +kernel
theorem dX5_fewest_13 : decode cX5_fewest 13 = .ok (.aload_n 0, 1) := by decide +kernel
theorem dX5_fewest_14 : decode cX5_fewest 14 = .ok (.iconst 1, 1) := by decide +kernel
theorem dX5_fewest_15 : decode cX5_fewest 15 = .ok (.invokevirtual 94, 3) := by decide +kernel
theorem dX5_fewest_18 : decode cX5_fewest 18 = .ok (.ireturn, 1) := by decide +kernel
theorem dX5_fewest_19 : decode cX5_fewest 19 = .ok (.aload_n 0, 1) := by decide +kernel
theorem dX5_fewest_20 : decode cX5_fewest 20 = .ok (.iload_n 1, 1) := by decide +kernel
theorem dX5_fewest_21 : decode cX5_fewest 21 = .ok (.invokevirtual 181, 3) := by decide +kernel
theorem dX5_fewest_24 : decode cX5_fewest 24 = .ok (.istore_n 2, 1) := by decide +kernel
theorem dX5_fewest_25 : decode cX5_fewest 25 = .ok (.iload_n 2, 1) := by decide +kernel
theorem dX5_fewest_26 : decode cX5_fewest 26 = .ok (.ifCond .ne 7, 3) := by decide +kernel
theorem dX5_fewest_29 : decode cX5_fewest 29 = .ok (.iconst (-1), 1) := by decide +kernel
theorem dX5_fewest_30 : decode cX5_fewest 30 = .ok (.goto 7, 3) := by decide +kernel
theorem dX5_fewest_33 : decode cX5_fewest 33 = .ok (.iload_n 2, 1) := by decide +kernel
theorem dX5_fewest_34 : decode cX5_fewest 34 = .ok (.invokestatic 165, 3) := by decide +kernel
theorem dX5_fewest_37 : decode cX5_fewest 37 = .ok (.ireturn, 1) := by decide +kernel
set_option maxRecDepth 20000 in
theorem ggX5_make_X5_isForm : GoodIn wsX5_make wsX5_isForm := goodIn_r _ [26, 27, 98, 99, 100, 101, 102, 103, 104, 105, 106, 107, 108, 109, 110, 111, 112, 113, 114, 115, 116, 117, 118, 119, 120, 121, 122, 123, 124, 125, 126, 127, 128, 129, 130, 131] (by decide +kernel) (by decide +kernel)
set_option maxRecDepth 20000 in
theorem gX5_make_X5_isForm : GoodIn wsX5_make (wsV RX5 90 RX5 yX5_isForm wsX5_isForm) := goodIn_app (goodIn_of _ (by decide +kernel)) ggX5_make_X5_isForm
set_option maxRecDepth 20000 in
theorem ggX5_make_X5_fail : GoodIn wsX5_make wsX5_fail := goodIn_r _ [31, 1, 98, 99, 100, 101, 102, 103, 104, 105, 106, 107, 108, 109, 110, 111, 112, 113, 114, 115, 116, 117, 118, 119, 120, 121, 122, 123, 124, 125, 126, 127, 128, 129, 130, 131] (by decide +kernel) (by decide +kernel)
set_option maxRecDepth 20000 in
theorem gX5_make_X5_fail : GoodIn wsX5_make (wsV RX5 94 RX5 yX5_fail wsX5_fail) := goodIn_app (goodIn_of _ (by decide +kernel)) ggX5_make_X5_fail
set_option maxRecDepth 20000 in
theorem ggX5_make_X5_bestSet : GoodIn wsX5_make wsX5_bestSet := goodIn_r _ [35, 15, 36, 3, 4, 37, 38, 39, 25, 40, 17, 41, 16, 7, 8, 9, 10, 11, 6, 42, 43, 44, 45, 46, 47, 48, 49, 50, 51, 52, 53, 54, 55, 56, 57, 58, 59, 60, 61, 62, 63, 64, 65, 66, 67, 5, 68, 13, 14, 69, 70, 71, 72, 73, 74, 75, 76, 77, 78, 79, 80, 81, 82, 83, 84, 85, 86, 87, 88, 89, 98, 99, 100, 101, 102, 103, 104, 105, 106, 107, 108, 109, 110, 111, 112, 113, 114, 115, 116, 117, 118, 119, 120, 121, 122, 123, 124, 125, 126, 127, 128, 129, 130, 131] (by decide +kernel) (by decide +kernel)
set_option maxRecDepth 20000 in
theorem gX5_make_X5_bestSet : GoodIn wsX5_make (wsV RX5 181 RX5 yX5_bestSet wsX5_bestSet) := goodIn_app (goodIn_of _ (by decide +kernel)) ggX5_make_X5_bestSet
set_option maxRecDepth 20000 in
theorem ggX5_make_X5_take : GoodIn wsX5_make wsX5_take := goodIn_r _ [67, 5, 68, 36, 13, 14, 98, 99, 100, 101, 102, 103, 104, 105, 106, 107, 108, 109, 110, 111, 112, 113, 114, 115, 116, 117, 118, 119, 120, 121, 122, 123, 124, 125, 126, 127, 128, 129, 130, 131] (by decide +kernel) (by decide +kernel)
set_option maxRecDepth 20000 in
theorem gX5_make_X5_take : GoodIn wsX5_make (wsV RX5 171 RX5 yX5_take wsX5_take) := goodIn_app (goodIn_of _ (by decide +kernel)) ggX5_make_X5_take
set_option maxRecDepth 20000 in
theorem ggX5_make_X5_reckon : GoodIn wsX5_make wsX5_reckon := goodIn_r _ [72, 3, 73, 5, 6, 11, 74, 75, 9, 76, 77, 78, 79, 25, 80, 13, 14, 81, 82, 83, 84, 85, 98, 99, 100, 101, 102, 103, 104, 105, 106, 107, 108, 109, 110, 111, 112, 113, 114, 115, 116, 117, 118, 119, 120, 121, 122, 123, 124, 125, 126, 127, 128, 129, 130, 131] (by decide +kernel) (by decide +kernel)
set_option maxRecDepth 20000 in
theorem gX5_make_X5_reckon : GoodIn wsX5_make (wsV RX5 174 RX5 yX5_reckon wsX5_reckon) := goodIn_app (goodIn_of _ (by decide +kernel)) ggX5_make_X5_reckon
set_option maxRecDepth 20000 in
theorem ggX5_make_X5_length : GoodIn wsX5_make wsX5_length := goodIn_r _ [80, 13, 14, 81, 82, 83, 84, 25, 85, 98, 99, 100, 101, 102, 103, 104, 105, 106, 107, 108, 109, 110, 111, 112, 113, 114, 115, 116, 117, 118, 119, 120, 121, 122, 123, 124, 125, 126, 127, 128, 129, 130, 131] (by decide +kernel) (by decide +kernel)
set_option maxRecDepth 20000 in
theorem gX5_make_X5_length : GoodIn wsX5_make (wsV RX5 158 RX5 yX5_length wsX5_length) := goodIn_app (goodIn_of _ (by decide +kernel)) ggX5_make_X5_length
set_option maxRecDepth 20000 in
theorem ggX5_make_X5_gives : GoodIn wsX5_make wsX5_gives := goodIn_r _ [89, 73, 98, 99, 100, 101, 102, 103, 104, 105, 106, 107, 108, 109, 110, 111, 112, 113, 114, 115, 116, 117, 118, 119, 120, 121, 122, 123, 124, 125, 126, 127, 128, 129, 130, 131] (by decide +kernel) (by decide +kernel)
set_option maxRecDepth 20000 in
theorem gX5_make_X5_gives : GoodIn wsX5_make (wsV RX5 177 RX5 yX5_gives wsX5_gives) := goodIn_app (goodIn_of _ (by decide +kernel)) ggX5_make_X5_gives
set_option maxRecDepth 20000 in
theorem ggX5_make_X5_cut : GoodIn wsX5_make wsX5_cut := goodIn_r _ [93, 82, 83, 84, 25, 85, 98, 99, 100, 101, 102, 103, 104, 105, 106, 107, 108, 109, 110, 111, 112, 113, 114, 115, 116, 117, 118, 119, 120, 121, 122, 123, 124, 125, 126, 127, 128, 129, 130, 131] (by decide +kernel) (by decide +kernel)
set_option maxRecDepth 20000 in
theorem gX5_make_X5_cut : GoodIn wsX5_make (wsV RX5 187 RX5 yX5_cut wsX5_cut) := goodIn_app (goodIn_of _ (by decide +kernel)) ggX5_make_X5_cut
set_option maxRecDepth 20000 in
theorem ggX5_make_X5_tidy : GoodIn wsX5_make wsX5_tidy := goodIn_r _ [97, 68, 82, 81, 83, 84, 25, 85, 98, 99, 100, 101, 102, 103, 104, 105, 106, 107, 108, 109, 110, 111, 112, 113, 114, 115, 116, 117, 118, 119, 120, 121, 122, 123, 124, 125, 126, 127, 128, 129, 130, 131] (by decide +kernel) (by decide +kernel)
set_option maxRecDepth 20000 in
theorem gX5_make_X5_tidy : GoodIn wsX5_make (wsV RX5 191 RX5 yX5_tidy wsX5_tidy) := goodIn_app (goodIn_of _ (by decide +kernel)) ggX5_make_X5_tidy
set_option maxRecDepth 20000 in
theorem ggX5_make_X5_widthOf : GoodIn wsX5_make wsX5_widthOf := goodIn_r _ [45, 16, 46, 47, 48, 25, 49, 17, 50, 51, 98, 99, 100, 101, 102, 103, 104, 105, 106, 107, 108, 109, 110, 111, 112, 113, 114, 115, 116, 117, 118, 119, 120, 121, 122, 123, 124, 125, 126, 127, 128, 129, 130, 131] (by decide +kernel) (by decide +kernel)
set_option maxRecDepth 20000 in
theorem gX5_make_X5_widthOf : GoodIn wsX5_make (wsV RX5 106 RX5 yX5_widthOf wsX5_widthOf) := goodIn_app (goodIn_of _ (by decide +kernel)) ggX5_make_X5_widthOf
theorem dX5_make_0 : decode cX5_make 0 = .ok (.aload_n 0, 1) := by decide +kernel
theorem dX5_make_1 : decode cX5_make 1 = .ok (.iconst 0, 1) := by decide +kernel
theorem dX5_make_2 : decode cX5_make 2 = .ok (.putfield 83, 3) := by decide +kernel
theorem dX5_make_5 : decode cX5_make 5 = .ok (.aload_n 0, 1) := by decide +kernel
theorem dX5_make_6 : decode cX5_make 6 = .ok (.iload_n 1, 1) := by decide +kernel
theorem dX5_make_7 : decode cX5_make 7 = .ok (.invokevirtual 90, 3) := by decide +kernel
theorem dX5_make_10 : decode cX5_make 10 = .ok (.ifCond .ne 9, 3) := by decide +kernel
theorem dX5_make_13 : decode cX5_make 13 = .ok (.aload_n 0, 1) := by decide +kernel
theorem dX5_make_14 : decode cX5_make 14 = .ok (.iconst 1, 1) := by decide +kernel
theorem dX5_make_15 : decode cX5_make 15 = .ok (.invokevirtual 94, 3) := by decide +kernel
theorem dX5_make_18 : decode cX5_make 18 = .ok (.ireturn, 1) := by decide +kernel
theorem dX5_make_19 : decode cX5_make 19 = .ok (.aload_n 0, 1) := by decide +kernel
theorem dX5_make_20 : decode cX5_make 20 = .ok (.getfield 184, 3) := by decide +kernel
theorem dX5_make_23 : decode cX5_make 23 = .ok (.bipush 30, 2) := by decide +kernel
theorem dX5_make_25 : decode cX5_make 25 = .ok (.if_icmp .ne 5, 3) := by decide +kernel
theorem dX5_make_28 : decode cX5_make 28 = .ok (.iconst (-1), 1) := by decide +kernel
theorem dX5_make_29 : decode cX5_make 29 = .ok (.ireturn, 1) := by decide +kernel
theorem dX5_make_30 : decode cX5_make 30 = .ok (.aload_n 0, 1) := by decide +kernel
theorem dX5_make_31 : decode cX5_make 31 = .ok (.iload_n 1, 1) := by decide +kernel
theorem dX5_make_32 : decode cX5_make 32 = .ok (.invokevirtual 181, 3) := by decide +kernel
theorem dX5_make_35 : decode cX5_make 35 = .ok (.istore_n 2, 1) := by decide +kernel
theorem dX5_make_36 : decode cX5_make 36 = .ok (.iload_n 2, 1) := by decide +kernel
theorem dX5_make_37 : decode cX5_make 37 = .ok (.ifCond .ne 5, 3) := by decide +kernel
theorem dX5_make_40 : decode cX5_make 40 = .ok (.iconst (-1), 1) := by decide +kernel
theorem dX5_make_41 : decode cX5_make 41 = .ok (.ireturn, 1) := by decide +kernel
theorem dX5_make_42 : decode cX5_make 42 = .ok (.aload_n 0, 1) := by decide +kernel
theorem dX5_make_43 : decode cX5_make 43 = .ok (.iload_n 2, 1) := by decide +kernel
theorem dX5_make_44 : decode cX5_make 44 = .ok (.invokevirtual 171, 3) := by decide +kernel
theorem dX5_make_47 : decode cX5_make 47 = .ok (.aload_n 0, 1) := by decide +kernel
theorem dX5_make_48 : decode cX5_make 48 = .ok (.invokevirtual 174, 3) := by decide +kernel
theorem dX5_make_51 : decode cX5_make 51 = .ok (.aload_n 0, 1) := by decide +kernel
theorem dX5_make_52 : decode cX5_make 52 = .ok (.getfield 152, 3) := by decide +kernel
theorem dX5_make_55 : decode cX5_make 55 = .ok (.istore_n 3, 1) := by decide +kernel
theorem dX5_make_56 : decode cX5_make 56 = .ok (.aload_n 0, 1) := by decide +kernel
theorem dX5_make_57 : decode cX5_make 57 = .ok (.getfield 149, 3) := by decide +kernel
theorem dX5_make_60 : decode cX5_make 60 = .ok (.istore 4, 2) := by decide +kernel
theorem dX5_make_62 : decode cX5_make 62 = .ok (.iconst 0, 1) := by decide +kernel
theorem dX5_make_63 : decode cX5_make 63 = .ok (.istore 5, 2) := by decide +kernel
theorem dX5_make_65 : decode cX5_make 65 = .ok (.iconst 0, 1) := by decide +kernel
theorem dX5_make_66 : decode cX5_make 66 = .ok (.istore 6, 2) := by decide +kernel
theorem dX5_make_68 : decode cX5_make 68 = .ok (.iconst 0, 1) := by decide +kernel
theorem dX5_make_69 : decode cX5_make 69 = .ok (.istore 7, 2) := by decide +kernel
theorem dX5_make_71 : decode cX5_make 71 = .ok (.iload 7, 2) := by decide +kernel
theorem dX5_make_73 : decode cX5_make 73 = .ok (.aload_n 0, 1) := by decide +kernel
theorem dX5_make_74 : decode cX5_make 74 = .ok (.getfield 155, 3) := by decide +kernel
theorem dX5_make_77 : decode cX5_make 77 = .ok (.if_icmp .ge 232, 3) := by decide +kernel
theorem dX5_make_80 : decode cX5_make 80 = .ok (.iload_n 3, 1) := by decide +kernel
theorem dX5_make_81 : decode cX5_make 81 = .ok (.aload_n 0, 1) := by decide +kernel
theorem dX5_make_82 : decode cX5_make 82 = .ok (.iload 7, 2) := by decide +kernel
theorem dX5_make_84 : decode cX5_make 84 = .ok (.invokevirtual 158, 3) := by decide +kernel
theorem dX5_make_87 : decode cX5_make 87 = .ok (.aload_n 0, 1) := by decide +kernel
theorem dX5_make_88 : decode cX5_make 88 = .ok (.getfield 146, 3) := by decide +kernel
theorem dX5_make_91 : decode cX5_make 91 = .ok (.idiv, 1) := by decide +kernel
theorem dX5_make_92 : decode cX5_make 92 = .ok (.invokestatic 131, 3) := by decide +kernel
theorem dX5_make_95 : decode cX5_make 95 = .ok (.istore 8, 2) := by decide +kernel
theorem dX5_make_97 : decode cX5_make 97 = .ok (.iload 4, 2) := by decide +kernel
theorem dX5_make_99 : decode cX5_make 99 = .ok (.aload_n 0, 1) := by decide +kernel
theorem dX5_make_100 : decode cX5_make 100 = .ok (.iload 7, 2) := by decide +kernel
theorem dX5_make_102 : decode cX5_make 102 = .ok (.invokevirtual 158, 3) := by decide +kernel
theorem dX5_make_105 : decode cX5_make 105 = .ok (.iload 8, 2) := by decide +kernel
theorem dX5_make_107 : decode cX5_make 107 = .ok (.aload_n 0, 1) := by decide +kernel
theorem dX5_make_108 : decode cX5_make 108 = .ok (.getfield 146, 3) := by decide +kernel
theorem dX5_make_111 : decode cX5_make 111 = .ok (.imul, 1) := by decide +kernel
theorem dX5_make_112 : decode cX5_make 112 = .ok (.isub, 1) := by decide +kernel
theorem dX5_make_113 : decode cX5_make 113 = .ok (.aload_n 0, 1) := by decide +kernel
theorem dX5_make_114 : decode cX5_make 114 = .ok (.getfield 143, 3) := by decide +kernel
theorem dX5_make_117 : decode cX5_make 117 = .ok (.idiv, 1) := by decide +kernel
theorem dX5_make_118 : decode cX5_make 118 = .ok (.invokestatic 131, 3) := by decide +kernel
theorem dX5_make_121 : decode cX5_make 121 = .ok (.istore 9, 2) := by decide +kernel
theorem dX5_make_123 : decode cX5_make 123 = .ok (.aload_n 0, 1) := by decide +kernel
theorem dX5_make_124 : decode cX5_make 124 = .ok (.iload 7, 2) := by decide +kernel
theorem dX5_make_126 : decode cX5_make 126 = .ok (.iconst 1, 1) := by decide +kernel
theorem dX5_make_127 : decode cX5_make 127 = .ok (.iadd, 1) := by decide +kernel
theorem dX5_make_128 : decode cX5_make 128 = .ok (.iload_n 3, 1) := by decide +kernel
theorem dX5_make_129 : decode cX5_make 129 = .ok (.iload 8, 2) := by decide +kernel
theorem dX5_make_131 : decode cX5_make 131 = .ok (.isub, 1) := by decide +kernel
theorem dX5_make_132 : decode cX5_make 132 = .ok (.iload 4, 2) := by decide +kernel
theorem dX5_make_134 : decode cX5_make 134 = .ok (.iload 9, 2) := by decide +kernel
theorem dX5_make_136 : decode cX5_make 136 = .ok (.isub, 1) := by decide +kernel
theorem dX5_make_137 : decode cX5_make 137 = .ok (.invokevirtual 177, 3) := by decide +kernel
theorem dX5_make_140 : decode cX5_make 140 = .ok (.ifCond .ne 35, 3) := by decide +kernel
theorem dX5_make_143 : decode cX5_make 143 = .ok (.iinc 8 (-1), 3) := by decide +kernel
theorem dX5_make_146 : decode cX5_make 146 = .ok (.iload 4, 2) := by decide +kernel
theorem dX5_make_148 : decode cX5_make 148 = .ok (.aload_n 0, 1) := by decide +kernel
theorem dX5_make_149 : decode cX5_make 149 = .ok (.iload 7, 2) := by decide +kernel
theorem dX5_make_151 : decode cX5_make 151 = .ok (.invokevirtual 158, 3) := by decide +kernel
theorem dX5_make_154 : decode cX5_make 154 = .ok (.iload 8, 2) := by decide +kernel
theorem dX5_make_156 : decode cX5_make 156 = .ok (.aload_n 0, 1) := by decide +kernel
theorem dX5_make_157 : decode cX5_make 157 = .ok (.getfield 146, 3) := by decide +kernel
theorem dX5_make_160 : decode cX5_make 160 = .ok (.imul, 1) := by decide +kernel
theorem dX5_make_161 : decode cX5_make 161 = .ok (.isub, 1) := by decide +kernel
theorem dX5_make_162 : decode cX5_make 162 = .ok (.aload_n 0, 1) := by decide +kernel
theorem dX5_make_163 : decode cX5_make 163 = .ok (.getfield 143, 3) := by decide +kernel
theorem dX5_make_166 : decode cX5_make 166 = .ok (.idiv, 1) := by decide +kernel
theorem dX5_make_167 : decode cX5_make 167 = .ok (.invokestatic 131, 3) := by decide +kernel
theorem dX5_make_170 : decode cX5_make 170 = .ok (.istore 9, 2) := by decide +kernel
theorem dX5_make_172 : decode cX5_make 172 = .ok (.goto (-49), 3) := by decide +kernel
theorem dX5_make_175 : decode cX5_make 175 = .ok (.iconst 0, 1) := by decide +kernel
theorem dX5_make_176 : decode cX5_make 176 = .ok (.istore 10, 2) := by decide +kernel
theorem dX5_make_178 : decode cX5_make 178 = .ok (.iload 10, 2) := by decide +kernel
theorem dX5_make_180 : decode cX5_make 180 = .ok (.iload 8, 2) := by decide +kernel
theorem dX5_make_182 : decode cX5_make 182 = .ok (.if_icmp .ge 26, 3) := by decide +kernel
theorem dX5_make_185 : decode cX5_make 185 = .ok (.aload_n 0, 1) := by decide +kernel
theorem dX5_make_186 : decode cX5_make 186 = .ok (.getfield 80, 3) := by decide +kernel
theorem dX5_make_189 : decode cX5_make 189 = .ok (.iload 5, 2) := by decide +kernel
theorem dX5_make_191 : decode cX5_make 191 = .ok (.iload 10, 2) := by decide +kernel
theorem dX5_make_193 : decode cX5_make 193 = .ok (.iadd, 1) := by decide +kernel
theorem dX5_make_194 : decode cX5_make 194 = .ok (.aload_n 0, 1) := by decide +kernel
theorem dX5_make_195 : decode cX5_make 195 = .ok (.getfield 62, 3) := by decide +kernel
theorem dX5_make_198 : decode cX5_make 198 = .ok (.iload 7, 2) := by decide +kernel
theorem dX5_make_200 : decode cX5_make 200 = .ok (.iaload, 1) := by decide +kernel
theorem dX5_make_201 : decode cX5_make 201 = .ok (.iastore, 1) := by decide +kernel
theorem dX5_make_202 : decode cX5_make 202 = .ok (.iinc 10 1, 3) := by decide +kernel
theorem dX5_make_205 : decode cX5_make 205 = .ok (.goto (-27), 3) := by decide +kernel
theorem dX5_make_208 : decode cX5_make 208 = .ok (.iconst 0, 1) := by decide +kernel
theorem dX5_make_209 : decode cX5_make 209 = .ok (.istore 10, 2) := by decide +kernel
theorem dX5_make_211 : decode cX5_make 211 = .ok (.iload 10, 2) := by decide +kernel
theorem dX5_make_213 : decode cX5_make 213 = .ok (.iload 9, 2) := by decide +kernel
theorem dX5_make_215 : decode cX5_make 215 = .ok (.if_icmp .ge 29, 3) := by decide +kernel
theorem dX5_make_218 : decode cX5_make 218 = .ok (.aload_n 0, 1) := by decide +kernel
theorem dX5_make_219 : decode cX5_make 219 = .ok (.getfield 80, 3) := by decide +kernel
theorem dX5_make_222 : decode cX5_make 222 = .ok (.bipush 40, 2) := by decide +kernel
theorem dX5_make_224 : decode cX5_make 224 = .ok (.iload 6, 2) := by decide +kernel
theorem dX5_make_226 : decode cX5_make 226 = .ok (.iadd, 1) := by decide +kernel
theorem dX5_make_227 : decode cX5_make 227 = .ok (.iload 10, 2) := by decide +kernel
theorem dX5_make_229 : decode cX5_make 229 = .ok (.iadd, 1) := by decide +kernel
theorem dX5_make_230 : decode cX5_make 230 = .ok (.aload_n 0, 1) := by decide +kernel
theorem dX5_make_231 : decode cX5_make 231 = .ok (.getfield 62, 3) := by decide +kernel
theorem dX5_make_234 : decode cX5_make 234 = .ok (.iload 7, 2) := by decide +kernel
theorem dX5_make_236 : decode cX5_make 236 = .ok (.iaload, 1) := by decide +kernel
theorem dX5_make_237 : decode cX5_make 237 = .ok (.iastore, 1) := by decide +kernel
theorem dX5_make_238 : decode cX5_make 238 = .ok (.iinc 10 1, 3) := by decide +kernel
theorem dX5_make_241 : decode cX5_make 241 = .ok (.goto (-30), 3) := by decide +kernel
theorem dX5_make_244 : decode cX5_make 244 = .ok (.iload 5, 2) := by decide +kernel
theorem dX5_make_246 : decode cX5_make 246 = .ok (.iload 8, 2) := by decide +kernel
theorem dX5_make_248 : decode cX5_make 248 = .ok (.iadd, 1) := by decide +kernel
theorem dX5_make_249 : decode cX5_make 249 = .ok (.istore 5, 2) := by decide +kernel
theorem dX5_make_251 : decode cX5_make 251 = .ok (.iload 6, 2) := by decide +kernel
theorem dX5_make_253 : decode cX5_make 253 = .ok (.iload 9, 2) := by decide +kernel
theorem dX5_make_255 : decode cX5_make 255 = .ok (.iadd, 1) := by decide +kernel
theorem dX5_make_256 : decode cX5_make 256 = .ok (.istore 6, 2) := by decide +kernel
theorem dX5_make_258 : decode cX5_make 258 = .ok (.iload_n 3, 1) := by decide +kernel
theorem dX5_make_259 : decode cX5_make 259 = .ok (.iload 8, 2) := by decide +kernel
theorem dX5_make_261 : decode cX5_make 261 = .ok (.isub, 1) := by decide +kernel
theorem dX5_make_262 : decode cX5_make 262 = .ok (.istore_n 3, 1) := by decide +kernel
theorem dX5_make_263 : decode cX5_make 263 = .ok (.iload 4, 2) := by decide +kernel
theorem dX5_make_265 : decode cX5_make 265 = .ok (.iload 9, 2) := by decide +kernel
theorem dX5_make_267 : decode cX5_make 267 = .ok (.isub, 1) := by decide +kernel
theorem dX5_make_268 : decode cX5_make 268 = .ok (.istore 4, 2) := by decide +kernel
theorem dX5_make_270 : decode cX5_make 270 = .ok (.aload_n 0, 1) := by decide +kernel
theorem dX5_make_271 : decode cX5_make 271 = .ok (.aload_n 0, 1) := by decide +kernel
theorem dX5_make_272 : decode cX5_make 272 = .ok (.getfield 62, 3) := by decide +kernel
theorem dX5_make_275 : decode cX5_make 275 = .ok (.iload 7, 2) := by decide +kernel
theorem dX5_make_277 : decode cX5_make 277 = .ok (.iaload, 1) := by decide +kernel
theorem dX5_make_278 : decode cX5_make 278 = .ok (.aload_n 0, 1) := by decide +kernel
theorem dX5_make_279 : decode cX5_make 279 = .ok (.getfield 65, 3) := by decide +kernel
theorem dX5_make_282 : decode cX5_make 282 = .ok (.iload 7, 2) := by decide +kernel
theorem dX5_make_284 : decode cX5_make 284 = .ok (.iaload, 1) := by decide +kernel
theorem dX5_make_285 : decode cX5_make 285 = .ok (.iload 8, 2) := by decide +kernel
theorem dX5_make_287 : decode cX5_make 287 = .ok (.aload_n 0, 1) := by decide +kernel
theorem dX5_make_288 : decode cX5_make 288 = .ok (.getfield 146, 3) := by decide +kernel
theorem dX5_make_291 : decode cX5_make 291 = .ok (.imul, 1) := by decide +kernel
theorem dX5_make_292 : decode cX5_make 292 = .ok (.iload 9, 2) := by decide +kernel
theorem dX5_make_294 : decode cX5_make 294 = .ok (.aload_n 0, 1) := by decide +kernel
theorem dX5_make_295 : decode cX5_make 295 = .ok (.getfield 143, 3) := by decide +kernel
theorem dX5_make_298 : decode cX5_make 298 = .ok (.imul, 1) := by decide +kernel
theorem dX5_make_299 : decode cX5_make 299 = .ok (.iadd, 1) := by decide +kernel
theorem dX5_make_300 : decode cX5_make 300 = .ok (.invokevirtual 187, 3) := by decide +kernel
theorem dX5_make_303 : decode cX5_make 303 = .ok (.iinc 7 1, 3) := by decide +kernel
theorem dX5_make_306 : decode cX5_make 306 = .ok (.goto (-235), 3) := by decide +kernel
theorem dX5_make_309 : decode cX5_make 309 = .ok (.iconst 0, 1) := by decide +kernel
theorem dX5_make_310 : decode cX5_make 310 = .ok (.istore 7, 2) := by decide +kernel
theorem dX5_make_312 : decode cX5_make 312 = .ok (.iload 7, 2) := by decide +kernel
theorem dX5_make_314 : decode cX5_make 314 = .ok (.aload_n 0, 1) := by decide +kernel
theorem dX5_make_315 : decode cX5_make 315 = .ok (.getfield 122, 3) := by decide +kernel
theorem dX5_make_318 : decode cX5_make 318 = .ok (.if_icmp .ge 15, 3) := by decide +kernel
theorem dX5_make_321 : decode cX5_make 321 = .ok (.aload_n 0, 1) := by decide +kernel
theorem dX5_make_322 : decode cX5_make 322 = .ok (.iload 7, 2) := by decide +kernel
theorem dX5_make_324 : decode cX5_make 324 = .ok (.invokevirtual 191, 3) := by decide +kernel
theorem dX5_make_327 : decode cX5_make 327 = .ok (.iinc 7 1, 3) := by decide +kernel
theorem dX5_make_330 : decode cX5_make 330 = .ok (.goto (-18), 3) := by decide +kernel
theorem dX5_make_333 : decode cX5_make 333 = .ok (.iconst 0, 1) := by decide +kernel
theorem dX5_make_334 : decode cX5_make 334 = .ok (.istore 5, 2) := by decide +kernel
theorem dX5_make_336 : decode cX5_make 336 = .ok (.iconst 0, 1) := by decide +kernel
theorem dX5_make_337 : decode cX5_make 337 = .ok (.istore 6, 2) := by decide +kernel
theorem dX5_make_339 : decode cX5_make 339 = .ok (.iconst 0, 1) := by decide +kernel
theorem dX5_make_340 : decode cX5_make 340 = .ok (.istore 7, 2) := by decide +kernel
theorem dX5_make_342 : decode cX5_make 342 = .ok (.iload 7, 2) := by decide +kernel
theorem dX5_make_344 : decode cX5_make 344 = .ok (.aload_n 0, 1) := by decide +kernel
theorem dX5_make_345 : decode cX5_make 345 = .ok (.getfield 19, 3) := by decide +kernel
theorem dX5_make_348 : decode cX5_make 348 = .ok (.iload_n 1, 1) := by decide +kernel
theorem dX5_make_349 : decode cX5_make 349 = .ok (.iaload, 1) := by decide +kernel
theorem dX5_make_350 : decode cX5_make 350 = .ok (.if_icmp .ge 110, 3) := by decide +kernel
theorem dX5_make_353 : decode cX5_make 353 = .ok (.aload_n 0, 1) := by decide +kernel
theorem dX5_make_354 : decode cX5_make 354 = .ok (.iload_n 1, 1) := by decide +kernel
theorem dX5_make_355 : decode cX5_make 355 = .ok (.iload 7, 2) := by decide +kernel
theorem dX5_make_357 : decode cX5_make 357 = .ok (.aload_n 0, 1) := by decide +kernel
theorem dX5_make_358 : decode cX5_make 358 = .ok (.getfield 9, 3) := by decide +kernel
theorem dX5_make_361 : decode cX5_make 361 = .ok (.iload_n 1, 1) := by decide +kernel
theorem dX5_make_362 : decode cX5_make 362 = .ok (.iaload, 1) := by decide +kernel
theorem dX5_make_363 : decode cX5_make 363 = .ok (.iconst 2, 1) := by decide +kernel
theorem dX5_make_364 : decode cX5_make 364 = .ok (.idiv, 1) := by decide +kernel
theorem dX5_make_365 : decode cX5_make 365 = .ok (.invokevirtual 106, 3) := by decide +kernel
theorem dX5_make_368 : decode cX5_make 368 = .ok (.iconst 2, 1) := by decide +kernel
theorem dX5_make_369 : decode cX5_make 369 = .ok (.iadd, 1) := by decide +kernel
theorem dX5_make_370 : decode cX5_make 370 = .ok (.aload_n 0, 1) := by decide +kernel
theorem dX5_make_371 : decode cX5_make 371 = .ok (.getfield 146, 3) := by decide +kernel
theorem dX5_make_374 : decode cX5_make 374 = .ok (.if_icmp .ne 7, 3) := by decide +kernel
theorem dX5_make_377 : decode cX5_make 377 = .ok (.iconst 1, 1) := by decide +kernel
theorem dX5_make_378 : decode cX5_make 378 = .ok (.goto 4, 3) := by decide +kernel
theorem dX5_make_381 : decode cX5_make 381 = .ok (.iconst 0, 1) := by decide +kernel
theorem dX5_make_382 : decode cX5_make 382 = .ok (.istore 8, 2) := by decide +kernel
theorem dX5_make_384 : decode cX5_make 384 = .ok (.aload_n 0, 1) := by decide +kernel
theorem dX5_make_385 : decode cX5_make 385 = .ok (.getfield 37, 3) := by decide +kernel
theorem dX5_make_388 : decode cX5_make 388 = .ok (.bipush 40, 2) := by decide +kernel
theorem dX5_make_390 : decode cX5_make 390 = .ok (.aload_n 0, 1) := by decide +kernel
theorem dX5_make_391 : decode cX5_make 391 = .ok (.getfield 184, 3) := by decide +kernel
theorem dX5_make_394 : decode cX5_make 394 = .ok (.imul, 1) := by decide +kernel
theorem dX5_make_395 : decode cX5_make 395 = .ok (.iload 7, 2) := by decide +kernel
theorem dX5_make_397 : decode cX5_make 397 = .ok (.iadd, 1) := by decide +kernel
theorem dX5_make_398 : decode cX5_make 398 = .ok (.iload 8, 2) := by decide +kernel
theorem dX5_make_400 : decode cX5_make 400 = .ok (.ifCond .eq 13, 3) := by decide +kernel
theorem dX5_make_403 : decode cX5_make 403 = .ok (.aload_n 0, 1) := by decide +kernel
theorem dX5_make_404 : decode cX5_make 404 = .ok (.getfield 80, 3) := by decide +kernel
theorem dX5_make_407 : decode cX5_make 407 = .ok (.iload 5, 2) := by decide +kernel
theorem dX5_make_409 : decode cX5_make 409 = .ok (.iaload, 1) := by decide +kernel
theorem dX5_make_410 : decode cX5_make 410 = .ok (.goto 13, 3) := by decide +kernel
theorem dX5_make_413 : decode cX5_make 413 = .ok (.aload_n 0, 1) := by decide +kernel
theorem dX5_make_414 : decode cX5_make 414 = .ok (.getfield 80, 3) := by decide +kernel
theorem dX5_make_417 : decode cX5_make 417 = .ok (.bipush 40, 2) := by decide +kernel
theorem dX5_make_419 : decode cX5_make 419 = .ok (.iload 6, 2) := by decide +kernel
theorem dX5_make_421 : decode cX5_make 421 = .ok (.iadd, 1) := by decide +kernel
theorem dX5_make_422 : decode cX5_make 422 = .ok (.iaload, 1) := by decide +kernel
theorem dX5_make_423 : decode cX5_make 423 = .ok (.iastore, 1) := by decide +kernel
theorem dX5_make_424 : decode cX5_make 424 = .ok (.iload 8, 2) := by decide +kernel
theorem dX5_make_426 : decode cX5_make 426 = .ok (.ifCond .eq 9, 3) := by decide +kernel
theorem dX5_make_429 : decode cX5_make 429 = .ok (.iinc 5 1, 3) := by decide +kernel
theorem dX5_make_432 : decode cX5_make 432 = .ok (.goto 6, 3) := by decide +kernel
theorem dX5_make_435 : decode cX5_make 435 = .ok (.iinc 6 1, 3) := by decide +kernel
theorem dX5_make_438 : decode cX5_make 438 = .ok (.aload_n 0, 1) := by decide +kernel
theorem dX5_make_439 : decode cX5_make 439 = .ok (.getfield 40, 3) := by decide +kernel
theorem dX5_make_442 : decode cX5_make 442 = .ok (.bipush 40, 2) := by decide +kernel
theorem dX5_make_444 : decode cX5_make 444 = .ok (.aload_n 0, 1) := by decide +kernel
theorem dX5_make_445 : decode cX5_make 445 = .ok (.getfield 184, 3) := by decide +kernel
theorem dX5_make_448 : decode cX5_make 448 = .ok (.imul, 1) := by decide +kernel
theorem dX5_make_449 : decode cX5_make 449 = .ok (.iload 7, 2) := by decide +kernel
theorem dX5_make_451 : decode cX5_make 451 = .ok (.iadd, 1) := by decide +kernel
theorem dX5_make_452 : decode cX5_make 452 = .ok (.iconst 0, 1) := by decide +kernel
theorem dX5_make_453 : decode cX5_make 453 = .ok (.iastore, 1) := by decide +kernel
theorem dX5_make_454 : decode cX5_make 454 = .ok (.iinc 7 1, 3) := by decide +kernel
theorem dX5_make_457 : decode cX5_make 457 = .ok (.goto (-115), 3) := by decide +kernel
theorem dX5_make_460 : decode cX5_make 460 = .ok (.aload_n 0, 1) := by decide +kernel
theorem dX5_make_461 : decode cX5_make 461 = .ok (.getfield 34, 3) := by decide +kernel
theorem dX5_make_464 : decode cX5_make 464 = .ok (.aload_n 0, 1) := by decide +kernel
theorem dX5_make_465 : decode cX5_make 465 = .ok (.getfield 184, 3) := by decide +kernel
theorem dX5_make_468 : decode cX5_make 468 = .ok (.iload_n 1, 1) := by decide +kernel
theorem dX5_make_469 : decode cX5_make 469 = .ok (.iastore, 1) := by decide +kernel
theorem dX5_make_470 : decode cX5_make 470 = .ok (.aload_n 0, 1) := by decide +kernel
theorem dX5_make_471 : decode cX5_make 471 = .ok (.getfield 43, 3) := by decide +kernel
theorem dX5_make_474 : decode cX5_make 474 = .ok (.aload_n 0, 1) := by decide +kernel
theorem dX5_make_475 : decode cX5_make 475 = .ok (.getfield 184, 3) := by decide +kernel
theorem dX5_make_478 : decode cX5_make 478 = .ok (.iconst 0, 1) := by decide +kernel
theorem dX5_make_479 : decode cX5_make 479 = .ok (.iastore, 1) := by decide +kernel
theorem dX5_make_480 : decode cX5_make 480 = .ok (.aload_n 0, 1) := by decide +kernel
theorem dX5_make_481 : decode cX5_make 481 = .ok (.dup, 1) := by decide +kernel
theorem dX5_make_482 : decode cX5_make 482 = .ok (.getfield 184, 3) := by decide +kernel
theorem dX5_make_485 : decode cX5_make 485 = .ok (.iconst 1, 1) := by decide +kernel
theorem dX5_make_486 : decode cX5_make 486 = .ok (.iadd, 1) := by decide +kernel
theorem dX5_make_487 : decode cX5_make 487 = .ok (.putfield 184, 3) := by decide +kernel
theorem dX5_make_490 : decode cX5_make 490 = .ok (.aload_n 0, 1) := by decide +kernel
theorem dX5_make_491 : decode cX5_make 491 = .ok (.getfield 184, 3) := by decide +kernel
theorem dX5_make_494 : decode cX5_make 494 = .ok (.iconst 1, 1) := by decide +kernel
theorem dX5_make_495 : decode cX5_make 495 = .ok (.isub, 1) := by decide +kernel
theorem dX5_make_496 : decode cX5_make 496 = .ok (.ireturn, 1) := by decide +kernel
theorem dX5_isCask_0 : decode cX5_isCask 0 = .ok (.iload_n 1, 1) := by decide +kernel
theorem dX5_isCask_1 : decode cX5_isCask 1 = .ok (.ifCond .lt 15, 3) := by decide +kernel
theorem dX5_isCask_4 : decode cX5_isCask 4 = .ok (.iload_n 1, 1) := by decide +kernel
theorem dX5_isCask_5 : decode cX5_isCask 5 = .ok (.aload_n 0, 1) := by decide +kernel
theorem dX5_isCask_6 : decode cX5_isCask 6 = .ok (.getfield 184, 3) := by decide +kernel
theorem dX5_isCask_9 : decode cX5_isCask 9 = .ok (.if_icmp .ge 7, 3) := by decide +kernel
theorem dX5_isCask_12 : decode cX5_isCask 12 = .ok (.iconst 1, 1) := by decide +kernel
theorem dX5_isCask_13 : decode cX5_isCask 13 = .ok (.goto 4, 3) := by decide +kernel
theorem dX5_isCask_16 : decode cX5_isCask 16 = .ok (.iconst 0, 1) := by decide +kernel
theorem dX5_isCask_17 : decode cX5_isCask 17 = .ok (.ireturn, 1) := by decide +kernel
set_option maxRecDepth 20000 in
theorem ggX5_isStave_X5_isCask : GoodIn wsX5_isStave wsX5_isCask := goodIn_r _ [7, 8, 9, 10, 11, 12, 13, 14, 15, 16, 17, 18, 19, 20, 21, 22, 23, 24, 25, 26, 27, 28, 29, 30, 31, 32, 33, 34, 35, 36, 37, 38, 39, 40, 41, 42] (by decide +kernel) (by decide +kernel)
set_option maxRecDepth 20000 in
theorem gX5_isStave_X5_isCask : GoodIn wsX5_isStave (wsV RX5 194 RX5 yX5_isCask wsX5_isCask) := goodIn_app (goodIn_of _ (by decide +kernel)) ggX5_isStave_X5_isCask
theorem dX5_isStave_0 : decode cX5_isStave 0 = .ok (.aload_n 0, 1) := by decide +kernel
theorem dX5_isStave_1 : decode cX5_isStave 1 = .ok (.iload_n 1, 1) := by decide +kernel
theorem dX5_isStave_2 : decode cX5_isStave 2 = .ok (.invokevirtual 194, 3) := by decide +kernel
theorem dX5_isStave_5 : decode cX5_isStave 5 = .ok (.ifCond .eq 26, 3) := by decide +kernel
theorem dX5_isStave_8 : decode cX5_isStave 8 = .ok (.iload_n 2, 1) := by decide +kernel
theorem dX5_isStave_9 : decode cX5_isStave 9 = .ok (.ifCond .lt 22, 3) := by decide +kernel
theorem dX5_isStave_12 : decode cX5_isStave 12 = .ok (.iload_n 2, 1) := by decide +kernel
theorem dX5_isStave_13 : decode cX5_isStave 13 = .ok (.aload_n 0, 1) := by decide +kernel
theorem dX5_isStave_14 : decode cX5_isStave 14 = .ok (.getfield 19, 3) := by decide +kernel
theorem dX5_isStave_17 : decode cX5_isStave 17 = .ok (.aload_n 0, 1) := by decide +kernel
theorem dX5_isStave_18 : decode cX5_isStave 18 = .ok (.getfield 34, 3) := by decide +kernel
theorem dX5_isStave_21 : decode cX5_isStave 21 = .ok (.iload_n 1, 1) := by decide +kernel
theorem dX5_isStave_22 : decode cX5_isStave 22 = .ok (.iaload, 1) := by decide +kernel
theorem dX5_isStave_23 : decode cX5_isStave 23 = .ok (.iaload, 1) := by decide +kernel
theorem dX5_isStave_24 : decode cX5_isStave 24 = .ok (.if_icmp .ge 7, 3) := by decide +kernel
theorem dX5_isStave_27 : decode cX5_isStave 27 = .ok (.iconst 1, 1) := by decide +kernel
theorem dX5_isStave_28 : decode cX5_isStave 28 = .ok (.goto 4, 3) := by decide +kernel
theorem dX5_isStave_31 : decode cX5_isStave 31 = .ok (.iconst 0, 1) := by decide +kernel
theorem dX5_isStave_32 : decode cX5_isStave 32 = .ok (.ireturn, 1) := by decide +kernel
set_option maxRecDepth 20000 in
theorem ggX5_middle_X5_widthOf : GoodIn wsX5_middle wsX5_widthOf := goodIn_r _ [7, 8, 9, 10, 11, 6, 12, 2, 13, 14, 15, 16, 17, 18, 19, 20, 21, 22, 23, 24, 25, 26, 27, 28, 29, 30, 31, 32, 33, 34, 35, 36, 37, 38, 39, 40, 41, 42, 43, 44, 45, 46, 47, 48] (by decide +kernel) (by decide +kernel)
set_option maxRecDepth 20000 in
theorem gX5_middle_X5_widthOf : GoodIn wsX5_middle (wsV RX5 106 RX5 yX5_widthOf wsX5_widthOf) := goodIn_app (goodIn_of _ (by decide +kernel)) ggX5_middle_X5_widthOf
theorem dX5_middle_0 : decode cX5_middle 0 = .ok (.aload_n 0, 1) := by decide +kernel
theorem dX5_middle_1 : decode cX5_middle 1 = .ok (.aload_n 0, 1) := by decide +kernel
theorem dX5_middle_2 : decode cX5_middle 2 = .ok (.getfield 34, 3) := by decide +kernel
theorem dX5_middle_5 : decode cX5_middle 5 = .ok (.iload_n 1, 1) := by decide +kernel
theorem dX5_middle_6 : decode cX5_middle 6 = .ok (.iaload, 1) := by decide +kernel
theorem dX5_middle_7 : decode cX5_middle 7 = .ok (.iload_n 2, 1) := by decide +kernel
theorem dX5_middle_8 : decode cX5_middle 8 = .ok (.aload_n 0, 1) := by decide +kernel
theorem dX5_middle_9 : decode cX5_middle 9 = .ok (.getfield 9, 3) := by decide +kernel
theorem dX5_middle_12 : decode cX5_middle 12 = .ok (.aload_n 0, 1) := by decide +kernel
theorem dX5_middle_13 : decode cX5_middle 13 = .ok (.getfield 34, 3) := by decide +kernel
theorem dX5_middle_16 : decode cX5_middle 16 = .ok (.iload_n 1, 1) := by decide +kernel
theorem dX5_middle_17 : decode cX5_middle 17 = .ok (.iaload, 1) := by decide +kernel
theorem dX5_middle_18 : decode cX5_middle 18 = .ok (.iaload, 1) := by decide +kernel
theorem dX5_middle_19 : decode cX5_middle 19 = .ok (.iconst 2, 1) := by decide +kernel
theorem dX5_middle_20 : decode cX5_middle 20 = .ok (.idiv, 1) := by decide +kernel
theorem dX5_middle_21 : decode cX5_middle 21 = .ok (.invokevirtual 106, 3) := by decide +kernel
theorem dX5_middle_24 : decode cX5_middle 24 = .ok (.ireturn, 1) := by decide +kernel
set_option maxRecDepth 20000 in
theorem ggX5_stave_X5_isStave : GoodIn wsX5_stave wsX5_isStave := goodIn_r _ [8, 9, 10, 11, 12, 13, 7, 14, 15, 35, 36, 37, 38, 39, 40, 41, 42, 43, 44, 45, 46, 47, 48, 49, 50, 51, 52, 53, 54, 55, 56, 57, 58, 59, 60, 61, 62, 63, 64, 65, 66, 67, 68] (by decide +kernel) (by decide +kernel)
set_option maxRecDepth 20000 in
theorem gX5_stave_X5_isStave : GoodIn wsX5_stave (wsV RX5 197 RX5 yX5_isStave wsX5_isStave) := goodIn_app (goodIn_of _ (by decide +kernel)) ggX5_stave_X5_isStave
set_option maxRecDepth 20000 in
theorem ggX5_stave_X5_fail : GoodIn wsX5_stave wsX5_fail := goodIn_r _ [19, 1, 35, 36, 37, 38, 39, 40, 41, 42, 43, 44, 45, 46, 47, 48, 49, 50, 51, 52, 53, 54, 55, 56, 57, 58, 59, 60, 61, 62, 63, 64, 65, 66, 67, 68] (by decide +kernel) (by decide +kernel)
set_option maxRecDepth 20000 in
theorem gX5_stave_X5_fail : GoodIn wsX5_stave (wsV RX5 94 RX5 yX5_fail wsX5_fail) := goodIn_app (goodIn_of _ (by decide +kernel)) ggX5_stave_X5_fail
set_option maxRecDepth 20000 in
theorem ggX5_stave_X5_middle : GoodIn wsX5_stave wsX5_middle := goodIn_r _ [23, 10, 24, 25, 26, 27, 7, 28, 9, 29, 30, 31, 32, 33, 34, 35, 36, 37, 38, 39, 40, 41, 42, 43, 44, 45, 46, 47, 48, 49, 50, 51, 52, 53, 54, 55, 56, 57, 58, 59, 60, 61, 62, 63, 64, 65, 66, 67, 68] (by decide +kernel) (by decide +kernel)
set_option maxRecDepth 20000 in
theorem gX5_stave_X5_middle : GoodIn wsX5_stave (wsV RX5 200 RX5 yX5_middle wsX5_middle) := goodIn_app (goodIn_of _ (by decide +kernel)) ggX5_stave_X5_middle
theorem dX5_stave_0 : decode cX5_stave 0 = .ok (.aload_n 0, 1) := by decide +kernel
theorem dX5_stave_1 : decode cX5_stave 1 = .ok (.iconst 0, 1) := by decide +kernel
theorem dX5_stave_2 : decode cX5_stave 2 = .ok (.putfield 83, 3) := by decide +kernel
theorem dX5_stave_5 : decode cX5_stave 5 = .ok (.aload_n 0, 1) := by decide +kernel
theorem dX5_stave_6 : decode cX5_stave 6 = .ok (.iload_n 1, 1) := by decide +kernel
theorem dX5_stave_7 : decode cX5_stave 7 = .ok (.iload_n 2, 1) := by decide +kernel
theorem dX5_stave_8 : decode cX5_stave 8 = .ok (.invokevirtual 197, 3) := by decide +kernel
theorem dX5_stave_11 : decode cX5_stave 11 = .ok (.ifCond .eq 12, 3) := by decide +kernel
theorem dX5_stave_14 : decode cX5_stave 14 = .ok (.iload_n 3, 1) := by decide +kernel
theorem dX5_stave_15 : decode cX5_stave 15 = .ok (.ifCond .lt 8, 3) := by decide +kernel
theorem dX5_stave_18 : decode cX5_stave 18 = .ok (.iload_n 3, 1) := by decide +kernel
theorem dX5_stave_19 : decode cX5_stave 19 = .ok (.iconst 2, 1) := by decide +kernel
theorem dX5_stave_20 : decode cX5_stave 20 = .ok (.if_icmp .le 9, 3) := by decide +kernel
theorem dX5_stave_23 : decode cX5_stave 23 = .ok (.aload_n 0, 1) := by decide +kernel
theorem dX5_stave_24 : decode cX5_stave 24 = .ok (.iconst 1, 1) := by decide +kernel
theorem dX5_stave_25 : decode cX5_stave 25 = .ok (.invokevirtual 94, 3) := by decide +kernel
theorem dX5_stave_28 : decode cX5_stave 28 = .ok (.ireturn, 1) := by decide +kernel
theorem dX5_stave_29 : decode cX5_stave 29 = .ok (.iload_n 3, 1) := by decide +kernel
theorem dX5_stave_30 : decode cX5_stave 30 = .ok (.ifCond .ne 17, 3) := by decide +kernel
theorem dX5_stave_33 : decode cX5_stave 33 = .ok (.aload_n 0, 1) := by decide +kernel
theorem dX5_stave_34 : decode cX5_stave 34 = .ok (.getfield 37, 3) := by decide +kernel
theorem dX5_stave_37 : decode cX5_stave 37 = .ok (.bipush 40, 2) := by decide +kernel
theorem dX5_stave_39 : decode cX5_stave 39 = .ok (.iload_n 1, 1) := by decide +kernel
theorem dX5_stave_40 : decode cX5_stave 40 = .ok (.imul, 1) := by decide +kernel
theorem dX5_stave_41 : decode cX5_stave 41 = .ok (.iload_n 2, 1) := by decide +kernel
theorem dX5_stave_42 : decode cX5_stave 42 = .ok (.iadd, 1) := by decide +kernel
theorem dX5_stave_43 : decode cX5_stave 43 = .ok (.iaload, 1) := by decide +kernel
theorem dX5_stave_44 : decode cX5_stave 44 = .ok (.goto 28, 3) := by decide +kernel
theorem dX5_stave_47 : decode cX5_stave 47 = .ok (.iload_n 3, 1) := by decide +kernel
theorem dX5_stave_48 : decode cX5_stave 48 = .ok (.iconst 1, 1) := by decide +kernel
theorem dX5_stave_49 : decode cX5_stave 49 = .ok (.if_icmp .ne 17, 3) := by decide +kernel
theorem dX5_stave_52 : decode cX5_stave 52 = .ok (.aload_n 0, 1) := by decide +kernel
theorem dX5_stave_53 : decode cX5_stave 53 = .ok (.getfield 40, 3) := by decide +kernel
theorem dX5_stave_56 : decode cX5_stave 56 = .ok (.bipush 40, 2) := by decide +kernel
theorem dX5_stave_58 : decode cX5_stave 58 = .ok (.iload_n 1, 1) := by decide +kernel
theorem dX5_stave_59 : decode cX5_stave 59 = .ok (.imul, 1) := by decide +kernel
theorem dX5_stave_60 : decode cX5_stave 60 = .ok (.iload_n 2, 1) := by decide +kernel
theorem dX5_stave_61 : decode cX5_stave 61 = .ok (.iadd, 1) := by decide +kernel
theorem dX5_stave_62 : decode cX5_stave 62 = .ok (.iaload, 1) := by decide +kernel
theorem dX5_stave_63 : decode cX5_stave 63 = .ok (.goto 9, 3) := by decide +kernel
theorem dX5_stave_66 : decode cX5_stave 66 = .ok (.aload_n 0, 1) := by decide +kernel
theorem dX5_stave_67 : decode cX5_stave 67 = .ok (.iload_n 1, 1) := by decide +kernel
theorem dX5_stave_68 : decode cX5_stave 68 = .ok (.iload_n 2, 1) := by decide +kernel
theorem dX5_stave_69 : decode cX5_stave 69 = .ok (.invokevirtual 200, 3) := by decide +kernel
theorem dX5_stave_72 : decode cX5_stave 72 = .ok (.ireturn, 1) := by decide +kernel
set_option maxRecDepth 20000 in
theorem ggX5_formOf_X5_isCask : GoodIn wsX5_formOf wsX5_isCask := goodIn_r _ [7, 8, 13, 14, 15, 16, 17, 18, 19, 20, 21, 22, 23, 24, 25, 26, 27, 28, 29, 30, 31, 32, 33, 34, 35, 36, 37, 38, 39, 40, 41, 42, 43, 44, 45, 46] (by decide +kernel) (by decide +kernel)
set_option maxRecDepth 20000 in
theorem gX5_formOf_X5_isCask : GoodIn wsX5_formOf (wsV RX5 194 RX5 yX5_isCask wsX5_isCask) := goodIn_app (goodIn_of _ (by decide +kernel)) ggX5_formOf_X5_isCask
set_option maxRecDepth 20000 in
theorem ggX5_formOf_X5_fail : GoodIn wsX5_formOf wsX5_fail := goodIn_r _ [12, 1, 13, 14, 15, 16, 17, 18, 19, 20, 21, 22, 23, 24, 25, 26, 27, 28, 29, 30, 31, 32, 33, 34, 35, 36, 37, 38, 39, 40, 41, 42, 43, 44, 45, 46] (by decide +kernel) (by decide +kernel)
set_option maxRecDepth 20000 in
theorem gX5_formOf_X5_fail : GoodIn wsX5_formOf (wsV RX5 94 RX5 yX5_fail wsX5_fail) := goodIn_app (goodIn_of _ (by decide +kernel)) ggX5_formOf_X5_fail
theorem dX5_formOf_0 : decode cX5_formOf 0 = .ok (.aload_n 0, 1) := by decide +kernel
theorem dX5_formOf_1 : decode cX5_formOf 1 = .ok (.iconst 0, 1) := by decide +kernel
theorem dX5_formOf_2 : decode cX5_formOf 2 = .ok (.putfield 83, 3) := by decide +kernel
theorem dX5_formOf_5 : decode cX5_formOf 5 = .ok (.aload_n 0, 1) := by decide +kernel
theorem dX5_formOf_6 : decode cX5_formOf 6 = .ok (.iload_n 1, 1) := by decide +kernel
theorem dX5_formOf_7 : decode cX5_formOf 7 = .ok (.invokevirtual 194, 3) := by decide +kernel
theorem dX5_formOf_10 : decode cX5_formOf 10 = .ok (.ifCond .eq 12, 3) := by decide +kernel
theorem dX5_formOf_13 : decode cX5_formOf 13 = .ok (.aload_n 0, 1) := by decide +kernel
theorem dX5_formOf_14 : decode cX5_formOf 14 = .ok (.getfield 34, 3) := by decide +kernel
theorem dX5_formOf_17 : decode cX5_formOf 17 = .ok (.iload_n 1, 1) := by decide +kernel
theorem dX5_formOf_18 : decode cX5_formOf 18 = .ok (.iaload, 1) := by decide +kernel
theorem dX5_formOf_19 : decode cX5_formOf 19 = .ok (.goto 8, 3) := by decide +kernel
theorem dX5_formOf_22 : decode cX5_formOf 22 = .ok (.aload_n 0, 1) := by decide +kernel
theorem dX5_formOf_23 : decode cX5_formOf 23 = .ok (.iconst 1, 1) := by decide +kernel
theorem dX5_formOf_24 : decode cX5_formOf 24 = .ok (.invokevirtual 94, 3) := by decide +kernel
theorem dX5_formOf_27 : decode cX5_formOf 27 = .ok (.ireturn, 1) := by decide +kernel
theorem dX5_isKind_0 : decode cX5_isKind 0 = .ok (.iload_n 0, 1) := by decide +kernel
theorem dX5_isKind_1 : decode cX5_isKind 1 = .ok (.ifCond .lt 13, 3) := by decide +kernel
theorem dX5_isKind_4 : decode cX5_isKind 4 = .ok (.iload_n 0, 1) := by decide +kernel
theorem dX5_isKind_5 : decode cX5_isKind 5 = .ok (.bipush 16, 2) := by decide +kernel
theorem dX5_isKind_7 : decode cX5_isKind 7 = .ok (.if_icmp .ge 7, 3) := by decide +kernel
theorem dX5_isKind_10 : decode cX5_isKind 10 = .ok (.iconst 1, 1) := by decide +kernel
theorem dX5_isKind_11 : decode cX5_isKind 11 = .ok (.goto 4, 3) := by decide +kernel
theorem dX5_isKind_14 : decode cX5_isKind 14 = .ok (.iconst 0, 1) := by decide +kernel
theorem dX5_isKind_15 : decode cX5_isKind 15 = .ok (.ireturn, 1) := by decide +kernel
set_option maxRecDepth 20000 in
theorem ggX5_bars_X5_isKind : GoodIn wsX5_bars wsX5_isKind := goodIn_r _ [6] (by decide +kernel) (by decide +kernel)
set_option maxRecDepth 20000 in
theorem gX5_bars_X5_isKind : GoodIn wsX5_bars (va_wsS RX5 203 yX5_isKind wsX5_isKind) := goodIn_app (goodIn_of _ (by decide +kernel)) ggX5_bars_X5_isKind
set_option maxRecDepth 20000 in
theorem ggX5_bars_X5_fail : GoodIn wsX5_bars wsX5_fail := goodIn_r _ [10, 1, 11, 12, 13, 14, 15, 16, 17, 18, 19, 20, 21, 22, 23, 24, 25, 26, 27, 28, 29, 30, 31, 32, 33, 34, 35, 36, 37, 38, 39, 40, 41, 42, 43, 44] (by decide +kernel) (by decide +kernel)
set_option maxRecDepth 20000 in
theorem gX5_bars_X5_fail : GoodIn wsX5_bars (wsV RX5 94 RX5 yX5_fail wsX5_fail) := goodIn_app (goodIn_of _ (by decide +kernel)) ggX5_bars_X5_fail
theorem dX5_bars_0 : decode cX5_bars 0 = .ok (.aload_n 0, 1) := by decide +kernel
theorem dX5_bars_1 : decode cX5_bars 1 = .ok (.iconst 0, 1) := by decide +kernel
theorem dX5_bars_2 : decode cX5_bars 2 = .ok (.putfield 83, 3) := by decide +kernel
theorem dX5_bars_5 : decode cX5_bars 5 = .ok (.iload_n 1, 1) := by decide +kernel
theorem dX5_bars_6 : decode cX5_bars 6 = .ok (.invokestatic 203, 3) := by decide +kernel
theorem dX5_bars_9 : decode cX5_bars 9 = .ok (.ifCond .eq 10, 3) := by decide +kernel
theorem dX5_bars_12 : decode cX5_bars 12 = .ok (.iload_n 2, 1) := by decide +kernel
theorem dX5_bars_13 : decode cX5_bars 13 = .ok (.invokestatic 203, 3) := by decide +kernel
theorem dX5_bars_16 : decode cX5_bars 16 = .ok (.ifCond .ne 11, 3) := by decide +kernel
theorem dX5_bars_19 : decode cX5_bars 19 = .ok (.aload_n 0, 1) := by decide +kernel
theorem dX5_bars_20 : decode cX5_bars 20 = .ok (.iconst 1, 1) := by decide +kernel
theorem dX5_bars_21 : decode cX5_bars 21 = .ok (.invokevirtual 94, 3) := by decide +kernel
theorem dX5_bars_24 : decode cX5_bars 24 = .ok (.pop, 1) := by decide +kernel
theorem dX5_bars_25 : decode cX5_bars 25 = .ok (.iconst 0, 1) := by decide +kernel
theorem dX5_bars_26 : decode cX5_bars 26 = .ok (.ireturn, 1) := by decide +kernel
theorem dX5_bars_27 : decode cX5_bars 27 = .ok (.aload_n 0, 1) := by decide +kernel
theorem dX5_bars_28 : decode cX5_bars 28 = .ok (.getfield 55, 3) := by decide +kernel
theorem dX5_bars_31 : decode cX5_bars 31 = .ok (.bipush 16, 2) := by decide +kernel
theorem dX5_bars_33 : decode cX5_bars 33 = .ok (.iload_n 1, 1) := by decide +kernel
theorem dX5_bars_34 : decode cX5_bars 34 = .ok (.imul, 1) := by decide +kernel
theorem dX5_bars_35 : decode cX5_bars 35 = .ok (.iload_n 2, 1) := by decide +kernel
theorem dX5_bars_36 : decode cX5_bars 36 = .ok (.iadd, 1) := by decide +kernel
theorem dX5_bars_37 : decode cX5_bars 37 = .ok (.baload, 1) := by decide +kernel
theorem dX5_bars_38 : decode cX5_bars 38 = .ok (.istore 4, 2) := by decide +kernel
theorem dX5_bars_40 : decode cX5_bars 40 = .ok (.aload_n 0, 1) := by decide +kernel
theorem dX5_bars_41 : decode cX5_bars 41 = .ok (.getfield 55, 3) := by decide +kernel
theorem dX5_bars_44 : decode cX5_bars 44 = .ok (.bipush 16, 2) := by decide +kernel
theorem dX5_bars_46 : decode cX5_bars 46 = .ok (.iload_n 1, 1) := by decide +kernel
theorem dX5_bars_47 : decode cX5_bars 47 = .ok (.imul, 1) := by decide +kernel
theorem dX5_bars_48 : decode cX5_bars 48 = .ok (.iload_n 2, 1) := by decide +kernel
theorem dX5_bars_49 : decode cX5_bars 49 = .ok (.iadd, 1) := by decide +kernel
theorem dX5_bars_50 : decode cX5_bars 50 = .ok (.iload_n 3, 1) := by decide +kernel
theorem dX5_bars_51 : decode cX5_bars 51 = .ok (.bastore, 1) := by decide +kernel
theorem dX5_bars_52 : decode cX5_bars 52 = .ok (.iload 4, 2) := by decide +kernel
theorem dX5_bars_54 : decode cX5_bars 54 = .ok (.ireturn, 1) := by decide +kernel
theorem dX5_mayIn_0 : decode cX5_mayIn 0 = .ok (.iconst 0, 1) := by decide +kernel
theorem dX5_mayIn_1 : decode cX5_mayIn 1 = .ok (.istore_n 3, 1) := by decide +kernel
theorem dX5_mayIn_2 : decode cX5_mayIn 2 = .ok (.iconst 0, 1) := by decide +kernel
theorem dX5_mayIn_3 : decode cX5_mayIn 3 = .ok (.istore 4, 2) := by decide +kernel
theorem dX5_mayIn_5 : decode cX5_mayIn 5 = .ok (.iload 4, 2) := by decide +kernel
theorem dX5_mayIn_7 : decode cX5_mayIn 7 = .ok (.aload_n 0, 1) := by decide +kernel
theorem dX5_mayIn_8 : decode cX5_mayIn 8 = .ok (.getfield 19, 3) := by decide +kernel
theorem dX5_mayIn_11 : decode cX5_mayIn 11 = .ok (.aload_n 0, 1) := by decide +kernel
theorem dX5_mayIn_12 : decode cX5_mayIn 12 = .ok (.getfield 34, 3) := by decide +kernel
theorem dX5_mayIn_15 : decode cX5_mayIn 15 = .ok (.iload_n 1, 1) := by decide +kernel
theorem dX5_mayIn_16 : decode cX5_mayIn 16 = .ok (.iaload, 1) := by decide +kernel
theorem dX5_mayIn_17 : decode cX5_mayIn 17 = .ok (.iaload, 1) := by decide +kernel
theorem dX5_mayIn_18 : decode cX5_mayIn 18 = .ok (.if_icmp .ge 24, 3) := by decide +kernel
theorem dX5_mayIn_21 : decode cX5_mayIn 21 = .ok (.iload_n 3, 1) := by decide +kernel
theorem dX5_mayIn_22 : decode cX5_mayIn 22 = .ok (.aload_n 0, 1) := by decide +kernel
theorem dX5_mayIn_23 : decode cX5_mayIn 23 = .ok (.getfield 40, 3) := by decide +kernel
theorem dX5_mayIn_26 : decode cX5_mayIn 26 = .ok (.bipush 40, 2) := by decide +kernel
theorem dX5_mayIn_28 : decode cX5_mayIn 28 = .ok (.iload_n 1, 1) := by decide +kernel
theorem dX5_mayIn_29 : decode cX5_mayIn 29 = .ok (.imul, 1) := by decide +kernel
theorem dX5_mayIn_30 : decode cX5_mayIn 30 = .ok (.iload 4, 2) := by decide +kernel
theorem dX5_mayIn_32 : decode cX5_mayIn 32 = .ok (.iadd, 1) := by decide +kernel
theorem dX5_mayIn_33 : decode cX5_mayIn 33 = .ok (.iaload, 1) := by decide +kernel
theorem dX5_mayIn_34 : decode cX5_mayIn 34 = .ok (.ior, 1) := by decide +kernel
theorem dX5_mayIn_35 : decode cX5_mayIn 35 = .ok (.istore_n 3, 1) := by decide +kernel
theorem dX5_mayIn_36 : decode cX5_mayIn 36 = .ok (.iinc 4 1, 3) := by decide +kernel
theorem dX5_mayIn_39 : decode cX5_mayIn 39 = .ok (.goto (-34), 3) := by decide +kernel
theorem dX5_mayIn_42 : decode cX5_mayIn 42 = .ok (.iconst 1, 1) := by decide +kernel
theorem dX5_mayIn_43 : decode cX5_mayIn 43 = .ok (.istore 4, 2) := by decide +kernel
theorem dX5_mayIn_45 : decode cX5_mayIn 45 = .ok (.iconst 0, 1) := by decide +kernel
theorem dX5_mayIn_46 : decode cX5_mayIn 46 = .ok (.istore 5, 2) := by decide +kernel
theorem dX5_mayIn_48 : decode cX5_mayIn 48 = .ok (.iload 5, 2) := by decide +kernel
theorem dX5_mayIn_50 : decode cX5_mayIn 50 = .ok (.bipush 16, 2) := by decide +kernel
theorem dX5_mayIn_52 : decode cX5_mayIn 52 = .ok (.if_icmp .ge 37, 3) := by decide +kernel
theorem dX5_mayIn_55 : decode cX5_mayIn 55 = .ok (.iload_n 3, 1) := by decide +kernel
theorem dX5_mayIn_56 : decode cX5_mayIn 56 = .ok (.iload 5, 2) := by decide +kernel
theorem dX5_mayIn_58 : decode cX5_mayIn 58 = .ok (.ishr, 1) := by decide +kernel
theorem dX5_mayIn_59 : decode cX5_mayIn 59 = .ok (.iconst 1, 1) := by decide +kernel
theorem dX5_mayIn_60 : decode cX5_mayIn 60 = .ok (.iand, 1) := by decide +kernel
theorem dX5_mayIn_61 : decode cX5_mayIn 61 = .ok (.iconst 1, 1) := by decide +kernel
theorem dX5_mayIn_62 : decode cX5_mayIn 62 = .ok (.if_icmp .ne 21, 3) := by decide +kernel
theorem dX5_mayIn_65 : decode cX5_mayIn 65 = .ok (.aload_n 0, 1) := by decide +kernel
theorem dX5_mayIn_66 : decode cX5_mayIn 66 = .ok (.getfield 55, 3) := by decide +kernel
theorem dX5_mayIn_69 : decode cX5_mayIn 69 = .ok (.bipush 16, 2) := by decide +kernel
theorem dX5_mayIn_71 : decode cX5_mayIn 71 = .ok (.iload 5, 2) := by decide +kernel
theorem dX5_mayIn_73 : decode cX5_mayIn 73 = .ok (.imul, 1) := by decide +kernel
theorem dX5_mayIn_74 : decode cX5_mayIn 74 = .ok (.iload_n 2, 1) := by decide +kernel
theorem dX5_mayIn_75 : decode cX5_mayIn 75 = .ok (.iadd, 1) := by decide +kernel
theorem dX5_mayIn_76 : decode cX5_mayIn 76 = .ok (.baload, 1) := by decide +kernel
theorem dX5_mayIn_77 : decode cX5_mayIn 77 = .ok (.ifCond .eq 6, 3) := by decide +kernel
theorem dX5_mayIn_80 : decode cX5_mayIn 80 = .ok (.iconst 0, 1) := by decide +kernel
theorem dX5_mayIn_81 : decode cX5_mayIn 81 = .ok (.istore 4, 2) := by decide +kernel
theorem dX5_mayIn_83 : decode cX5_mayIn 83 = .ok (.iinc 5 1, 3) := by decide +kernel
theorem dX5_mayIn_86 : decode cX5_mayIn 86 = .ok (.goto (-38), 3) := by decide +kernel
theorem dX5_mayIn_89 : decode cX5_mayIn 89 = .ok (.iload 4, 2) := by decide +kernel
theorem dX5_mayIn_91 : decode cX5_mayIn 91 = .ok (.ireturn, 1) := by decide +kernel
set_option maxRecDepth 20000 in
theorem ggX5_may_X5_isCask : GoodIn wsX5_may wsX5_isCask := goodIn_r _ [6, 7, 23, 24, 25, 26, 27, 28, 29, 30, 31, 32, 33, 34, 35, 36, 37, 38, 39, 40, 41, 42, 43, 44, 45, 46, 47, 48, 49, 50, 51, 52, 53, 54, 55, 56] (by decide +kernel) (by decide +kernel)
set_option maxRecDepth 20000 in
theorem gX5_may_X5_isCask : GoodIn wsX5_may (wsV RX5 194 RX5 yX5_isCask wsX5_isCask) := goodIn_app (goodIn_of _ (by decide +kernel)) ggX5_may_X5_isCask
set_option maxRecDepth 20000 in
theorem ggX5_may_X5_fail : GoodIn wsX5_may wsX5_fail := goodIn_r _ [11, 1, 23, 24, 25, 26, 27, 28, 29, 30, 31, 32, 33, 34, 35, 36, 37, 38, 39, 40, 41, 42, 43, 44, 45, 46, 47, 48, 49, 50, 51, 52, 53, 54, 55, 56] (by decide +kernel) (by decide +kernel)
set_option maxRecDepth 20000 in
theorem gX5_may_X5_fail : GoodIn wsX5_may (wsV RX5 94 RX5 yX5_fail wsX5_fail) := goodIn_app (goodIn_of _ (by decide +kernel)) ggX5_may_X5_fail
set_option maxRecDepth 20000 in
theorem ggX5_may_X5_isKind : GoodIn wsX5_may wsX5_isKind := goodIn_r _ [14] (by decide +kernel) (by decide +kernel)
set_option maxRecDepth 20000 in
theorem gX5_may_X5_isKind : GoodIn wsX5_may (va_wsS RX5 203 yX5_isKind wsX5_isKind) := goodIn_app (goodIn_of _ (by decide +kernel)) ggX5_may_X5_isKind
set_option maxRecDepth 20000 in
theorem ggX5_may_X5_mayIn : GoodIn wsX5_may wsX5_mayIn := goodIn_r _ [18, 19, 20, 21, 22, 23, 24, 25, 26, 27, 28, 29, 30, 31, 32, 33, 34, 35, 36, 37, 38, 39, 40, 41, 42, 43, 44, 45, 46, 47, 48, 49, 50, 51, 52, 53, 54, 55, 56] (by decide +kernel) (by decide +kernel)
set_option maxRecDepth 20000 in
theorem gX5_may_X5_mayIn : GoodIn wsX5_may (wsV RX5 206 RX5 yX5_mayIn wsX5_mayIn) := goodIn_app (goodIn_of _ (by decide +kernel)) ggX5_may_X5_mayIn
theorem dX5_may_0 : decode cX5_may 0 = .ok (.aload_n 0, 1) := by decide +kernel
theorem dX5_may_1 : decode cX5_may 1 = .ok (.iconst 0, 1) := by decide +kernel
theorem dX5_may_2 : decode cX5_may 2 = .ok (.putfield 83, 3) := by decide +kernel
theorem dX5_may_5 : decode cX5_may 5 = .ok (.aload_n 0, 1) := by decide +kernel
theorem dX5_may_6 : decode cX5_may 6 = .ok (.iload_n 1, 1) := by decide +kernel
theorem dX5_may_7 : decode cX5_may 7 = .ok (.invokevirtual 194, 3) := by decide +kernel
theorem dX5_may_10 : decode cX5_may 10 = .ok (.ifCond .ne 11, 3) := by decide +kernel
theorem dX5_may_13 : decode cX5_may 13 = .ok (.aload_n 0, 1) := by decide +kernel
theorem dX5_may_14 : decode cX5_may 14 = .ok (.iconst 1, 1) := by decide +kernel
theorem dX5_may_15 : decode cX5_may 15 = .ok (.invokevirtual 94, 3) := by decide +kernel
theorem dX5_may_18 : decode cX5_may 18 = .ok (.pop, 1) := by decide +kernel
theorem dX5_may_19 : decode cX5_may 19 = .ok (.iconst 0, 1) := by decide +kernel
theorem dX5_may_20 : decode cX5_may 20 = .ok (.ireturn, 1) := by decide +kernel
theorem dX5_may_21 : decode cX5_may 21 = .ok (.iload_n 2, 1) := by decide +kernel
theorem dX5_may_22 : decode cX5_may 22 = .ok (.invokestatic 203, 3) := by decide +kernel
theorem dX5_may_25 : decode cX5_may 25 = .ok (.ifCond .ne 11, 3) := by decide +kernel
theorem dX5_may_28 : decode cX5_may 28 = .ok (.aload_n 0, 1) := by decide +kernel
theorem dX5_may_29 : decode cX5_may 29 = .ok (.iconst 2, 1) := by decide +kernel
theorem dX5_may_30 : decode cX5_may 30 = .ok (.invokevirtual 94, 3) := by decide +kernel
theorem dX5_may_33 : decode cX5_may 33 = .ok (.pop, 1) := by decide +kernel
theorem dX5_may_34 : decode cX5_may 34 = .ok (.iconst 0, 1) := by decide +kernel
theorem dX5_may_35 : decode cX5_may 35 = .ok (.ireturn, 1) := by decide +kernel
theorem dX5_may_36 : decode cX5_may 36 = .ok (.aload_n 0, 1) := by decide +kernel
theorem dX5_may_37 : decode cX5_may 37 = .ok (.iload_n 1, 1) := by decide +kernel
theorem dX5_may_38 : decode cX5_may 38 = .ok (.iload_n 2, 1) := by decide +kernel
theorem dX5_may_39 : decode cX5_may 39 = .ok (.invokevirtual 206, 3) := by decide +kernel
theorem dX5_may_42 : decode cX5_may 42 = .ok (.ireturn, 1) := by decide +kernel
set_option maxRecDepth 20000 in
theorem ggX5_tell_X5_isCask : GoodIn wsX5_tell wsX5_isCask := goodIn_r _ [14, 15, 25, 26, 27, 28, 29, 30, 31, 32, 33, 34, 35, 36, 37, 38, 39, 40, 41, 42, 43, 44, 45, 46, 47, 48, 49, 50, 51, 52, 53, 54, 55, 56, 57, 58] (by decide +kernel) (by decide +kernel)
set_option maxRecDepth 20000 in
theorem gX5_tell_X5_isCask : GoodIn wsX5_tell (wsV RX5 194 RX5 yX5_isCask wsX5_isCask) := goodIn_app (goodIn_of _ (by decide +kernel)) ggX5_tell_X5_isCask
set_option maxRecDepth 20000 in
theorem ggX5_tell_X5_fail : GoodIn wsX5_tell wsX5_fail := goodIn_r _ [19, 1, 25, 26, 27, 28, 29, 30, 31, 32, 33, 34, 35, 36, 37, 38, 39, 40, 41, 42, 43, 44, 45, 46, 47, 48, 49, 50, 51, 52, 53, 54, 55, 56, 57, 58] (by decide +kernel) (by decide +kernel)
set_option maxRecDepth 20000 in
theorem gX5_tell_X5_fail : GoodIn wsX5_tell (wsV RX5 94 RX5 yX5_fail wsX5_fail) := goodIn_app (goodIn_of _ (by decide +kernel)) ggX5_tell_X5_fail
set_option maxRecDepth 20000 in
theorem ggX5_tell_X5_mayIn : GoodIn wsX5_tell wsX5_mayIn := goodIn_r _ [23, 7, 8, 9, 24, 25, 26, 27, 28, 29, 30, 31, 32, 33, 34, 35, 36, 37, 38, 39, 40, 41, 42, 43, 44, 45, 46, 47, 48, 49, 50, 51, 52, 53, 54, 55, 56, 57, 58] (by decide +kernel) (by decide +kernel)
set_option maxRecDepth 20000 in
theorem gX5_tell_X5_mayIn : GoodIn wsX5_tell (wsV RX5 206 RX5 yX5_mayIn wsX5_mayIn) := goodIn_app (goodIn_of _ (by decide +kernel)) ggX5_tell_X5_mayIn
theorem dX5_tell_0 : decode cX5_tell 0 = .ok (.aload_n 0, 1) := by decide +kernel
theorem dX5_tell_1 : decode cX5_tell 1 = .ok (.iconst 0, 1) := by decide +kernel
theorem dX5_tell_2 : decode cX5_tell 2 = .ok (.putfield 83, 3) := by decide +kernel
theorem dX5_tell_5 : decode cX5_tell 5 = .ok (.aload_n 0, 1) := by decide +kernel
theorem dX5_tell_6 : decode cX5_tell 6 = .ok (.iload_n 1, 1) := by decide +kernel
theorem dX5_tell_7 : decode cX5_tell 7 = .ok (.invokevirtual 194, 3) := by decide +kernel
theorem dX5_tell_10 : decode cX5_tell 10 = .ok (.ifCond .ne 9, 3) := by decide +kernel
theorem dX5_tell_13 : decode cX5_tell 13 = .ok (.aload_n 0, 1) := by decide +kernel
theorem dX5_tell_14 : decode cX5_tell 14 = .ok (.iconst 1, 1) := by decide +kernel
theorem dX5_tell_15 : decode cX5_tell 15 = .ok (.invokevirtual 94, 3) := by decide +kernel
theorem dX5_tell_18 : decode cX5_tell 18 = .ok (.ireturn, 1) := by decide +kernel
theorem dX5_tell_19 : decode cX5_tell 19 = .ok (.iload_n 3, 1) := by decide +kernel
theorem dX5_tell_20 : decode cX5_tell 20 = .ok (.ifCond .lt 9, 3) := by decide +kernel
theorem dX5_tell_23 : decode cX5_tell 23 = .ok (.iload_n 3, 1) := by decide +kernel
theorem dX5_tell_24 : decode cX5_tell 24 = .ok (.bipush 16, 2) := by decide +kernel
theorem dX5_tell_26 : decode cX5_tell 26 = .ok (.if_icmp .le 9, 3) := by decide +kernel
theorem dX5_tell_29 : decode cX5_tell 29 = .ok (.aload_n 0, 1) := by decide +kernel
theorem dX5_tell_30 : decode cX5_tell 30 = .ok (.iconst 2, 1) := by decide +kernel
theorem dX5_tell_31 : decode cX5_tell 31 = .ok (.invokevirtual 94, 3) := by decide +kernel
theorem dX5_tell_34 : decode cX5_tell 34 = .ok (.ireturn, 1) := by decide +kernel
theorem dX5_tell_35 : decode cX5_tell 35 = .ok (.iload_n 2, 1) := by decide +kernel
theorem dX5_tell_36 : decode cX5_tell 36 = .ok (.ifCond .lt 37, 3) := by decide +kernel
theorem dX5_tell_39 : decode cX5_tell 39 = .ok (.iload_n 2, 1) := by decide +kernel
theorem dX5_tell_40 : decode cX5_tell 40 = .ok (.aload_n 0, 1) := by decide +kernel
theorem dX5_tell_41 : decode cX5_tell 41 = .ok (.getfield 117, 3) := by decide +kernel
theorem dX5_tell_44 : decode cX5_tell 44 = .ok (.if_icmp .gt 29, 3) := by decide +kernel
theorem dX5_tell_47 : decode cX5_tell 47 = .ok (.aload_n 0, 1) := by decide +kernel
theorem dX5_tell_48 : decode cX5_tell 48 = .ok (.getfield 43, 3) := by decide +kernel
theorem dX5_tell_51 : decode cX5_tell 51 = .ok (.iload_n 1, 1) := by decide +kernel
theorem dX5_tell_52 : decode cX5_tell 52 = .ok (.iaload, 1) := by decide +kernel
theorem dX5_tell_53 : decode cX5_tell 53 = .ok (.bipush 40, 2) := by decide +kernel
theorem dX5_tell_55 : decode cX5_tell 55 = .ok (.if_icmp .eq 18, 3) := by decide +kernel
theorem dX5_tell_58 : decode cX5_tell 58 = .ok (.iload_n 3, 1) := by decide +kernel
theorem dX5_tell_59 : decode cX5_tell 59 = .ok (.bipush 16, 2) := by decide +kernel
theorem dX5_tell_61 : decode cX5_tell 61 = .ok (.if_icmp .ge 14, 3) := by decide +kernel
theorem dX5_tell_64 : decode cX5_tell 64 = .ok (.aload_n 0, 1) := by decide +kernel
theorem dX5_tell_65 : decode cX5_tell 65 = .ok (.iload_n 1, 1) := by decide +kernel
theorem dX5_tell_66 : decode cX5_tell 66 = .ok (.iload_n 3, 1) := by decide +kernel
theorem dX5_tell_67 : decode cX5_tell 67 = .ok (.invokevirtual 206, 3) := by decide +kernel
theorem dX5_tell_70 : decode cX5_tell 70 = .ok (.ifCond .ne 5, 3) := by decide +kernel
theorem dX5_tell_73 : decode cX5_tell 73 = .ok (.iconst (-1), 1) := by decide +kernel
theorem dX5_tell_74 : decode cX5_tell 74 = .ok (.ireturn, 1) := by decide +kernel
theorem dX5_tell_75 : decode cX5_tell 75 = .ok (.bipush 40, 2) := by decide +kernel
theorem dX5_tell_77 : decode cX5_tell 77 = .ok (.iload_n 1, 1) := by decide +kernel
theorem dX5_tell_78 : decode cX5_tell 78 = .ok (.imul, 1) := by decide +kernel
theorem dX5_tell_79 : decode cX5_tell 79 = .ok (.aload_n 0, 1) := by decide +kernel
theorem dX5_tell_80 : decode cX5_tell 80 = .ok (.getfield 43, 3) := by decide +kernel
theorem dX5_tell_83 : decode cX5_tell 83 = .ok (.iload_n 1, 1) := by decide +kernel
theorem dX5_tell_84 : decode cX5_tell 84 = .ok (.iaload, 1) := by decide +kernel
theorem dX5_tell_85 : decode cX5_tell 85 = .ok (.iadd, 1) := by decide +kernel
theorem dX5_tell_86 : decode cX5_tell 86 = .ok (.istore 4, 2) := by decide +kernel
theorem dX5_tell_88 : decode cX5_tell 88 = .ok (.aload_n 0, 1) := by decide +kernel
theorem dX5_tell_89 : decode cX5_tell 89 = .ok (.getfield 46, 3) := by decide +kernel
theorem dX5_tell_92 : decode cX5_tell 92 = .ok (.iload 4, 2) := by decide +kernel
theorem dX5_tell_94 : decode cX5_tell 94 = .ok (.iload_n 2, 1) := by decide +kernel
theorem dX5_tell_95 : decode cX5_tell 95 = .ok (.iastore, 1) := by decide +kernel
theorem dX5_tell_96 : decode cX5_tell 96 = .ok (.aload_n 0, 1) := by decide +kernel
theorem dX5_tell_97 : decode cX5_tell 97 = .ok (.getfield 49, 3) := by decide +kernel
theorem dX5_tell_100 : decode cX5_tell 100 = .ok (.iload 4, 2) := by decide +kernel
theorem dX5_tell_102 : decode cX5_tell 102 = .ok (.iload_n 3, 1) := by decide +kernel
theorem dX5_tell_103 : decode cX5_tell 103 = .ok (.iastore, 1) := by decide +kernel
theorem dX5_tell_104 : decode cX5_tell 104 = .ok (.aload_n 0, 1) := by decide +kernel
theorem dX5_tell_105 : decode cX5_tell 105 = .ok (.getfield 52, 3) := by decide +kernel
theorem dX5_tell_108 : decode cX5_tell 108 = .ok (.iload 4, 2) := by decide +kernel
theorem dX5_tell_110 : decode cX5_tell 110 = .ok (.aload_n 0, 1) := by decide +kernel
theorem dX5_tell_111 : decode cX5_tell 111 = .ok (.getfield 117, 3) := by decide +kernel
theorem dX5_tell_114 : decode cX5_tell 114 = .ok (.iastore, 1) := by decide +kernel
theorem dX5_tell_115 : decode cX5_tell 115 = .ok (.aload_n 0, 1) := by decide +kernel
theorem dX5_tell_116 : decode cX5_tell 116 = .ok (.getfield 43, 3) := by decide +kernel
theorem dX5_tell_119 : decode cX5_tell 119 = .ok (.iload_n 1, 1) := by decide +kernel
theorem dX5_tell_120 : decode cX5_tell 120 = .ok (.dup2, 1) := by decide +kernel
theorem dX5_tell_121 : decode cX5_tell 121 = .ok (.iaload, 1) := by decide +kernel
theorem dX5_tell_122 : decode cX5_tell 122 = .ok (.iconst 1, 1) := by decide +kernel
theorem dX5_tell_123 : decode cX5_tell 123 = .ok (.iadd, 1) := by decide +kernel
theorem dX5_tell_124 : decode cX5_tell 124 = .ok (.iastore, 1) := by decide +kernel
theorem dX5_tell_125 : decode cX5_tell 125 = .ok (.iconst 0, 1) := by decide +kernel
theorem dX5_tell_126 : decode cX5_tell 126 = .ok (.istore 5, 2) := by decide +kernel
theorem dX5_tell_128 : decode cX5_tell 128 = .ok (.iload 5, 2) := by decide +kernel
theorem dX5_tell_130 : decode cX5_tell 130 = .ok (.aload_n 0, 1) := by decide +kernel
theorem dX5_tell_131 : decode cX5_tell 131 = .ok (.getfield 19, 3) := by decide +kernel
theorem dX5_tell_134 : decode cX5_tell 134 = .ok (.aload_n 0, 1) := by decide +kernel
theorem dX5_tell_135 : decode cX5_tell 135 = .ok (.getfield 34, 3) := by decide +kernel
theorem dX5_tell_138 : decode cX5_tell 138 = .ok (.iload_n 1, 1) := by decide +kernel
theorem dX5_tell_139 : decode cX5_tell 139 = .ok (.iaload, 1) := by decide +kernel
theorem dX5_tell_140 : decode cX5_tell 140 = .ok (.iaload, 1) := by decide +kernel
theorem dX5_tell_141 : decode cX5_tell 141 = .ok (.if_icmp .ge 33, 3) := by decide +kernel
theorem dX5_tell_144 : decode cX5_tell 144 = .ok (.iload_n 3, 1) := by decide +kernel
theorem dX5_tell_145 : decode cX5_tell 145 = .ok (.bipush 16, 2) := by decide +kernel
theorem dX5_tell_147 : decode cX5_tell 147 = .ok (.if_icmp .ge 27, 3) := by decide +kernel
theorem dX5_tell_150 : decode cX5_tell 150 = .ok (.aload_n 0, 1) := by decide +kernel
theorem dX5_tell_151 : decode cX5_tell 151 = .ok (.getfield 40, 3) := by decide +kernel
theorem dX5_tell_154 : decode cX5_tell 154 = .ok (.bipush 40, 2) := by decide +kernel
theorem dX5_tell_156 : decode cX5_tell 156 = .ok (.iload_n 1, 1) := by decide +kernel
theorem dX5_tell_157 : decode cX5_tell 157 = .ok (.imul, 1) := by decide +kernel
theorem dX5_tell_158 : decode cX5_tell 158 = .ok (.iload 5, 2) := by decide +kernel
theorem dX5_tell_160 : decode cX5_tell 160 = .ok (.iadd, 1) := by decide +kernel
theorem dX5_tell_161 : decode cX5_tell 161 = .ok (.dup2, 1) := by decide +kernel
theorem dX5_tell_162 : decode cX5_tell 162 = .ok (.iaload, 1) := by decide +kernel
theorem dX5_tell_163 : decode cX5_tell 163 = .ok (.iconst 1, 1) := by decide +kernel
theorem dX5_tell_164 : decode cX5_tell 164 = .ok (.iload_n 3, 1) := by decide +kernel
theorem dX5_tell_165 : decode cX5_tell 165 = .ok (.ishl, 1) := by decide +kernel
theorem dX5_tell_166 : decode cX5_tell 166 = .ok (.ior, 1) := by decide +kernel
theorem dX5_tell_167 : decode cX5_tell 167 = .ok (.iastore, 1) := by decide +kernel
theorem dX5_tell_168 : decode cX5_tell 168 = .ok (.iinc 5 1, 3) := by decide +kernel
theorem dX5_tell_171 : decode cX5_tell 171 = .ok (.goto (-43), 3) := by decide +kernel
theorem dX5_tell_174 : decode cX5_tell 174 = .ok (.aload_n 0, 1) := by decide +kernel
theorem dX5_tell_175 : decode cX5_tell 175 = .ok (.getfield 43, 3) := by decide +kernel
theorem dX5_tell_178 : decode cX5_tell 178 = .ok (.iload_n 1, 1) := by decide +kernel
theorem dX5_tell_179 : decode cX5_tell 179 = .ok (.iaload, 1) := by decide +kernel
theorem dX5_tell_180 : decode cX5_tell 180 = .ok (.ireturn, 1) := by decide +kernel
theorem dX5_heldOn_0 : decode cX5_heldOn 0 = .ok (.iconst (-1), 1) := by decide +kernel
theorem dX5_heldOn_1 : decode cX5_heldOn 1 = .ok (.istore 4, 2) := by decide +kernel
theorem dX5_heldOn_3 : decode cX5_heldOn 3 = .ok (.iconst 0, 1) := by decide +kernel
theorem dX5_heldOn_4 : decode cX5_heldOn 4 = .ok (.istore 5, 2) := by decide +kernel
theorem dX5_heldOn_6 : decode cX5_heldOn 6 = .ok (.iload 5, 2) := by decide +kernel
theorem dX5_heldOn_8 : decode cX5_heldOn 8 = .ok (.aload_n 0, 1) := by decide +kernel
theorem dX5_heldOn_9 : decode cX5_heldOn 9 = .ok (.getfield 43, 3) := by decide +kernel
theorem dX5_heldOn_12 : decode cX5_heldOn 12 = .ok (.iload_n 1, 1) := by decide +kernel
theorem dX5_heldOn_13 : decode cX5_heldOn 13 = .ok (.iaload, 1) := by decide +kernel
theorem dX5_heldOn_14 : decode cX5_heldOn 14 = .ok (.if_icmp .ge 70, 3) := by decide +kernel
theorem dX5_heldOn_17 : decode cX5_heldOn 17 = .ok (.bipush 40, 2) := by decide +kernel
theorem dX5_heldOn_19 : decode cX5_heldOn 19 = .ok (.iload_n 1, 1) := by decide +kernel
theorem dX5_heldOn_20 : decode cX5_heldOn 20 = .ok (.imul, 1) := by decide +kernel
theorem dX5_heldOn_21 : decode cX5_heldOn 21 = .ok (.iload 5, 2) := by decide +kernel
theorem dX5_heldOn_23 : decode cX5_heldOn 23 = .ok (.iadd, 1) := by decide +kernel
theorem dX5_heldOn_24 : decode cX5_heldOn 24 = .ok (.istore 6, 2) := by decide +kernel
theorem dX5_heldOn_26 : decode cX5_heldOn 26 = .ok (.aload_n 0, 1) := by decide +kernel
theorem dX5_heldOn_27 : decode cX5_heldOn 27 = .ok (.getfield 52, 3) := by decide +kernel
theorem dX5_heldOn_30 : decode cX5_heldOn 30 = .ok (.iload 6, 2) := by decide +kernel
theorem dX5_heldOn_32 : decode cX5_heldOn 32 = .ok (.iaload, 1) := by decide +kernel
theorem dX5_heldOn_33 : decode cX5_heldOn 33 = .ok (.iload_n 3, 1) := by decide +kernel
theorem dX5_heldOn_34 : decode cX5_heldOn 34 = .ok (.if_icmp .gt 44, 3) := by decide +kernel
theorem dX5_heldOn_37 : decode cX5_heldOn 37 = .ok (.aload_n 0, 1) := by decide +kernel
theorem dX5_heldOn_38 : decode cX5_heldOn 38 = .ok (.getfield 46, 3) := by decide +kernel
theorem dX5_heldOn_41 : decode cX5_heldOn 41 = .ok (.iload 6, 2) := by decide +kernel
theorem dX5_heldOn_43 : decode cX5_heldOn 43 = .ok (.iaload, 1) := by decide +kernel
theorem dX5_heldOn_44 : decode cX5_heldOn 44 = .ok (.iload_n 2, 1) := by decide +kernel
theorem dX5_heldOn_45 : decode cX5_heldOn 45 = .ok (.if_icmp .le 6, 3) := by decide +kernel
theorem dX5_heldOn_48 : decode cX5_heldOn 48 = .ok (.goto 30, 3) := by decide +kernel
theorem dX5_heldOn_51 : decode cX5_heldOn 51 = .ok (.iload 4, 2) := by decide +kernel
theorem dX5_heldOn_53 : decode cX5_heldOn 53 = .ok (.iconst (-1), 1) := by decide +kernel
theorem dX5_heldOn_54 : decode cX5_heldOn 54 = .ok (.if_icmp .eq 20, 3) := by decide +kernel
theorem dX5_heldOn_57 : decode cX5_heldOn 57 = .ok (.aload_n 0, 1) := by decide +kernel
theorem dX5_heldOn_58 : decode cX5_heldOn 58 = .ok (.getfield 46, 3) := by decide +kernel
theorem dX5_heldOn_61 : decode cX5_heldOn 61 = .ok (.iload 6, 2) := by decide +kernel
theorem dX5_heldOn_63 : decode cX5_heldOn 63 = .ok (.iaload, 1) := by decide +kernel
theorem dX5_heldOn_64 : decode cX5_heldOn 64 = .ok (.aload_n 0, 1) := by decide +kernel
theorem dX5_heldOn_65 : decode cX5_heldOn 65 = .ok (.getfield 46, 3) := by decide +kernel
theorem dX5_heldOn_68 : decode cX5_heldOn 68 = .ok (.iload 4, 2) := by decide +kernel
theorem dX5_heldOn_70 : decode cX5_heldOn 70 = .ok (.iaload, 1) := by decide +kernel
theorem dX5_heldOn_71 : decode cX5_heldOn 71 = .ok (.if_icmp .lt 7, 3) := by decide +kernel
theorem dX5_heldOn_74 : decode cX5_heldOn 74 = .ok (.iload 6, 2) := by decide +kernel
theorem dX5_heldOn_76 : decode cX5_heldOn 76 = .ok (.istore 4, 2) := by decide +kernel
theorem dX5_heldOn_78 : decode cX5_heldOn 78 = .ok (.iinc 5 1, 3) := by decide +kernel
theorem dX5_heldOn_81 : decode cX5_heldOn 81 = .ok (.goto (-75), 3) := by decide +kernel
theorem dX5_heldOn_84 : decode cX5_heldOn 84 = .ok (.iload 4, 2) := by decide +kernel
theorem dX5_heldOn_86 : decode cX5_heldOn 86 = .ok (.iconst (-1), 1) := by decide +kernel
theorem dX5_heldOn_87 : decode cX5_heldOn 87 = .ok (.if_icmp .ne 7, 3) := by decide +kernel
theorem dX5_heldOn_90 : decode cX5_heldOn 90 = .ok (.iconst (-1), 1) := by decide +kernel
theorem dX5_heldOn_91 : decode cX5_heldOn 91 = .ok (.goto 10, 3) := by decide +kernel
theorem dX5_heldOn_94 : decode cX5_heldOn 94 = .ok (.aload_n 0, 1) := by decide +kernel
theorem dX5_heldOn_95 : decode cX5_heldOn 95 = .ok (.getfield 49, 3) := by decide +kernel
theorem dX5_heldOn_98 : decode cX5_heldOn 98 = .ok (.iload 4, 2) := by decide +kernel
theorem dX5_heldOn_100 : decode cX5_heldOn 100 = .ok (.iaload, 1) := by decide +kernel
theorem dX5_heldOn_101 : decode cX5_heldOn 101 = .ok (.ireturn, 1) := by decide +kernel
set_option maxRecDepth 20000 in
theorem ggX5_held_X5_isCask : GoodIn wsX5_held wsX5_isCask := goodIn_r _ [6, 7, 20, 21, 22, 23, 24, 25, 26, 27, 28, 29, 30, 31, 32, 33, 34, 35, 36, 37, 38, 39, 40, 41, 42, 43, 44, 45, 46, 47, 48, 49, 50, 51, 52, 53] (by decide +kernel) (by decide +kernel)
set_option maxRecDepth 20000 in
theorem gX5_held_X5_isCask : GoodIn wsX5_held (wsV RX5 194 RX5 yX5_isCask wsX5_isCask) := goodIn_app (goodIn_of _ (by decide +kernel)) ggX5_held_X5_isCask
set_option maxRecDepth 20000 in
theorem ggX5_held_X5_heldOn : GoodIn wsX5_held wsX5_heldOn := goodIn_r _ [11, 12, 13, 14, 15, 20, 21, 22, 23, 24, 25, 26, 27, 28, 29, 30, 31, 32, 33, 34, 35, 36, 37, 38, 39, 40, 41, 42, 43, 44, 45, 46, 47, 48, 49, 50, 51, 52, 53] (by decide +kernel) (by decide +kernel)
set_option maxRecDepth 20000 in
theorem gX5_held_X5_heldOn : GoodIn wsX5_held (wsV RX5 209 RX5 yX5_heldOn wsX5_heldOn) := goodIn_app (goodIn_of _ (by decide +kernel)) ggX5_held_X5_heldOn
set_option maxRecDepth 20000 in
theorem ggX5_held_X5_fail : GoodIn wsX5_held wsX5_fail := goodIn_r _ [19, 1, 20, 21, 22, 23, 24, 25, 26, 27, 28, 29, 30, 31, 32, 33, 34, 35, 36, 37, 38, 39, 40, 41, 42, 43, 44, 45, 46, 47, 48, 49, 50, 51, 52, 53] (by decide +kernel) (by decide +kernel)
set_option maxRecDepth 20000 in
theorem gX5_held_X5_fail : GoodIn wsX5_held (wsV RX5 94 RX5 yX5_fail wsX5_fail) := goodIn_app (goodIn_of _ (by decide +kernel)) ggX5_held_X5_fail
theorem dX5_held_0 : decode cX5_held 0 = .ok (.aload_n 0, 1) := by decide +kernel
theorem dX5_held_1 : decode cX5_held 1 = .ok (.iconst 0, 1) := by decide +kernel
theorem dX5_held_2 : decode cX5_held 2 = .ok (.putfield 83, 3) := by decide +kernel
theorem dX5_held_5 : decode cX5_held 5 = .ok (.aload_n 0, 1) := by decide +kernel
theorem dX5_held_6 : decode cX5_held 6 = .ok (.iload_n 1, 1) := by decide +kernel
theorem dX5_held_7 : decode cX5_held 7 = .ok (.invokevirtual 194, 3) := by decide +kernel
theorem dX5_held_10 : decode cX5_held 10 = .ok (.ifCond .eq 13, 3) := by decide +kernel
theorem dX5_held_13 : decode cX5_held 13 = .ok (.aload_n 0, 1) := by decide +kernel
theorem dX5_held_14 : decode cX5_held 14 = .ok (.iload_n 1, 1) := by decide +kernel
theorem dX5_held_15 : decode cX5_held 15 = .ok (.iload_n 2, 1) := by decide +kernel
theorem dX5_held_16 : decode cX5_held 16 = .ok (.iload_n 3, 1) := by decide +kernel
theorem dX5_held_17 : decode cX5_held 17 = .ok (.invokevirtual 209, 3) := by decide +kernel
theorem dX5_held_20 : decode cX5_held 20 = .ok (.goto 8, 3) := by decide +kernel
theorem dX5_held_23 : decode cX5_held 23 = .ok (.aload_n 0, 1) := by decide +kernel
theorem dX5_held_24 : decode cX5_held 24 = .ok (.iconst 1, 1) := by decide +kernel
theorem dX5_held_25 : decode cX5_held 25 = .ok (.invokevirtual 94, 3) := by decide +kernel
theorem dX5_held_28 : decode cX5_held 28 = .ok (.ireturn, 1) := by decide +kernel
set_option maxRecDepth 20000 in
theorem ggX5_lacks_X5_isCask : GoodIn wsX5_lacks wsX5_isCask := goodIn_r _ [8, 9, 22, 23, 24, 25, 26, 27, 28, 29, 30, 31, 32, 33, 34, 35, 36, 37, 38, 39, 40, 41, 42, 43, 44, 45, 46, 47, 48, 49, 50, 51, 52, 53, 54, 55] (by decide +kernel) (by decide +kernel)
set_option maxRecDepth 20000 in
theorem gX5_lacks_X5_isCask : GoodIn wsX5_lacks (wsV RX5 194 RX5 yX5_isCask wsX5_isCask) := goodIn_app (goodIn_of _ (by decide +kernel)) ggX5_lacks_X5_isCask
set_option maxRecDepth 20000 in
theorem ggX5_lacks_X5_fail : GoodIn wsX5_lacks wsX5_fail := goodIn_r _ [13, 1, 22, 23, 24, 25, 26, 27, 28, 29, 30, 31, 32, 33, 34, 35, 36, 37, 38, 39, 40, 41, 42, 43, 44, 45, 46, 47, 48, 49, 50, 51, 52, 53, 54, 55] (by decide +kernel) (by decide +kernel)
set_option maxRecDepth 20000 in
theorem gX5_lacks_X5_fail : GoodIn wsX5_lacks (wsV RX5 94 RX5 yX5_fail wsX5_fail) := goodIn_app (goodIn_of _ (by decide +kernel)) ggX5_lacks_X5_fail
set_option maxRecDepth 20000 in
theorem ggX5_lacks_X5_heldOn : GoodIn wsX5_lacks wsX5_heldOn := goodIn_r _ [17, 18, 19, 20, 21, 22, 23, 24, 25, 26, 27, 28, 29, 30, 31, 32, 33, 34, 35, 36, 37, 38, 39, 40, 41, 42, 43, 44, 45, 46, 47, 48, 49, 50, 51, 52, 53, 54, 55] (by decide +kernel) (by decide +kernel)
set_option maxRecDepth 20000 in
theorem gX5_lacks_X5_heldOn : GoodIn wsX5_lacks (wsV RX5 209 RX5 yX5_heldOn wsX5_heldOn) := goodIn_app (goodIn_of _ (by decide +kernel)) ggX5_lacks_X5_heldOn
theorem dX5_lacks_0 : decode cX5_lacks 0 = .ok (.aload_n 0, 1) := by decide +kernel
theorem dX5_lacks_1 : decode cX5_lacks 1 = .ok (.iconst 0, 1) := by decide +kernel
theorem dX5_lacks_2 : decode cX5_lacks 2 = .ok (.putfield 83, 3) := by decide +kernel
theorem dX5_lacks_5 : decode cX5_lacks 5 = .ok (.aload_n 0, 1) := by decide +kernel
theorem dX5_lacks_6 : decode cX5_lacks 6 = .ok (.iload_n 1, 1) := by decide +kernel
theorem dX5_lacks_7 : decode cX5_lacks 7 = .ok (.invokevirtual 194, 3) := by decide +kernel
theorem dX5_lacks_10 : decode cX5_lacks 10 = .ok (.ifCond .ne 9, 3) := by decide +kernel
theorem dX5_lacks_13 : decode cX5_lacks 13 = .ok (.aload_n 0, 1) := by decide +kernel
theorem dX5_lacks_14 : decode cX5_lacks 14 = .ok (.iconst 1, 1) := by decide +kernel
theorem dX5_lacks_15 : decode cX5_lacks 15 = .ok (.invokevirtual 94, 3) := by decide +kernel
theorem dX5_lacks_18 : decode cX5_lacks 18 = .ok (.ireturn, 1) := by decide +kernel
theorem dX5_lacks_19 : decode cX5_lacks 19 = .ok (.iload_n 2, 1) := by decide +kernel
theorem dX5_lacks_20 : decode cX5_lacks 20 = .ok (.ifCond .lt 25, 3) := by decide +kernel
theorem dX5_lacks_23 : decode cX5_lacks 23 = .ok (.iload_n 3, 1) := by decide +kernel
theorem dX5_lacks_24 : decode cX5_lacks 24 = .ok (.iload_n 2, 1) := by decide +kernel
theorem dX5_lacks_25 : decode cX5_lacks 25 = .ok (.if_icmp .lt 20, 3) := by decide +kernel
theorem dX5_lacks_28 : decode cX5_lacks 28 = .ok (.iload_n 3, 1) := by decide +kernel
theorem dX5_lacks_29 : decode cX5_lacks 29 = .ok (.ldc 212, 2) := by decide +kernel
theorem dX5_lacks_31 : decode cX5_lacks 31 = .ok (.if_icmp .gt 14, 3) := by decide +kernel
theorem dX5_lacks_34 : decode cX5_lacks 34 = .ok (.iload 4, 2) := by decide +kernel
theorem dX5_lacks_36 : decode cX5_lacks 36 = .ok (.ifCond .lt 9, 3) := by decide +kernel
theorem dX5_lacks_39 : decode cX5_lacks 39 = .ok (.iload 4, 2) := by decide +kernel
theorem dX5_lacks_41 : decode cX5_lacks 41 = .ok (.iconst 1, 1) := by decide +kernel
theorem dX5_lacks_42 : decode cX5_lacks 42 = .ok (.if_icmp .le 9, 3) := by decide +kernel
theorem dX5_lacks_45 : decode cX5_lacks 45 = .ok (.aload_n 0, 1) := by decide +kernel
theorem dX5_lacks_46 : decode cX5_lacks 46 = .ok (.iconst 2, 1) := by decide +kernel
theorem dX5_lacks_47 : decode cX5_lacks 47 = .ok (.invokevirtual 94, 3) := by decide +kernel
theorem dX5_lacks_50 : decode cX5_lacks 50 = .ok (.ireturn, 1) := by decide +kernel
theorem dX5_lacks_51 : decode cX5_lacks 51 = .ok (.iconst 0, 1) := by decide +kernel
theorem dX5_lacks_52 : decode cX5_lacks 52 = .ok (.istore 5, 2) := by decide +kernel
theorem dX5_lacks_54 : decode cX5_lacks 54 = .ok (.iload_n 2, 1) := by decide +kernel
theorem dX5_lacks_55 : decode cX5_lacks 55 = .ok (.istore 6, 2) := by decide +kernel
theorem dX5_lacks_57 : decode cX5_lacks 57 = .ok (.iload 6, 2) := by decide +kernel
theorem dX5_lacks_59 : decode cX5_lacks 59 = .ok (.iload_n 3, 1) := by decide +kernel
theorem dX5_lacks_60 : decode cX5_lacks 60 = .ok (.if_icmp .gt 44, 3) := by decide +kernel
theorem dX5_lacks_63 : decode cX5_lacks 63 = .ok (.iload 5, 2) := by decide +kernel
theorem dX5_lacks_65 : decode cX5_lacks 65 = .ok (.aload_n 0, 1) := by decide +kernel
theorem dX5_lacks_66 : decode cX5_lacks 66 = .ok (.iload_n 1, 1) := by decide +kernel
theorem dX5_lacks_67 : decode cX5_lacks 67 = .ok (.iload 6, 2) := by decide +kernel
theorem dX5_lacks_69 : decode cX5_lacks 69 = .ok (.aload_n 0, 1) := by decide +kernel
theorem dX5_lacks_70 : decode cX5_lacks 70 = .ok (.getfield 117, 3) := by decide +kernel
theorem dX5_lacks_73 : decode cX5_lacks 73 = .ok (.invokevirtual 209, 3) := by decide +kernel
theorem dX5_lacks_76 : decode cX5_lacks 76 = .ok (.iload 4, 2) := by decide +kernel
theorem dX5_lacks_78 : decode cX5_lacks 78 = .ok (.ifCond .ne 7, 3) := by decide +kernel
theorem dX5_lacks_81 : decode cX5_lacks 81 = .ok (.iconst (-1), 1) := by decide +kernel
theorem dX5_lacks_82 : decode cX5_lacks 82 = .ok (.goto 5, 3) := by decide +kernel
theorem dX5_lacks_85 : decode cX5_lacks 85 = .ok (.bipush 16, 2) := by decide +kernel
theorem dX5_lacks_87 : decode cX5_lacks 87 = .ok (.if_icmp .ne 7, 3) := by decide +kernel
theorem dX5_lacks_90 : decode cX5_lacks 90 = .ok (.iconst 1, 1) := by decide +kernel
theorem dX5_lacks_91 : decode cX5_lacks 91 = .ok (.goto 4, 3) := by decide +kernel
theorem dX5_lacks_94 : decode cX5_lacks 94 = .ok (.iconst 0, 1) := by decide +kernel
theorem dX5_lacks_95 : decode cX5_lacks 95 = .ok (.iadd, 1) := by decide +kernel
theorem dX5_lacks_96 : decode cX5_lacks 96 = .ok (.istore 5, 2) := by decide +kernel
theorem dX5_lacks_98 : decode cX5_lacks 98 = .ok (.iinc 6 1, 3) := by decide +kernel
theorem dX5_lacks_101 : decode cX5_lacks 101 = .ok (.goto (-44), 3) := by decide +kernel
theorem dX5_lacks_104 : decode cX5_lacks 104 = .ok (.iload 5, 2) := by decide +kernel
theorem dX5_lacks_106 : decode cX5_lacks 106 = .ok (.ireturn, 1) := by decide +kernel
set_option maxRecDepth 20000 in
theorem ggX5_swap_X5_isStave : GoodIn wsX5_swap wsX5_isStave := goodIn_r _ [8, 9, 10, 11, 12, 13, 7, 14, 15, 35, 36, 37, 38, 39, 40, 41, 42, 43, 44, 45, 46, 47, 48, 49, 50, 51, 52, 53, 54, 55, 56, 57, 58, 59, 60, 61, 62, 63, 64, 65, 66, 67, 68] (by decide +kernel) (by decide +kernel)
set_option maxRecDepth 20000 in
theorem gX5_swap_X5_isStave : GoodIn wsX5_swap (wsV RX5 197 RX5 yX5_isStave wsX5_isStave) := goodIn_app (goodIn_of _ (by decide +kernel)) ggX5_swap_X5_isStave
set_option maxRecDepth 20000 in
theorem ggX5_swap_X5_fail : GoodIn wsX5_swap wsX5_fail := goodIn_r _ [19, 1, 35, 36, 37, 38, 39, 40, 41, 42, 43, 44, 45, 46, 47, 48, 49, 50, 51, 52, 53, 54, 55, 56, 57, 58, 59, 60, 61, 62, 63, 64, 65, 66, 67, 68] (by decide +kernel) (by decide +kernel)
set_option maxRecDepth 20000 in
theorem gX5_swap_X5_fail : GoodIn wsX5_swap (wsV RX5 94 RX5 yX5_fail wsX5_fail) := goodIn_app (goodIn_of _ (by decide +kernel)) ggX5_swap_X5_fail
set_option maxRecDepth 20000 in
theorem ggX5_swap_X5_middle : GoodIn wsX5_swap wsX5_middle := goodIn_r _ [23, 10, 24, 25, 26, 27, 7, 28, 9, 29, 30, 31, 32, 33, 34, 35, 36, 37, 38, 39, 40, 41, 42, 43, 44, 45, 46, 47, 48, 49, 50, 51, 52, 53, 54, 55, 56, 57, 58, 59, 60, 61, 62, 63, 64, 65, 66, 67, 68] (by decide +kernel) (by decide +kernel)
set_option maxRecDepth 20000 in
theorem gX5_swap_X5_middle : GoodIn wsX5_swap (wsV RX5 200 RX5 yX5_middle wsX5_middle) := goodIn_app (goodIn_of _ (by decide +kernel)) ggX5_swap_X5_middle
theorem dX5_swap_0 : decode cX5_swap 0 = .ok (.aload_n 0, 1) := by decide +kernel
theorem dX5_swap_1 : decode cX5_swap 1 = .ok (.iconst 0, 1) := by decide +kernel
theorem dX5_swap_2 : decode cX5_swap 2 = .ok (.putfield 83, 3) := by decide +kernel
theorem dX5_swap_5 : decode cX5_swap 5 = .ok (.aload_n 0, 1) := by decide +kernel
theorem dX5_swap_6 : decode cX5_swap 6 = .ok (.iload_n 1, 1) := by decide +kernel
theorem dX5_swap_7 : decode cX5_swap 7 = .ok (.iload_n 2, 1) := by decide +kernel
theorem dX5_swap_8 : decode cX5_swap 8 = .ok (.invokevirtual 197, 3) := by decide +kernel
theorem dX5_swap_11 : decode cX5_swap 11 = .ok (.ifCond .eq 13, 3) := by decide +kernel
theorem dX5_swap_14 : decode cX5_swap 14 = .ok (.aload_n 0, 1) := by decide +kernel
theorem dX5_swap_15 : decode cX5_swap 15 = .ok (.iload_n 3, 1) := by decide +kernel
theorem dX5_swap_16 : decode cX5_swap 16 = .ok (.iload 4, 2) := by decide +kernel
theorem dX5_swap_18 : decode cX5_swap 18 = .ok (.invokevirtual 197, 3) := by decide +kernel
theorem dX5_swap_21 : decode cX5_swap 21 = .ok (.ifCond .ne 11, 3) := by decide +kernel
theorem dX5_swap_24 : decode cX5_swap 24 = .ok (.aload_n 0, 1) := by decide +kernel
theorem dX5_swap_25 : decode cX5_swap 25 = .ok (.iconst 1, 1) := by decide +kernel
theorem dX5_swap_26 : decode cX5_swap 26 = .ok (.invokevirtual 94, 3) := by decide +kernel
theorem dX5_swap_29 : decode cX5_swap 29 = .ok (.pop, 1) := by decide +kernel
theorem dX5_swap_30 : decode cX5_swap 30 = .ok (.iconst 0, 1) := by decide +kernel
theorem dX5_swap_31 : decode cX5_swap 31 = .ok (.ireturn, 1) := by decide +kernel
theorem dX5_swap_32 : decode cX5_swap 32 = .ok (.iload_n 1, 1) := by decide +kernel
theorem dX5_swap_33 : decode cX5_swap 33 = .ok (.iload_n 3, 1) := by decide +kernel
theorem dX5_swap_34 : decode cX5_swap 34 = .ok (.if_icmp .eq 19, 3) := by decide +kernel
theorem dX5_swap_37 : decode cX5_swap 37 = .ok (.aload_n 0, 1) := by decide +kernel
theorem dX5_swap_38 : decode cX5_swap 38 = .ok (.iload_n 1, 1) := by decide +kernel
theorem dX5_swap_39 : decode cX5_swap 39 = .ok (.iload_n 2, 1) := by decide +kernel
theorem dX5_swap_40 : decode cX5_swap 40 = .ok (.invokevirtual 200, 3) := by decide +kernel
theorem dX5_swap_43 : decode cX5_swap 43 = .ok (.aload_n 0, 1) := by decide +kernel
theorem dX5_swap_44 : decode cX5_swap 44 = .ok (.iload_n 3, 1) := by decide +kernel
theorem dX5_swap_45 : decode cX5_swap 45 = .ok (.iload 4, 2) := by decide +kernel
theorem dX5_swap_47 : decode cX5_swap 47 = .ok (.invokevirtual 200, 3) := by decide +kernel
theorem dX5_swap_50 : decode cX5_swap 50 = .ok (.if_icmp .eq 5, 3) := by decide +kernel
theorem dX5_swap_53 : decode cX5_swap 53 = .ok (.iconst 0, 1) := by decide +kernel
theorem dX5_swap_54 : decode cX5_swap 54 = .ok (.ireturn, 1) := by decide +kernel
theorem dX5_swap_55 : decode cX5_swap 55 = .ok (.bipush 40, 2) := by decide +kernel
theorem dX5_swap_57 : decode cX5_swap 57 = .ok (.iload_n 1, 1) := by decide +kernel
theorem dX5_swap_58 : decode cX5_swap 58 = .ok (.imul, 1) := by decide +kernel
theorem dX5_swap_59 : decode cX5_swap 59 = .ok (.iload_n 2, 1) := by decide +kernel
theorem dX5_swap_60 : decode cX5_swap 60 = .ok (.iadd, 1) := by decide +kernel
theorem dX5_swap_61 : decode cX5_swap 61 = .ok (.istore 5, 2) := by decide +kernel
theorem dX5_swap_63 : decode cX5_swap 63 = .ok (.bipush 40, 2) := by decide +kernel
theorem dX5_swap_65 : decode cX5_swap 65 = .ok (.iload_n 3, 1) := by decide +kernel
theorem dX5_swap_66 : decode cX5_swap 66 = .ok (.imul, 1) := by decide +kernel
theorem dX5_swap_67 : decode cX5_swap 67 = .ok (.iload 4, 2) := by decide +kernel
theorem dX5_swap_69 : decode cX5_swap 69 = .ok (.iadd, 1) := by decide +kernel
theorem dX5_swap_70 : decode cX5_swap 70 = .ok (.istore 6, 2) := by decide +kernel
theorem dX5_swap_72 : decode cX5_swap 72 = .ok (.aload_n 0, 1) := by decide +kernel
theorem dX5_swap_73 : decode cX5_swap 73 = .ok (.getfield 37, 3) := by decide +kernel
theorem dX5_swap_76 : decode cX5_swap 76 = .ok (.iload 5, 2) := by decide +kernel
theorem dX5_swap_78 : decode cX5_swap 78 = .ok (.iaload, 1) := by decide +kernel
theorem dX5_swap_79 : decode cX5_swap 79 = .ok (.istore 7, 2) := by decide +kernel
theorem dX5_swap_81 : decode cX5_swap 81 = .ok (.aload_n 0, 1) := by decide +kernel
theorem dX5_swap_82 : decode cX5_swap 82 = .ok (.getfield 37, 3) := by decide +kernel
theorem dX5_swap_85 : decode cX5_swap 85 = .ok (.iload 5, 2) := by decide +kernel
theorem dX5_swap_87 : decode cX5_swap 87 = .ok (.aload_n 0, 1) := by decide +kernel
theorem dX5_swap_88 : decode cX5_swap 88 = .ok (.getfield 37, 3) := by decide +kernel
theorem dX5_swap_91 : decode cX5_swap 91 = .ok (.iload 6, 2) := by decide +kernel
theorem dX5_swap_93 : decode cX5_swap 93 = .ok (.iaload, 1) := by decide +kernel
theorem dX5_swap_94 : decode cX5_swap 94 = .ok (.iastore, 1) := by decide +kernel
theorem dX5_swap_95 : decode cX5_swap 95 = .ok (.aload_n 0, 1) := by decide +kernel
theorem dX5_swap_96 : decode cX5_swap 96 = .ok (.getfield 37, 3) := by decide +kernel
theorem dX5_swap_99 : decode cX5_swap 99 = .ok (.iload 6, 2) := by decide +kernel
theorem dX5_swap_101 : decode cX5_swap 101 = .ok (.iload 7, 2) := by decide +kernel
theorem dX5_swap_103 : decode cX5_swap 103 = .ok (.iastore, 1) := by decide +kernel
theorem dX5_swap_104 : decode cX5_swap 104 = .ok (.aload_n 0, 1) := by decide +kernel
theorem dX5_swap_105 : decode cX5_swap 105 = .ok (.getfield 40, 3) := by decide +kernel
theorem dX5_swap_108 : decode cX5_swap 108 = .ok (.iload 5, 2) := by decide +kernel
theorem dX5_swap_110 : decode cX5_swap 110 = .ok (.iaload, 1) := by decide +kernel
theorem dX5_swap_111 : decode cX5_swap 111 = .ok (.istore 8, 2) := by decide +kernel
theorem dX5_swap_113 : decode cX5_swap 113 = .ok (.aload_n 0, 1) := by decide +kernel
theorem dX5_swap_114 : decode cX5_swap 114 = .ok (.getfield 40, 3) := by decide +kernel
theorem dX5_swap_117 : decode cX5_swap 117 = .ok (.iload 5, 2) := by decide +kernel
theorem dX5_swap_119 : decode cX5_swap 119 = .ok (.aload_n 0, 1) := by decide +kernel
theorem dX5_swap_120 : decode cX5_swap 120 = .ok (.getfield 40, 3) := by decide +kernel
theorem dX5_swap_123 : decode cX5_swap 123 = .ok (.iload 6, 2) := by decide +kernel
theorem dX5_swap_125 : decode cX5_swap 125 = .ok (.iaload, 1) := by decide +kernel
theorem dX5_swap_126 : decode cX5_swap 126 = .ok (.iastore, 1) := by decide +kernel
theorem dX5_swap_127 : decode cX5_swap 127 = .ok (.aload_n 0, 1) := by decide +kernel
theorem dX5_swap_128 : decode cX5_swap 128 = .ok (.getfield 40, 3) := by decide +kernel
theorem dX5_swap_131 : decode cX5_swap 131 = .ok (.iload 6, 2) := by decide +kernel
theorem dX5_swap_133 : decode cX5_swap 133 = .ok (.iload 8, 2) := by decide +kernel
theorem dX5_swap_135 : decode cX5_swap 135 = .ok (.iastore, 1) := by decide +kernel
theorem dX5_swap_136 : decode cX5_swap 136 = .ok (.iconst 1, 1) := by decide +kernel
theorem dX5_swap_137 : decode cX5_swap 137 = .ok (.ireturn, 1) := by decide +kernel
set_option maxRecDepth 20000 in
theorem ggX5_renew_X5_isStave : GoodIn wsX5_renew wsX5_isStave := goodIn_r _ [12, 13, 14, 15, 16, 17, 11, 18, 19, 56, 57, 58, 59, 60, 61, 62, 63, 64, 65, 66, 67, 68, 69, 70, 71, 72, 73, 74, 75, 76, 77, 78, 79, 80, 81, 82, 83, 84, 85, 86, 87, 88, 89] (by decide +kernel) (by decide +kernel)
set_option maxRecDepth 20000 in
theorem gX5_renew_X5_isStave : GoodIn wsX5_renew (wsV RX5 197 RX5 yX5_isStave wsX5_isStave) := goodIn_app (goodIn_of _ (by decide +kernel)) ggX5_renew_X5_isStave
set_option maxRecDepth 20000 in
theorem ggX5_renew_X5_fail : GoodIn wsX5_renew wsX5_fail := goodIn_r _ [23, 1, 56, 57, 58, 59, 60, 61, 62, 63, 64, 65, 66, 67, 68, 69, 70, 71, 72, 73, 74, 75, 76, 77, 78, 79, 80, 81, 82, 83, 84, 85, 86, 87, 88, 89] (by decide +kernel) (by decide +kernel)
set_option maxRecDepth 20000 in
theorem gX5_renew_X5_fail : GoodIn wsX5_renew (wsV RX5 94 RX5 yX5_fail wsX5_fail) := goodIn_app (goodIn_of _ (by decide +kernel)) ggX5_renew_X5_fail
set_option maxRecDepth 20000 in
theorem ggX5_renew_X5_middle : GoodIn wsX5_renew wsX5_middle := goodIn_r _ [27, 14, 28, 29, 30, 31, 11, 32, 13, 33, 34, 35, 36, 37, 38, 56, 57, 58, 59, 60, 61, 62, 63, 64, 65, 66, 67, 68, 69, 70, 71, 72, 73, 74, 75, 76, 77, 78, 79, 80, 81, 82, 83, 84, 85, 86, 87, 88, 89] (by decide +kernel) (by decide +kernel)
set_option maxRecDepth 20000 in
theorem gX5_renew_X5_middle : GoodIn wsX5_renew (wsV RX5 200 RX5 yX5_middle wsX5_middle) := goodIn_app (goodIn_of _ (by decide +kernel)) ggX5_renew_X5_middle
set_option maxRecDepth 20000 in
theorem ggX5_renew_X5_isRipe : GoodIn wsX5_renew wsX5_isRipe := goodIn_r _ [42, 43, 44, 56, 57, 58, 59, 60, 61, 62, 63, 64, 65, 66, 67, 68, 69, 70, 71, 72, 73, 74, 75, 76, 77, 78, 79, 80, 81, 82, 83, 84, 85, 86, 87, 88, 89] (by decide +kernel) (by decide +kernel)
set_option maxRecDepth 20000 in
theorem gX5_renew_X5_isRipe : GoodIn wsX5_renew (wsV RX5 139 RX5 yX5_isRipe wsX5_isRipe) := goodIn_app (goodIn_of _ (by decide +kernel)) ggX5_renew_X5_isRipe
set_option maxRecDepth 20000 in
theorem ggX5_renew_X5_part : GoodIn wsX5_renew wsX5_part := goodIn_r _ [47] (by decide +kernel) (by decide +kernel)
set_option maxRecDepth 20000 in
theorem gX5_renew_X5_part : GoodIn wsX5_renew (va_wsS RX5 125 yX5_part wsX5_part) := goodIn_app (goodIn_of _ (by decide +kernel)) ggX5_renew_X5_part
set_option maxRecDepth 20000 in
theorem ggX5_renew_X5_cut : GoodIn wsX5_renew wsX5_cut := goodIn_r _ [51, 5, 45, 46, 11, 47, 56, 57, 58, 59, 60, 61, 62, 63, 64, 65, 66, 67, 68, 69, 70, 71, 72, 73, 74, 75, 76, 77, 78, 79, 80, 81, 82, 83, 84, 85, 86, 87, 88, 89] (by decide +kernel) (by decide +kernel)
set_option maxRecDepth 20000 in
theorem gX5_renew_X5_cut : GoodIn wsX5_renew (wsV RX5 187 RX5 yX5_cut wsX5_cut) := goodIn_app (goodIn_of _ (by decide +kernel)) ggX5_renew_X5_cut
set_option maxRecDepth 20000 in
theorem ggX5_renew_X5_tidy : GoodIn wsX5_renew wsX5_tidy := goodIn_r _ [55, 3, 5, 4, 45, 46, 11, 47, 56, 57, 58, 59, 60, 61, 62, 63, 64, 65, 66, 67, 68, 69, 70, 71, 72, 73, 74, 75, 76, 77, 78, 79, 80, 81, 82, 83, 84, 85, 86, 87, 88, 89] (by decide +kernel) (by decide +kernel)
set_option maxRecDepth 20000 in
theorem gX5_renew_X5_tidy : GoodIn wsX5_renew (wsV RX5 191 RX5 yX5_tidy wsX5_tidy) := goodIn_app (goodIn_of _ (by decide +kernel)) ggX5_renew_X5_tidy
theorem dX5_renew_0 : decode cX5_renew 0 = .ok (.aload_n 0, 1) := by decide +kernel
theorem dX5_renew_1 : decode cX5_renew 1 = .ok (.iconst 0, 1) := by decide +kernel
theorem dX5_renew_2 : decode cX5_renew 2 = .ok (.putfield 83, 3) := by decide +kernel
theorem dX5_renew_5 : decode cX5_renew 5 = .ok (.aload_n 0, 1) := by decide +kernel
theorem dX5_renew_6 : decode cX5_renew 6 = .ok (.iload_n 1, 1) := by decide +kernel
theorem dX5_renew_7 : decode cX5_renew 7 = .ok (.iload_n 2, 1) := by decide +kernel
theorem dX5_renew_8 : decode cX5_renew 8 = .ok (.invokevirtual 197, 3) := by decide +kernel
theorem dX5_renew_11 : decode cX5_renew 11 = .ok (.ifCond .ne 9, 3) := by decide +kernel
theorem dX5_renew_14 : decode cX5_renew 14 = .ok (.aload_n 0, 1) := by decide +kernel
theorem dX5_renew_15 : decode cX5_renew 15 = .ok (.iconst 1, 1) := by decide +kernel
theorem dX5_renew_16 : decode cX5_renew 16 = .ok (.invokevirtual 94, 3) := by decide +kernel
theorem dX5_renew_19 : decode cX5_renew 19 = .ok (.ireturn, 1) := by decide +kernel
theorem dX5_renew_20 : decode cX5_renew 20 = .ok (.aload_n 0, 1) := by decide +kernel
theorem dX5_renew_21 : decode cX5_renew 21 = .ok (.iload_n 1, 1) := by decide +kernel
theorem dX5_renew_22 : decode cX5_renew 22 = .ok (.iload_n 2, 1) := by decide +kernel
theorem dX5_renew_23 : decode cX5_renew 23 = .ok (.invokevirtual 200, 3) := by decide +kernel
theorem dX5_renew_26 : decode cX5_renew 26 = .ok (.iconst 2, 1) := by decide +kernel
theorem dX5_renew_27 : decode cX5_renew 27 = .ok (.iadd, 1) := by decide +kernel
theorem dX5_renew_28 : decode cX5_renew 28 = .ok (.istore_n 3, 1) := by decide +kernel
theorem dX5_renew_29 : decode cX5_renew 29 = .ok (.iconst 0, 1) := by decide +kernel
theorem dX5_renew_30 : decode cX5_renew 30 = .ok (.istore 4, 2) := by decide +kernel
theorem dX5_renew_32 : decode cX5_renew 32 = .ok (.iload 4, 2) := by decide +kernel
theorem dX5_renew_34 : decode cX5_renew 34 = .ok (.aload_n 0, 1) := by decide +kernel
theorem dX5_renew_35 : decode cX5_renew 35 = .ok (.getfield 122, 3) := by decide +kernel
theorem dX5_renew_38 : decode cX5_renew 38 = .ok (.if_icmp .ge 114, 3) := by decide +kernel
theorem dX5_renew_41 : decode cX5_renew 41 = .ok (.iconst 0, 1) := by decide +kernel
theorem dX5_renew_42 : decode cX5_renew 42 = .ok (.istore 5, 2) := by decide +kernel
theorem dX5_renew_44 : decode cX5_renew 44 = .ok (.iload 5, 2) := by decide +kernel
theorem dX5_renew_46 : decode cX5_renew 46 = .ok (.aload_n 0, 1) := by decide +kernel
theorem dX5_renew_47 : decode cX5_renew 47 = .ok (.getfield 25, 3) := by decide +kernel
theorem dX5_renew_50 : decode cX5_renew 50 = .ok (.iload 4, 2) := by decide +kernel
theorem dX5_renew_52 : decode cX5_renew 52 = .ok (.iaload, 1) := by decide +kernel
theorem dX5_renew_53 : decode cX5_renew 53 = .ok (.if_icmp .ge 93, 3) := by decide +kernel
theorem dX5_renew_56 : decode cX5_renew 56 = .ok (.aload_n 0, 1) := by decide +kernel
theorem dX5_renew_57 : decode cX5_renew 57 = .ok (.iload 4, 2) := by decide +kernel
theorem dX5_renew_59 : decode cX5_renew 59 = .ok (.invokevirtual 139, 3) := by decide +kernel
theorem dX5_renew_62 : decode cX5_renew 62 = .ok (.ifCond .eq 84, 3) := by decide +kernel
theorem dX5_renew_65 : decode cX5_renew 65 = .ok (.aload_n 0, 1) := by decide +kernel
theorem dX5_renew_66 : decode cX5_renew 66 = .ok (.getfield 31, 3) := by decide +kernel
theorem dX5_renew_69 : decode cX5_renew 69 = .ok (.iload 4, 2) := by decide +kernel
theorem dX5_renew_71 : decode cX5_renew 71 = .ok (.iload 5, 2) := by decide +kernel
theorem dX5_renew_73 : decode cX5_renew 73 = .ok (.invokestatic 125, 3) := by decide +kernel
theorem dX5_renew_76 : decode cX5_renew 76 = .ok (.iaload, 1) := by decide +kernel
theorem dX5_renew_77 : decode cX5_renew 77 = .ok (.aload_n 0, 1) := by decide +kernel
theorem dX5_renew_78 : decode cX5_renew 78 = .ok (.getfield 28, 3) := by decide +kernel
theorem dX5_renew_81 : decode cX5_renew 81 = .ok (.iload 4, 2) := by decide +kernel
theorem dX5_renew_83 : decode cX5_renew 83 = .ok (.iload 5, 2) := by decide +kernel
theorem dX5_renew_85 : decode cX5_renew 85 = .ok (.invokestatic 125, 3) := by decide +kernel
theorem dX5_renew_88 : decode cX5_renew 88 = .ok (.iaload, 1) := by decide +kernel
theorem dX5_renew_89 : decode cX5_renew 89 = .ok (.isub, 1) := by decide +kernel
theorem dX5_renew_90 : decode cX5_renew 90 = .ok (.iload_n 3, 1) := by decide +kernel
theorem dX5_renew_91 : decode cX5_renew 91 = .ok (.if_icmp .ge 6, 3) := by decide +kernel
theorem dX5_renew_94 : decode cX5_renew 94 = .ok (.goto 46, 3) := by decide +kernel
theorem dX5_renew_97 : decode cX5_renew 97 = .ok (.aload_n 0, 1) := by decide +kernel
theorem dX5_renew_98 : decode cX5_renew 98 = .ok (.iload 4, 2) := by decide +kernel
theorem dX5_renew_100 : decode cX5_renew 100 = .ok (.iload 5, 2) := by decide +kernel
theorem dX5_renew_102 : decode cX5_renew 102 = .ok (.iload_n 3, 1) := by decide +kernel
theorem dX5_renew_103 : decode cX5_renew 103 = .ok (.invokevirtual 187, 3) := by decide +kernel
theorem dX5_renew_106 : decode cX5_renew 106 = .ok (.aload_n 0, 1) := by decide +kernel
theorem dX5_renew_107 : decode cX5_renew 107 = .ok (.iload 4, 2) := by decide +kernel
theorem dX5_renew_109 : decode cX5_renew 109 = .ok (.invokevirtual 191, 3) := by decide +kernel
theorem dX5_renew_112 : decode cX5_renew 112 = .ok (.aload_n 0, 1) := by decide +kernel
theorem dX5_renew_113 : decode cX5_renew 113 = .ok (.getfield 37, 3) := by decide +kernel
theorem dX5_renew_116 : decode cX5_renew 116 = .ok (.bipush 40, 2) := by decide +kernel
theorem dX5_renew_118 : decode cX5_renew 118 = .ok (.iload_n 1, 1) := by decide +kernel
theorem dX5_renew_119 : decode cX5_renew 119 = .ok (.imul, 1) := by decide +kernel
theorem dX5_renew_120 : decode cX5_renew 120 = .ok (.iload_n 2, 1) := by decide +kernel
theorem dX5_renew_121 : decode cX5_renew 121 = .ok (.iadd, 1) := by decide +kernel
theorem dX5_renew_122 : decode cX5_renew 122 = .ok (.iload 4, 2) := by decide +kernel
theorem dX5_renew_124 : decode cX5_renew 124 = .ok (.iastore, 1) := by decide +kernel
theorem dX5_renew_125 : decode cX5_renew 125 = .ok (.aload_n 0, 1) := by decide +kernel
theorem dX5_renew_126 : decode cX5_renew 126 = .ok (.getfield 40, 3) := by decide +kernel
theorem dX5_renew_129 : decode cX5_renew 129 = .ok (.bipush 40, 2) := by decide +kernel
theorem dX5_renew_131 : decode cX5_renew 131 = .ok (.iload_n 1, 1) := by decide +kernel
theorem dX5_renew_132 : decode cX5_renew 132 = .ok (.imul, 1) := by decide +kernel
theorem dX5_renew_133 : decode cX5_renew 133 = .ok (.iload_n 2, 1) := by decide +kernel
theorem dX5_renew_134 : decode cX5_renew 134 = .ok (.iadd, 1) := by decide +kernel
theorem dX5_renew_135 : decode cX5_renew 135 = .ok (.iconst 0, 1) := by decide +kernel
theorem dX5_renew_136 : decode cX5_renew 136 = .ok (.iastore, 1) := by decide +kernel
theorem dX5_renew_137 : decode cX5_renew 137 = .ok (.iload 4, 2) := by decide +kernel
theorem dX5_renew_139 : decode cX5_renew 139 = .ok (.ireturn, 1) := by decide +kernel
theorem dX5_renew_140 : decode cX5_renew 140 = .ok (.iinc 5 1, 3) := by decide +kernel
theorem dX5_renew_143 : decode cX5_renew 143 = .ok (.goto (-99), 3) := by decide +kernel
theorem dX5_renew_146 : decode cX5_renew 146 = .ok (.iinc 4 1, 3) := by decide +kernel
theorem dX5_renew_149 : decode cX5_renew 149 = .ok (.goto (-117), 3) := by decide +kernel
theorem dX5_renew_152 : decode cX5_renew 152 = .ok (.iconst (-1), 1) := by decide +kernel
theorem dX5_renew_153 : decode cX5_renew 153 = .ok (.ireturn, 1) := by decide +kernel
set_option maxRecDepth 20000 in
theorem ggX5_weight_X5_isKind : GoodIn wsX5_weight wsX5_isKind := goodIn_r _ [6] (by decide +kernel) (by decide +kernel)
set_option maxRecDepth 20000 in
theorem gX5_weight_X5_isKind : GoodIn wsX5_weight (va_wsS RX5 203 yX5_isKind wsX5_isKind) := goodIn_app (goodIn_of _ (by decide +kernel)) ggX5_weight_X5_isKind
set_option maxRecDepth 20000 in
theorem ggX5_weight_X5_fail : GoodIn wsX5_weight wsX5_fail := goodIn_r _ [10, 1, 11, 12, 13, 14, 15, 16, 17, 18, 19, 20, 21, 22, 23, 24, 25, 26, 27, 28, 29, 30, 31, 32, 33, 34, 35, 36, 37, 38, 39, 40, 41, 42, 43, 44] (by decide +kernel) (by decide +kernel)
set_option maxRecDepth 20000 in
theorem gX5_weight_X5_fail : GoodIn wsX5_weight (wsV RX5 94 RX5 yX5_fail wsX5_fail) := goodIn_app (goodIn_of _ (by decide +kernel)) ggX5_weight_X5_fail
theorem dX5_weight_0 : decode cX5_weight 0 = .ok (.aload_n 0, 1) := by decide +kernel
theorem dX5_weight_1 : decode cX5_weight 1 = .ok (.iconst 0, 1) := by decide +kernel
theorem dX5_weight_2 : decode cX5_weight 2 = .ok (.putfield 83, 3) := by decide +kernel
theorem dX5_weight_5 : decode cX5_weight 5 = .ok (.iload_n 1, 1) := by decide +kernel
theorem dX5_weight_6 : decode cX5_weight 6 = .ok (.invokestatic 203, 3) := by decide +kernel
theorem dX5_weight_9 : decode cX5_weight 9 = .ok (.ifCond .eq 15, 3) := by decide +kernel
theorem dX5_weight_12 : decode cX5_weight 12 = .ok (.iload_n 2, 1) := by decide +kernel
theorem dX5_weight_13 : decode cX5_weight 13 = .ok (.iconst 1, 1) := by decide +kernel
theorem dX5_weight_14 : decode cX5_weight 14 = .ok (.if_icmp .lt 10, 3) := by decide +kernel
theorem dX5_weight_17 : decode cX5_weight 17 = .ok (.iload_n 2, 1) := by decide +kernel
theorem dX5_weight_18 : decode cX5_weight 18 = .ok (.sipush 5000, 3) := by decide +kernel
theorem dX5_weight_21 : decode cX5_weight 21 = .ok (.if_icmp .le 9, 3) := by decide +kernel
theorem dX5_weight_24 : decode cX5_weight 24 = .ok (.aload_n 0, 1) := by decide +kernel
theorem dX5_weight_25 : decode cX5_weight 25 = .ok (.iconst 1, 1) := by decide +kernel
theorem dX5_weight_26 : decode cX5_weight 26 = .ok (.invokevirtual 94, 3) := by decide +kernel
theorem dX5_weight_29 : decode cX5_weight 29 = .ok (.ireturn, 1) := by decide +kernel
theorem dX5_weight_30 : decode cX5_weight 30 = .ok (.aload_n 0, 1) := by decide +kernel
theorem dX5_weight_31 : decode cX5_weight 31 = .ok (.getfield 59, 3) := by decide +kernel
theorem dX5_weight_34 : decode cX5_weight 34 = .ok (.iload_n 1, 1) := by decide +kernel
theorem dX5_weight_35 : decode cX5_weight 35 = .ok (.iaload, 1) := by decide +kernel
theorem dX5_weight_36 : decode cX5_weight 36 = .ok (.istore_n 3, 1) := by decide +kernel
theorem dX5_weight_37 : decode cX5_weight 37 = .ok (.aload_n 0, 1) := by decide +kernel
theorem dX5_weight_38 : decode cX5_weight 38 = .ok (.getfield 59, 3) := by decide +kernel
theorem dX5_weight_41 : decode cX5_weight 41 = .ok (.iload_n 1, 1) := by decide +kernel
theorem dX5_weight_42 : decode cX5_weight 42 = .ok (.iload_n 2, 1) := by decide +kernel
theorem dX5_weight_43 : decode cX5_weight 43 = .ok (.iastore, 1) := by decide +kernel
theorem dX5_weight_44 : decode cX5_weight 44 = .ok (.iload_n 3, 1) := by decide +kernel
theorem dX5_weight_45 : decode cX5_weight 45 = .ok (.ireturn, 1) := by decide +kernel
set_option maxRecDepth 20000 in
theorem ggX5_weighs_X5_isCask : GoodIn wsX5_weighs wsX5_isCask := goodIn_r _ [11, 12, 42, 43, 44, 45, 46, 47, 48, 49, 50, 51, 52, 53, 54, 55, 56, 57, 58, 59, 60, 61, 62, 63, 64, 65, 66, 67, 68, 69, 70, 71, 72, 73, 74, 75] (by decide +kernel) (by decide +kernel)
set_option maxRecDepth 20000 in
theorem gX5_weighs_X5_isCask : GoodIn wsX5_weighs (wsV RX5 194 RX5 yX5_isCask wsX5_isCask) := goodIn_app (goodIn_of _ (by decide +kernel)) ggX5_weighs_X5_isCask
set_option maxRecDepth 20000 in
theorem ggX5_weighs_X5_fail : GoodIn wsX5_weighs wsX5_fail := goodIn_r _ [16, 1, 42, 43, 44, 45, 46, 47, 48, 49, 50, 51, 52, 53, 54, 55, 56, 57, 58, 59, 60, 61, 62, 63, 64, 65, 66, 67, 68, 69, 70, 71, 72, 73, 74, 75] (by decide +kernel) (by decide +kernel)
set_option maxRecDepth 20000 in
theorem gX5_weighs_X5_fail : GoodIn wsX5_weighs (wsV RX5 94 RX5 yX5_fail wsX5_fail) := goodIn_app (goodIn_of _ (by decide +kernel)) ggX5_weighs_X5_fail
set_option maxRecDepth 20000 in
theorem ggX5_weighs_X5_isHeight : GoodIn wsX5_weighs wsX5_isHeight := goodIn_r _ [20, 21, 42, 43, 44, 45, 46, 47, 48, 49, 50, 51, 52, 53, 54, 55, 56, 57, 58, 59, 60, 61, 62, 63, 64, 65, 66, 67, 68, 69, 70, 71, 72, 73, 74, 75] (by decide +kernel) (by decide +kernel)
set_option maxRecDepth 20000 in
theorem gX5_weighs_X5_isHeight : GoodIn wsX5_weighs (wsV RX5 98 RX5 yX5_isHeight wsX5_isHeight) := goodIn_app (goodIn_of _ (by decide +kernel)) ggX5_weighs_X5_isHeight
set_option maxRecDepth 20000 in
theorem ggX5_weighs_X5_heldOn : GoodIn wsX5_weighs wsX5_heldOn := goodIn_r _ [25, 26, 27, 28, 29, 42, 43, 44, 45, 46, 47, 48, 49, 50, 51, 52, 53, 54, 55, 56, 57, 58, 59, 60, 61, 62, 63, 64, 65, 66, 67, 68, 69, 70, 71, 72, 73, 74, 75] (by decide +kernel) (by decide +kernel)
set_option maxRecDepth 20000 in
theorem gX5_weighs_X5_heldOn : GoodIn wsX5_weighs (wsV RX5 209 RX5 yX5_heldOn wsX5_heldOn) := goodIn_app (goodIn_of _ (by decide +kernel)) ggX5_weighs_X5_heldOn
set_option maxRecDepth 20000 in
theorem ggX5_weighs_X5_holdsAt : GoodIn wsX5_weighs wsX5_holdsAt := goodIn_r _ [33, 34, 35, 36, 37, 38, 10, 39, 21, 40, 41, 42, 43, 44, 45, 46, 47, 48, 49, 50, 51, 52, 53, 54, 55, 56, 57, 58, 59, 60, 61, 62, 63, 64, 65, 66, 67, 68, 69, 70, 71, 72, 73, 74, 75] (by decide +kernel) (by decide +kernel)
set_option maxRecDepth 20000 in
theorem gX5_weighs_X5_holdsAt : GoodIn wsX5_weighs (wsV RX5 114 RX5 yX5_holdsAt wsX5_holdsAt) := goodIn_app (goodIn_of _ (by decide +kernel)) ggX5_weighs_X5_holdsAt
theorem dX5_weighs_0 : decode cX5_weighs 0 = .ok (.aload_n 0, 1) := by decide +kernel
theorem dX5_weighs_1 : decode cX5_weighs 1 = .ok (.iconst 0, 1) := by decide +kernel
theorem dX5_weighs_2 : decode cX5_weighs 2 = .ok (.putfield 83, 3) := by decide +kernel
theorem dX5_weighs_5 : decode cX5_weighs 5 = .ok (.aload_n 0, 1) := by decide +kernel
theorem dX5_weighs_6 : decode cX5_weighs 6 = .ok (.iload_n 1, 1) := by decide +kernel
theorem dX5_weighs_7 : decode cX5_weighs 7 = .ok (.invokevirtual 194, 3) := by decide +kernel
theorem dX5_weighs_10 : decode cX5_weighs 10 = .ok (.ifCond .ne 10, 3) := by decide +kernel
theorem dX5_weighs_13 : decode cX5_weighs 13 = .ok (.aload_n 0, 1) := by decide +kernel
theorem dX5_weighs_14 : decode cX5_weighs 14 = .ok (.iconst 1, 1) := by decide +kernel
theorem dX5_weighs_15 : decode cX5_weighs 15 = .ok (.invokevirtual 94, 3) := by decide +kernel
theorem dX5_weighs_18 : decode cX5_weighs 18 = .ok (.i2l, 1) := by decide +kernel
theorem dX5_weighs_19 : decode cX5_weighs 19 = .ok (.lreturn, 1) := by decide +kernel
theorem dX5_weighs_20 : decode cX5_weighs 20 = .ok (.aload_n 0, 1) := by decide +kernel
theorem dX5_weighs_21 : decode cX5_weighs 21 = .ok (.aload_n 0, 1) := by decide +kernel
theorem dX5_weighs_22 : decode cX5_weighs 22 = .ok (.getfield 34, 3) := by decide +kernel
theorem dX5_weighs_25 : decode cX5_weighs 25 = .ok (.iload_n 1, 1) := by decide +kernel
theorem dX5_weighs_26 : decode cX5_weighs 26 = .ok (.iaload, 1) := by decide +kernel
theorem dX5_weighs_27 : decode cX5_weighs 27 = .ok (.iload_n 2, 1) := by decide +kernel
theorem dX5_weighs_28 : decode cX5_weighs 28 = .ok (.invokevirtual 98, 3) := by decide +kernel
theorem dX5_weighs_31 : decode cX5_weighs 31 = .ok (.ifCond .ne 10, 3) := by decide +kernel
theorem dX5_weighs_34 : decode cX5_weighs 34 = .ok (.aload_n 0, 1) := by decide +kernel
theorem dX5_weighs_35 : decode cX5_weighs 35 = .ok (.iconst 2, 1) := by decide +kernel
theorem dX5_weighs_36 : decode cX5_weighs 36 = .ok (.invokevirtual 94, 3) := by decide +kernel
theorem dX5_weighs_39 : decode cX5_weighs 39 = .ok (.i2l, 1) := by decide +kernel
theorem dX5_weighs_40 : decode cX5_weighs 40 = .ok (.lreturn, 1) := by decide +kernel
theorem dX5_weighs_41 : decode cX5_weighs 41 = .ok (.aload_n 0, 1) := by decide +kernel
theorem dX5_weighs_42 : decode cX5_weighs 42 = .ok (.iload_n 1, 1) := by decide +kernel
theorem dX5_weighs_43 : decode cX5_weighs 43 = .ok (.aload_n 0, 1) := by decide +kernel
theorem dX5_weighs_44 : decode cX5_weighs 44 = .ok (.getfield 117, 3) := by decide +kernel
theorem dX5_weighs_47 : decode cX5_weighs 47 = .ok (.aload_n 0, 1) := by decide +kernel
theorem dX5_weighs_48 : decode cX5_weighs 48 = .ok (.getfield 117, 3) := by decide +kernel
theorem dX5_weighs_51 : decode cX5_weighs 51 = .ok (.invokevirtual 209, 3) := by decide +kernel
theorem dX5_weighs_54 : decode cX5_weighs 54 = .ok (.istore_n 3, 1) := by decide +kernel
theorem dX5_weighs_55 : decode cX5_weighs 55 = .ok (.iload_n 3, 1) := by decide +kernel
theorem dX5_weighs_56 : decode cX5_weighs 56 = .ok (.iconst (-1), 1) := by decide +kernel
theorem dX5_weighs_57 : decode cX5_weighs 57 = .ok (.if_icmp .eq 9, 3) := by decide +kernel
theorem dX5_weighs_60 : decode cX5_weighs 60 = .ok (.iload_n 3, 1) := by decide +kernel
theorem dX5_weighs_61 : decode cX5_weighs 61 = .ok (.bipush 16, 2) := by decide +kernel
theorem dX5_weighs_63 : decode cX5_weighs 63 = .ok (.if_icmp .ne 9, 3) := by decide +kernel
theorem dX5_weighs_66 : decode cX5_weighs 66 = .ok (.ldc2_w 213, 3) := by decide +kernel
theorem dX5_weighs_69 : decode cX5_weighs 69 = .ok (.goto 27, 3) := by decide +kernel
theorem dX5_weighs_72 : decode cX5_weighs 72 = .ok (.aload_n 0, 1) := by decide +kernel
theorem dX5_weighs_73 : decode cX5_weighs 73 = .ok (.aload_n 0, 1) := by decide +kernel
theorem dX5_weighs_74 : decode cX5_weighs 74 = .ok (.getfield 34, 3) := by decide +kernel
theorem dX5_weighs_77 : decode cX5_weighs 77 = .ok (.iload_n 1, 1) := by decide +kernel
theorem dX5_weighs_78 : decode cX5_weighs 78 = .ok (.iaload, 1) := by decide +kernel
theorem dX5_weighs_79 : decode cX5_weighs 79 = .ok (.iload_n 2, 1) := by decide +kernel
theorem dX5_weighs_80 : decode cX5_weighs 80 = .ok (.invokevirtual 114, 3) := by decide +kernel
theorem dX5_weighs_83 : decode cX5_weighs 83 = .ok (.i2l, 1) := by decide +kernel
theorem dX5_weighs_84 : decode cX5_weighs 84 = .ok (.aload_n 0, 1) := by decide +kernel
theorem dX5_weighs_85 : decode cX5_weighs 85 = .ok (.getfield 59, 3) := by decide +kernel
theorem dX5_weighs_88 : decode cX5_weighs 88 = .ok (.iload_n 3, 1) := by decide +kernel
theorem dX5_weighs_89 : decode cX5_weighs 89 = .ok (.iaload, 1) := by decide +kernel
theorem dX5_weighs_90 : decode cX5_weighs 90 = .ok (.i2l, 1) := by decide +kernel
theorem dX5_weighs_91 : decode cX5_weighs 91 = .ok (.lmul, 1) := by decide +kernel
theorem dX5_weighs_92 : decode cX5_weighs 92 = .ok (.ldc2_w 215, 3) := by decide +kernel
theorem dX5_weighs_95 : decode cX5_weighs 95 = .ok (.ldiv, 1) := by decide +kernel
theorem dX5_weighs_96 : decode cX5_weighs 96 = .ok (.lreturn, 1) := by decide +kernel
set_option maxRecDepth 20000 in
theorem ggX5_count_X5_fail : GoodIn wsX5_count wsX5_fail := goodIn_r _ [10, 1, 11, 12, 13, 14, 15, 16, 17, 18, 19, 20, 21, 22, 23, 24, 25, 26, 27, 28, 29, 30, 31, 32, 33, 34, 35, 36, 37, 38, 39, 40, 41, 42, 43, 44] (by decide +kernel) (by decide +kernel)
set_option maxRecDepth 20000 in
theorem gX5_count_X5_fail : GoodIn wsX5_count (wsV RX5 94 RX5 yX5_fail wsX5_fail) := goodIn_app (goodIn_of _ (by decide +kernel)) ggX5_count_X5_fail
theorem dX5_count_0 : decode cX5_count 0 = .ok (.aload_n 0, 1) := by decide +kernel
theorem dX5_count_1 : decode cX5_count 1 = .ok (.iconst 0, 1) := by decide +kernel
theorem dX5_count_2 : decode cX5_count 2 = .ok (.putfield 83, 3) := by decide +kernel
theorem dX5_count_5 : decode cX5_count 5 = .ok (.iload_n 1, 1) := by decide +kernel
theorem dX5_count_6 : decode cX5_count 6 = .ok (.tableswitch 50 0 3 #[30, 35, 40, 45], 30) := by decide +kernel
theorem dX5_count_36 : decode cX5_count 36 = .ok (.aload_n 0, 1) := by decide +kernel
theorem dX5_count_37 : decode cX5_count 37 = .ok (.getfield 117, 3) := by decide +kernel
theorem dX5_count_40 : decode cX5_count 40 = .ok (.ireturn, 1) := by decide +kernel
theorem dX5_count_41 : decode cX5_count 41 = .ok (.aload_n 0, 1) := by decide +kernel
theorem dX5_count_42 : decode cX5_count 42 = .ok (.getfield 87, 3) := by decide +kernel
theorem dX5_count_45 : decode cX5_count 45 = .ok (.ireturn, 1) := by decide +kernel
theorem dX5_count_46 : decode cX5_count 46 = .ok (.aload_n 0, 1) := by decide +kernel
theorem dX5_count_47 : decode cX5_count 47 = .ok (.getfield 122, 3) := by decide +kernel
theorem dX5_count_50 : decode cX5_count 50 = .ok (.ireturn, 1) := by decide +kernel
theorem dX5_count_51 : decode cX5_count 51 = .ok (.aload_n 0, 1) := by decide +kernel
theorem dX5_count_52 : decode cX5_count 52 = .ok (.getfield 184, 3) := by decide +kernel
theorem dX5_count_55 : decode cX5_count 55 = .ok (.ireturn, 1) := by decide +kernel
theorem dX5_count_56 : decode cX5_count 56 = .ok (.aload_n 0, 1) := by decide +kernel
theorem dX5_count_57 : decode cX5_count 57 = .ok (.iconst 1, 1) := by decide +kernel
theorem dX5_count_58 : decode cX5_count 58 = .ok (.invokevirtual 94, 3) := by decide +kernel
theorem dX5_count_61 : decode cX5_count 61 = .ok (.ireturn, 1) := by decide +kernel
end
section
/-! whole numbers in an int: zI z; the truth of a statement in an int: bI P -/
def zI (z : Int) : Int32 := Int32.ofInt z
theorem zI_toInt {z : Int} (h1 : -2147483648 ≤ z) (h2 : z < 2147483648) : (zI z).toInt = z := by
  have h : (zI z).toInt = z.bmod (2 ^ 32) := Int32.toInt_ofInt
  rw [h]
  exact Int.bmod_eq_of_le (by omega) (by omega)
theorem zI_self (x : Int32) : zI x.toInt = x := Int32.ofInt_toInt x
theorem zI_add (a b : Int) : zI a + zI b = zI (a + b) := (Int32.ofInt_add a b).symm
theorem zI_sub (a b : Int) : zI a - zI b = zI (a - b) := (Int32.ofInt_sub a b).symm
theorem zI_mul (a b : Int) : zI a * zI b = zI (a * b) := (Int32.ofInt_mul a b).symm
theorem zI_nI (n : Nat) : nI n = zI (n : Int) := rfl
def bI (P : Prop) [Decidable P] : Int32 := if P then 1 else 0
theorem bI_t {P : Prop} [Decidable P] (h : P) : bI P = nI 1 := by simp only [bI, if_pos h]; rfl
theorem bI_f {P : Prop} [Decidable P] (h : ¬ P) : bI P = nI 0 := by simp only [bI, if_neg h]; rfl
theorem bI_c {P Q : Prop} [Decidable P] [Decidable Q] (h : P ↔ Q) : bI P = bI Q := by
  by_cases hp : P
  · rw [bI_t hp, bI_t (h.mp hp)]
  · rw [bI_f hp, bI_f (fun q => hp (h.mpr q))]
theorem bI_0 {P : Prop} [Decidable P] : bI P = 0 ↔ ¬ P := by
  by_cases hp : P
  · rw [bI_t hp]; exact ⟨fun h => absurd h (by decide), fun h => absurd hp h⟩
  · rw [bI_f hp]; exact ⟨fun _ => hp, fun _ => rfl⟩
theorem bI_nar (P : Prop) [Decidable P] : narrow .boolean (.int (bI P)) = .int (bI P) := by
  by_cases hp : P
  · rw [bI_t hp]; decide
  · rw [bI_f hp]; decide
theorem bI_nar' (P : Prop) [Decidable P] : vp_nar .boolean (bI P) = bI P := by
  by_cases hp : P
  · rw [bI_t hp]; decide
  · rw [bI_f hp]; decide
theorem i_lt (a b : Int32) : a < b ↔ a.toInt < b.toInt := Int32.lt_iff_toInt_lt
theorem i_le (a b : Int32) : a ≤ b ↔ a.toInt ≤ b.toInt := Int32.le_iff_toInt_le
theorem i_eq (a b : Int32) : a = b ↔ a.toInt = b.toInt := Int32.toInt_inj.symm
theorem i_0 : (0 : Int32).toInt = 0 := rfl
theorem n_i {n : Nat} (h : n < 2147483648) : (nI n).toInt = (n : Int) := nI_toInt h
theorem i_lo (x : Int32) : -2147483648 ≤ x.toInt := by have := Int32.le_toInt x; omega
theorem i_hi (x : Int32) : x.toInt < 2147483648 := by have := Int32.toInt_lt x; omega
theorem i_of {x : Int32} {n : Nat} (h : x.toInt = (n : Int)) : x = nI n := by
  have := i_hi x
  exact (i_eq _ _).mpr (h.trans (n_i (by omega)).symm)
theorem z_n {z : Int} {n : Nat} (h : z = (n : Int)) : zI z = nI n := by subst h; rfl
theorem n_sub {a b : Nat} (h : b ≤ a) : nI a - nI b = nI (a - b) := pk_sub h
theorem n_div {a b : Nat} (ha : a < 2147483648) (h0 : 0 < b) (hb : b < 2147483648) : nI a / nI b = nI (a / b) := pk_div ha h0 hb
theorem n_rem {a b : Nat} (ha : a < 2147483648) (h0 : 0 < b) (hb : b < 2147483648) : nI a - nI a / nI b * nI b = nI (a % b) := pk_rem ha h0 hb
theorem n_ne0 {n : Nat} (h0 : 0 < n) (h : n < 2147483648) : ¬ nI n = 0 := nI_ne0 h0 h
section GR
variable {p : Program} {l : Launch} {e : Env} {R : Room} {s : State} {m : MethodId} {args : Array Value} {below : List Frame} {meth : Method} {c : Code} {H : Heap} {locs : List Loc} {cells slots : Nat} {Q : State → Prop} {cc : ByteArray} {pc : Nat} {ls : Array Slot} {rest : List Value}
theorem g_top {x y : Int32} (h : x = y) (k : W p l e R s m args below meth c H locs cells slots Q (F0 m pc ls (.int y :: rest))) : W p l e R s m args below meth c H locs cells slots Q (F0 m pc ls (.int x :: rest)) := by subst h; exact k
theorem g_topr {x y : Value} (h : x = y) (k : W p l e R s m args below meth c H locs cells slots Q (F0 m pc ls (y :: rest))) : W p l e R s m args below meth c H locs cells slots Q (F0 m pc ls (x :: rest)) := by subst h; exact k
theorem g_topl {x y : Int64} (h : x = y) (k : W p l e R s m args below meth c H locs cells slots Q (F0 m pc ls (.long y :: rest))) : W p l e R s m args below meth c H locs cells slots Q (F0 m pc ls (.long x :: rest)) := by subst h; exact k
theorem g_iadd_n (hx : p.tables.exec = Jvm.exec) (hb : c.code = cc) {a b : Nat} (hd : decode cc pc = .ok (.iadd, 1)) (k : W p l e R s m args below meth c H locs cells slots Q (F0 m (pc + 1) ls (.int (nI (a + b)) :: rest))) : W p l e R s m args below meth c H locs cells slots Q (F0 m pc ls (.int (nI b) :: .int (nI a) :: rest)) := lv_iadd hx hb hd (by rw [nI_add]; exact k)
theorem g_isub_n (hx : p.tables.exec = Jvm.exec) (hb : c.code = cc) {a b : Nat} (hd : decode cc pc = .ok (.isub, 1)) (h : b ≤ a) (k : W p l e R s m args below meth c H locs cells slots Q (F0 m (pc + 1) ls (.int (nI (a - b)) :: rest))) : W p l e R s m args below meth c H locs cells slots Q (F0 m pc ls (.int (nI b) :: .int (nI a) :: rest)) := lv_isub hx hb hd (by rw [n_sub h]; exact k)
theorem g_imul_n (hx : p.tables.exec = Jvm.exec) (hb : c.code = cc) {a b : Nat} (hd : decode cc pc = .ok (.imul, 1)) (k : W p l e R s m args below meth c H locs cells slots Q (F0 m (pc + 1) ls (.int (nI (a * b)) :: rest))) : W p l e R s m args below meth c H locs cells slots Q (F0 m pc ls (.int (nI b) :: .int (nI a) :: rest)) := lv_imul hx hb hd (by rw [pk_mul]; exact k)
theorem g_idiv_n (hx : p.tables.exec = Jvm.exec) (hb : c.code = cc) {a b : Nat} (hd : decode cc pc = .ok (.idiv, 1)) (ha : a < 2147483648) (h0 : 0 < b) (h1 : b < 2147483648) (k : W p l e R s m args below meth c H locs cells slots Q (F0 m (pc + 1) ls (.int (nI (a / b)) :: rest))) : W p l e R s m args below meth c H locs cells slots Q (F0 m pc ls (.int (nI b) :: .int (nI a) :: rest)) := lv_idiv hx hb hd (n_ne0 h0 h1) (by rw [n_div ha h0 h1]; exact k)
theorem g_irem_n (hx : p.tables.exec = Jvm.exec) (hb : c.code = cc) {a b : Nat} (hd : decode cc pc = .ok (.irem, 1)) (ha : a < 2147483648) (h0 : 0 < b) (h1 : b < 2147483648) (k : W p l e R s m args below meth c H locs cells slots Q (F0 m (pc + 1) ls (.int (nI (a % b)) :: rest))) : W p l e R s m args below meth c H locs cells slots Q (F0 m pc ls (.int (nI b) :: .int (nI a) :: rest)) := lv_irem hx hb hd (n_ne0 h0 h1) (by rw [n_rem ha h0 h1]; exact k)
theorem g_iadd_z (hx : p.tables.exec = Jvm.exec) (hb : c.code = cc) {x y : Int32} {i j : Int} (hd : decode cc pc = .ok (.iadd, 1)) (hi : x = zI i) (hj : y = zI j) (k : W p l e R s m args below meth c H locs cells slots Q (F0 m (pc + 1) ls (.int (zI (i + j)) :: rest))) : W p l e R s m args below meth c H locs cells slots Q (F0 m pc ls (.int y :: .int x :: rest)) := lv_iadd hx hb hd (by rw [hi, hj, zI_add]; exact k)
theorem g_isub_z (hx : p.tables.exec = Jvm.exec) (hb : c.code = cc) {x y : Int32} {i j : Int} (hd : decode cc pc = .ok (.isub, 1)) (hi : x = zI i) (hj : y = zI j) (k : W p l e R s m args below meth c H locs cells slots Q (F0 m (pc + 1) ls (.int (zI (i - j)) :: rest))) : W p l e R s m args below meth c H locs cells slots Q (F0 m pc ls (.int y :: .int x :: rest)) := lv_isub hx hb hd (by rw [hi, hj, zI_sub]; exact k)
theorem g_imul_z (hx : p.tables.exec = Jvm.exec) (hb : c.code = cc) {x y : Int32} {i j : Int} (hd : decode cc pc = .ok (.imul, 1)) (hi : x = zI i) (hj : y = zI j) (k : W p l e R s m args below meth c H locs cells slots Q (F0 m (pc + 1) ls (.int (zI (i * j)) :: rest))) : W p l e R s m args below meth c H locs cells slots Q (F0 m pc ls (.int y :: .int x :: rest)) := lv_imul hx hb hd (by rw [hi, hj, zI_mul]; exact k)
theorem g_icmp_eq (hx : p.tables.exec = Jvm.exec) (hb : c.code = cc) {x y : Int32} {i j : Int} {off : Int} {tgt : Nat} (hd : decode cc pc = .ok (.if_icmp .eq off, 3)) (ht : (pc : Int) + off = (tgt : Int)) (hi : x.toInt = i) (hj : y.toInt = j) (kt : i = j → W p l e R s m args below meth c H locs cells slots Q (F0 m tgt ls rest)) (kf : i ≠ j → W p l e R s m args below meth c H locs cells slots Q (F0 m (pc + 3) ls rest)) : W p l e R s m args below meth c H locs cells slots Q (F0 m pc ls (.int y :: .int x :: rest)) := lv_icmp_eq hx hb hd ht (fun h => kt (by rw [← hi, ← hj, h])) (fun h => kf (fun q => h ((i_eq _ _).mpr (by rw [hi, hj]; exact q))))
theorem g_if_eq (hx : p.tables.exec = Jvm.exec) (hb : c.code = cc) {x : Int32} {i : Int} {off : Int} {tgt : Nat} (hd : decode cc pc = .ok (.ifCond .eq off, 3)) (ht : (pc : Int) + off = (tgt : Int)) (hi : x.toInt = i) (kt : i = 0 → W p l e R s m args below meth c H locs cells slots Q (F0 m tgt ls rest)) (kf : i ≠ 0 → W p l e R s m args below meth c H locs cells slots Q (F0 m (pc + 3) ls rest)) : W p l e R s m args below meth c H locs cells slots Q (F0 m pc ls (.int x :: rest)) := lv_if_eq hx hb hd ht (fun h => kt (by rw [← hi, h]; rfl)) (fun h => kf (fun q => h ((i_eq _ _).mpr (by rw [hi, i_0]; exact q))))
theorem g_icmp_ne (hx : p.tables.exec = Jvm.exec) (hb : c.code = cc) {x y : Int32} {i j : Int} {off : Int} {tgt : Nat} (hd : decode cc pc = .ok (.if_icmp .ne off, 3)) (ht : (pc : Int) + off = (tgt : Int)) (hi : x.toInt = i) (hj : y.toInt = j) (kt : i ≠ j → W p l e R s m args below meth c H locs cells slots Q (F0 m tgt ls rest)) (kf : i = j → W p l e R s m args below meth c H locs cells slots Q (F0 m (pc + 3) ls rest)) : W p l e R s m args below meth c H locs cells slots Q (F0 m pc ls (.int y :: .int x :: rest)) := lv_icmp_ne hx hb hd ht (fun h => kt (fun q => h ((i_eq _ _).mpr (by rw [hi, hj]; exact q)))) (fun h => kf (by rw [← hi, ← hj, h]))
theorem g_if_ne (hx : p.tables.exec = Jvm.exec) (hb : c.code = cc) {x : Int32} {i : Int} {off : Int} {tgt : Nat} (hd : decode cc pc = .ok (.ifCond .ne off, 3)) (ht : (pc : Int) + off = (tgt : Int)) (hi : x.toInt = i) (kt : i ≠ 0 → W p l e R s m args below meth c H locs cells slots Q (F0 m tgt ls rest)) (kf : i = 0 → W p l e R s m args below meth c H locs cells slots Q (F0 m (pc + 3) ls rest)) : W p l e R s m args below meth c H locs cells slots Q (F0 m pc ls (.int x :: rest)) := lv_if_ne hx hb hd ht (fun h => kt (fun q => h ((i_eq _ _).mpr (by rw [hi, i_0]; exact q)))) (fun h => kf (by rw [← hi, ← i_0, h]))
theorem g_icmp_lt (hx : p.tables.exec = Jvm.exec) (hb : c.code = cc) {x y : Int32} {i j : Int} {off : Int} {tgt : Nat} (hd : decode cc pc = .ok (.if_icmp .lt off, 3)) (ht : (pc : Int) + off = (tgt : Int)) (hi : x.toInt = i) (hj : y.toInt = j) (kt : i < j → W p l e R s m args below meth c H locs cells slots Q (F0 m tgt ls rest)) (kf : j ≤ i → W p l e R s m args below meth c H locs cells slots Q (F0 m (pc + 3) ls rest)) : W p l e R s m args below meth c H locs cells slots Q (F0 m pc ls (.int y :: .int x :: rest)) := lv_icmp_lt hx hb hd ht (fun h => kt (by have := (i_lt _ _).mp h; omega)) (fun h => kf (by have this : ¬ (x.toInt < y.toInt) := fun q => h ((i_lt _ _).mpr q); omega))
theorem g_if_lt (hx : p.tables.exec = Jvm.exec) (hb : c.code = cc) {x : Int32} {i : Int} {off : Int} {tgt : Nat} (hd : decode cc pc = .ok (.ifCond .lt off, 3)) (ht : (pc : Int) + off = (tgt : Int)) (hi : x.toInt = i) (kt : i < 0 → W p l e R s m args below meth c H locs cells slots Q (F0 m tgt ls rest)) (kf : 0 ≤ i → W p l e R s m args below meth c H locs cells slots Q (F0 m (pc + 3) ls rest)) : W p l e R s m args below meth c H locs cells slots Q (F0 m pc ls (.int x :: rest)) := lv_if_lt hx hb hd ht (fun h => kt (by have := (i_lt _ _).mp h; rw [i_0] at this; omega)) (fun h => kf (by have this : ¬ (x.toInt < (0 : Int32).toInt) := fun q => h ((i_lt _ _).mpr q); rw [i_0] at this; omega))
theorem g_icmp_ge (hx : p.tables.exec = Jvm.exec) (hb : c.code = cc) {x y : Int32} {i j : Int} {off : Int} {tgt : Nat} (hd : decode cc pc = .ok (.if_icmp .ge off, 3)) (ht : (pc : Int) + off = (tgt : Int)) (hi : x.toInt = i) (hj : y.toInt = j) (kt : j ≤ i → W p l e R s m args below meth c H locs cells slots Q (F0 m tgt ls rest)) (kf : i < j → W p l e R s m args below meth c H locs cells slots Q (F0 m (pc + 3) ls rest)) : W p l e R s m args below meth c H locs cells slots Q (F0 m pc ls (.int y :: .int x :: rest)) := lv_icmp_ge hx hb hd ht (fun h => kt (by have := (i_le _ _).mp h; omega)) (fun h => kf (by have this : ¬ (y.toInt ≤ x.toInt) := fun q => h ((i_le _ _).mpr q); omega))
theorem g_if_ge (hx : p.tables.exec = Jvm.exec) (hb : c.code = cc) {x : Int32} {i : Int} {off : Int} {tgt : Nat} (hd : decode cc pc = .ok (.ifCond .ge off, 3)) (ht : (pc : Int) + off = (tgt : Int)) (hi : x.toInt = i) (kt : 0 ≤ i → W p l e R s m args below meth c H locs cells slots Q (F0 m tgt ls rest)) (kf : i < 0 → W p l e R s m args below meth c H locs cells slots Q (F0 m (pc + 3) ls rest)) : W p l e R s m args below meth c H locs cells slots Q (F0 m pc ls (.int x :: rest)) := lv_if_ge hx hb hd ht (fun h => kt (by have := (i_le _ _).mp h; rw [i_0] at this; omega)) (fun h => kf (by have this : ¬ ((0 : Int32).toInt ≤ x.toInt) := fun q => h ((i_le _ _).mpr q); rw [i_0] at this; omega))
theorem g_icmp_gt (hx : p.tables.exec = Jvm.exec) (hb : c.code = cc) {x y : Int32} {i j : Int} {off : Int} {tgt : Nat} (hd : decode cc pc = .ok (.if_icmp .gt off, 3)) (ht : (pc : Int) + off = (tgt : Int)) (hi : x.toInt = i) (hj : y.toInt = j) (kt : j < i → W p l e R s m args below meth c H locs cells slots Q (F0 m tgt ls rest)) (kf : i ≤ j → W p l e R s m args below meth c H locs cells slots Q (F0 m (pc + 3) ls rest)) : W p l e R s m args below meth c H locs cells slots Q (F0 m pc ls (.int y :: .int x :: rest)) := lv_icmp_gt hx hb hd ht (fun h => kt (by have := (i_lt _ _).mp h; omega)) (fun h => kf (by have this : ¬ (y.toInt < x.toInt) := fun q => h ((i_lt _ _).mpr q); omega))
theorem g_if_gt (hx : p.tables.exec = Jvm.exec) (hb : c.code = cc) {x : Int32} {i : Int} {off : Int} {tgt : Nat} (hd : decode cc pc = .ok (.ifCond .gt off, 3)) (ht : (pc : Int) + off = (tgt : Int)) (hi : x.toInt = i) (kt : 0 < i → W p l e R s m args below meth c H locs cells slots Q (F0 m tgt ls rest)) (kf : i ≤ 0 → W p l e R s m args below meth c H locs cells slots Q (F0 m (pc + 3) ls rest)) : W p l e R s m args below meth c H locs cells slots Q (F0 m pc ls (.int x :: rest)) := lv_if_gt hx hb hd ht (fun h => kt (by have := (i_lt _ _).mp h; rw [i_0] at this; omega)) (fun h => kf (by have this : ¬ ((0 : Int32).toInt < x.toInt) := fun q => h ((i_lt _ _).mpr q); rw [i_0] at this; omega))
theorem g_icmp_le (hx : p.tables.exec = Jvm.exec) (hb : c.code = cc) {x y : Int32} {i j : Int} {off : Int} {tgt : Nat} (hd : decode cc pc = .ok (.if_icmp .le off, 3)) (ht : (pc : Int) + off = (tgt : Int)) (hi : x.toInt = i) (hj : y.toInt = j) (kt : i ≤ j → W p l e R s m args below meth c H locs cells slots Q (F0 m tgt ls rest)) (kf : j < i → W p l e R s m args below meth c H locs cells slots Q (F0 m (pc + 3) ls rest)) : W p l e R s m args below meth c H locs cells slots Q (F0 m pc ls (.int y :: .int x :: rest)) := lv_icmp_le hx hb hd ht (fun h => kt (by have := (i_le _ _).mp h; omega)) (fun h => kf (by have this : ¬ (x.toInt ≤ y.toInt) := fun q => h ((i_le _ _).mpr q); omega))
theorem g_if_le (hx : p.tables.exec = Jvm.exec) (hb : c.code = cc) {x : Int32} {i : Int} {off : Int} {tgt : Nat} (hd : decode cc pc = .ok (.ifCond .le off, 3)) (ht : (pc : Int) + off = (tgt : Int)) (hi : x.toInt = i) (kt : i ≤ 0 → W p l e R s m args below meth c H locs cells slots Q (F0 m tgt ls rest)) (kf : 0 < i → W p l e R s m args below meth c H locs cells slots Q (F0 m (pc + 3) ls rest)) : W p l e R s m args below meth c H locs cells slots Q (F0 m pc ls (.int x :: rest)) := lv_if_le hx hb hd ht (fun h => kt (by have := (i_le _ _).mp h; rw [i_0] at this; omega)) (fun h => kf (by have this : ¬ (x.toInt ≤ (0 : Int32).toInt) := fun q => h ((i_le _ _).mpr q); rw [i_0] at this; omega))
theorem g_ifeq_b (hx : p.tables.exec = Jvm.exec) (hb : c.code = cc) {P : Prop} [Decidable P] {off : Int} {tgt : Nat} (hd : decode cc pc = .ok (.ifCond .eq off, 3)) (ht : (pc : Int) + off = (tgt : Int)) (kt : ¬ P → W p l e R s m args below meth c H locs cells slots Q (F0 m tgt ls rest)) (kf : P → W p l e R s m args below meth c H locs cells slots Q (F0 m (pc + 3) ls rest)) : W p l e R s m args below meth c H locs cells slots Q (F0 m pc ls (.int (bI P) :: rest)) := lv_if_eq hx hb hd ht (fun h => kt (bI_0.mp h)) (fun h => kf (Decidable.byContradiction fun q => h (bI_0.mpr q)))
theorem g_ifne_b (hx : p.tables.exec = Jvm.exec) (hb : c.code = cc) {P : Prop} [Decidable P] {off : Int} {tgt : Nat} (hd : decode cc pc = .ok (.ifCond .ne off, 3)) (ht : (pc : Int) + off = (tgt : Int)) (kt : P → W p l e R s m args below meth c H locs cells slots Q (F0 m tgt ls rest)) (kf : ¬ P → W p l e R s m args below meth c H locs cells slots Q (F0 m (pc + 3) ls rest)) : W p l e R s m args below meth c H locs cells slots Q (F0 m pc ls (.int (bI P) :: rest)) := lv_if_ne hx hb hd ht (fun h => kt (Decidable.byContradiction fun q => h (bI_0.mpr q))) (fun h => kf (bI_0.mp h))
variable {D : va_G} {cl : List vw_C} {A : Nat → Prop} {a : Nat} {tys : List (ClassId × FieldType)} {ws : va_W} {H0 : Heap}
theorem g_iald (hx : p.tables.exec = Jvm.exec) (hb : c.code = cc) (hK : va_K D cl tys s) (hP : va_P D cl ws H) (q0 t0 : Nat) {cA : ClassId} {n : Nat} {f : Nat → Int32} (ha : ws[q0]? = some (a, .inl (cA, n, .inl f))) (ht : tys[t0]? = some (cA, .int)) {i : Int32} (j : Nat) (hi : i = nI j) (hj : j < n) (hn : n < 2147483648) (hd : decode cc pc = .ok (.iaload, 1)) (k : W p l e R s m args below meth c H locs cells slots Q (F0 m (pc + 1) ls (.int (f j) :: rest))) : W p l e R s m args below meth c H locs cells slots Q (F0 m pc ls (.int i :: .ref a :: rest)) := by
  subst hi
  refine va_iald hx hb hK hP q0 t0 ha ht (vp_in_nI hj hn) hd ?_
  rw [nI_clamp (by omega)]; exact k
theorem g_zald (hx : p.tables.exec = Jvm.exec) (hb : c.code = cc) (hK : va_K D cl tys s) (hP : va_P D cl ws H) (q0 t0 : Nat) {cA : ClassId} {n : Nat} {f : Nat → Int32} (ha : ws[q0]? = some (a, .inl (cA, n, .inl f))) (ht : tys[t0]? = some (cA, .boolean)) {i : Int32} (j : Nat) (hi : i = nI j) (hj : j < n) (hn : n < 2147483648) (hd : decode cc pc = .ok (.baload, 1)) (k : W p l e R s m args below meth c H locs cells slots Q (F0 m (pc + 1) ls (.int (f j) :: rest))) : W p l e R s m args below meth c H locs cells slots Q (F0 m pc ls (.int i :: .ref a :: rest)) := by
  subst hi
  refine va_zald hx hb hK hP q0 t0 ha ht (vp_in_nI hj hn) hd ?_
  rw [nI_clamp (by omega)]; exact k
theorem g_aald (hx : p.tables.exec = Jvm.exec) (hb : c.code = cc) (hK : va_K D cl tys s) (hP : va_P D cl ws H) (q0 t0 : Nat) {cA : ClassId} {C : String} {n : Nat} {f : Nat → Option Nat} (ha : ws[q0]? = some (a, .inl (cA, n, .inr (.inr (.inr (.inr f)))))) (ht : tys[t0]? = some (cA, .object C)) {i : Int32} (j : Nat) (hi : i = nI j) (hj : j < n) (hn : n < 2147483648) (hd : decode cc pc = .ok (.aaload, 1)) (k : W p l e R s m args below meth c H locs cells slots Q (F0 m (pc + 1) ls (va_rf (f j) :: rest))) : W p l e R s m args below meth c H locs cells slots Q (F0 m pc ls (.int i :: .ref a :: rest)) := by
  subst hi
  refine va_aldq hx hb hK hP q0 t0 ha ht (vp_in_nI hj hn) hd ?_
  rw [nI_clamp (by omega)]; exact k
theorem g_iast (hx : p.tables.exec = Jvm.exec) (hb : c.code = cc) (hK : va_K D cl tys s) (hP : va_P D cl ws H) (hD : va_D A ws) (hS : va_S A H0 H locs) (q0 t0 : Nat) {cA : ClassId} {n : Nat} {f : Nat → Int32} (ha : ws[q0]? = some (a, .inl (cA, n, .inl f))) (ht : tys[t0]? = some (cA, .int)) {i x : Int32} (j : Nat) (hi : i = nI j) (hj : j < n) (hn : n < 2147483648) (hd : decode cc pc = .ok (.iastore, 1)) (k : ∀ (H1 : Heap) (locs1 : List Loc), va_P D cl (ws.set q0 (a, .inl (cA, n, .inl (upd f j x)))) H1 → va_D A (ws.set q0 (a, .inl (cA, n, .inl (upd f j x)))) → va_S A H0 H1 locs1 → W p l e R s m args below meth c H1 locs1 cells slots Q (F0 m (pc + 1) ls rest)) : W p l e R s m args below meth c H locs cells slots Q (F0 m pc ls (.int x :: .int i :: .ref a :: rest)) := by
  subst hi
  refine va_iast hx hb hK hP hD hS q0 t0 ha ht (vp_in_nI hj hn) hd ?_
  rw [nI_clamp (by omega)]; exact k
theorem g_zast (hx : p.tables.exec = Jvm.exec) (hb : c.code = cc) (hK : va_K D cl tys s) (hP : va_P D cl ws H) (hD : va_D A ws) (hS : va_S A H0 H locs) (q0 t0 : Nat) {cA : ClassId} {n : Nat} {f : Nat → Int32} (ha : ws[q0]? = some (a, .inl (cA, n, .inl f))) (ht : tys[t0]? = some (cA, .boolean)) {i : Int32} {P : Prop} [Decidable P] (j : Nat) (hi : i = nI j) (hj : j < n) (hn : n < 2147483648) (hd : decode cc pc = .ok (.bastore, 1)) (k : ∀ (H1 : Heap) (locs1 : List Loc), va_P D cl (ws.set q0 (a, .inl (cA, n, .inl (upd f j (bI P))))) H1 → va_D A (ws.set q0 (a, .inl (cA, n, .inl (upd f j (bI P))))) → va_S A H0 H1 locs1 → W p l e R s m args below meth c H1 locs1 cells slots Q (F0 m (pc + 1) ls rest)) : W p l e R s m args below meth c H locs cells slots Q (F0 m pc ls (.int (bI P) :: .int i :: .ref a :: rest)) := by
  subst hi
  refine va_zast hx hb hK hP hD hS q0 t0 ha ht (vp_in_nI hj hn) hd ?_
  rw [nI_clamp (by omega), bI_nar']; exact k
end GR
/-- cells of an int array: read of an update -/
theorem upd_s (f : Nat → Int32) (k : Nat) (x : Int32) : upd f k x k = x := pk_us
theorem upd_n {f : Nat → Int32} {k j : Nat} {x : Int32} (h : j ≠ k) : upd f k x j = f j := pk_un h
end
section
/-! the worlds: one list of array classes for all; a method that only reads (rB); a method that writes (wB at its start, wE at its end) -/
def tyL (cy : Nat → ClassId) : List (ClassId × FieldType) := [(cy 0, .int), (cy 1, .boolean), (cy 2, .long), (cy 3, .object "CaskYard$Form"), (cy 4, .object "CaskYard$Bolt"), (cy 5, .object "CaskYard$Cask")]
def rB (D : va_G) (cy : Nat → ClassId) (ws : va_W) (U : State) : Prop := va_P D vwCl ws U.heap ∧ va_K D vwCl (tyL cy) U
def wB (D : va_G) (cy : Nat → ClassId) (sz : Nat) (ws : va_W) (U : State) : Prop := U.heap.size = sz ∧ va_P D vwCl ws U.heap ∧ va_K D vwCl (tyL cy) U ∧ va_D (fun _ => True) ws
def wE (D : va_G) (cy : Nat → ClassId) (A : Nat → Prop) (ws : va_W) (t : State) : Prop := va_P D vwCl ws t.heap ∧ va_K D vwCl (tyL cy) t ∧ va_D A ws
theorem nB_blind {av : List Value} : FrameBlind (va_Pc av (fun _ => True)) := fun a U g mk q => ⟨q.1, trivial⟩
theorem nB_pre {s : State} {H : Heap} {av : List Value} : ∀ U : State, U.heap = H → s.WarmedH U.vm → va_Pc av (fun _ => True) av.toArray U := fun U hU hW => ⟨rfl, trivial⟩
theorem rB_blind {D : va_G} {cy : Nat → ClassId} {ws : va_W} {av : List Value} : FrameBlind (va_Pc av (rB D cy ws)) := fun a U g mk q => ⟨q.1, q.2.1, va_K.moved (u := U) (U := U.calling g mk a) (Vm.Alike.refl U.vm) q.2.2⟩
theorem rB_pre {D : va_G} {cy : Nat → ClassId} {ws : va_W} {s : State} {H : Heap} {av : List Value} (hP : va_P D vwCl ws H) (hK : va_K D vwCl (tyL cy) s) : ∀ U : State, U.heap = H → s.WarmedH U.vm → va_Pc av (rB D cy ws) av.toArray U := fun U hU hW => ⟨rfl, by rw [hU]; exact hP, va_K.moved hW.alike hK⟩
theorem wB_blind {D : va_G} {cy : Nat → ClassId} {sz : Nat} {ws : va_W} {av : List Value} : FrameBlind (va_Pc av (wB D cy sz ws)) := fun a U g mk q => ⟨q.1, q.2.1, q.2.2.1, va_K.moved (u := U) (U := U.calling g mk a) (Vm.Alike.refl U.vm) q.2.2.2.1, q.2.2.2.2⟩
theorem wB_pre {D : va_G} {cy : Nat → ClassId} {ws : va_W} {s : State} {H : Heap} {A : Nat → Prop} {av : List Value} (hP : va_P D vwCl ws H) (hK : va_K D vwCl (tyL cy) s) (hD : va_D A ws) : ∀ U : State, U.heap = H → s.WarmedH U.vm → va_Pc av (wB D cy H.size ws) av.toArray U := fun U hU hW => ⟨rfl, by rw [hU], by rw [hU]; exact hP, va_K.moved hW.alike hK, hD.weaken (fun _ _ _ _ => trivial)⟩
theorem w_free {A0 : Nat → Prop} {ws : va_W} {H0 H : Heap} {locs : List Loc} (hD : va_D A0 ws) (hS : va_S A0 H0 H locs) (hA : ∀ q, H0.size ≤ q → A0 q) : ∀ q, va_A ws H.size q → A0 q := by
  intro q h
  rcases h with ⟨k, e, h⟩ | h
  · exact hD.2 k (q, e) h
  · exact hA q (Nat.le_trans hS.1 h)
theorem w_A {ws : va_W} {n : Nat} {A : Nat → Prop} (h : va_A ws n = A) : ∀ q : Nat, n ≤ q → A q := fun q hq => by rw [← h]; exact Or.inr hq
theorem n_min {a b : Nat} (ha : a < 2147483648) (hb : b < 2147483648) : (if nI b < nI a then nI b else nI a) = nI (Nat.min a b) := by
  by_cases h : b < a
  · rw [if_pos ((nI_ltI hb ha).mpr h), show Nat.min a b = b from Nat.min_eq_right (by omega)]
  · rw [if_neg (fun q => h ((nI_ltI hb ha).mp q)), show Nat.min a b = a from Nat.min_eq_left (by omega)]
theorem n_max {a b : Nat} (ha : a < 2147483648) (hb : b < 2147483648) : (if nI a < nI b then nI b else nI a) = nI (Nat.max a b) := by
  by_cases h : a < b
  · rw [if_pos ((nI_ltI ha hb).mpr h), show Nat.max a b = b from Nat.max_eq_right (by omega)]
  · rw [if_neg (fun q => h ((nI_ltI ha hb).mp q)), show Nat.max a b = a from Nat.max_eq_left (by omega)]
theorem z_min {x y : Int32} {i j : Int} (hi : x = zI i) (hj : y = zI j) (h1 : -2147483648 ≤ i) (h2 : i < 2147483648) (h3 : -2147483648 ≤ j) (h4 : j < 2147483648) : (if y < x then y else x) = zI (min i j) := by
  subst hi; subst hj
  have e : zI j < zI i ↔ j < i := by rw [i_lt, zI_toInt h1 h2, zI_toInt h3 h4]
  by_cases h : j < i
  · rw [if_pos (e.mpr h), show min i j = j by omega]
  · rw [if_neg (fun q => h (e.mp q)), show min i j = i by omega]
theorem z_max {x y : Int32} {i j : Int} (hi : x = zI i) (hj : y = zI j) (h1 : -2147483648 ≤ i) (h2 : i < 2147483648) (h3 : -2147483648 ≤ j) (h4 : j < 2147483648) : (if x < y then y else x) = zI (max i j) := by
  subst hi; subst hj
  have e : zI i < zI j ↔ i < j := by rw [i_lt, zI_toInt h1 h2, zI_toInt h3 h4]
  by_cases h : i < j
  · rw [if_pos (e.mpr h), show max i j = j by omega]
  · rw [if_neg (fun q => h (e.mp q)), show max i j = i by omega]
/-- the model's cells: its object, its ints I k, its arrays F k at ad k (k: the number of the field) -/
def wM (cy : Nat → ClassId) (h : Nat) (ad : Nat → Nat) (I : Nat → Int32) (F : Nat → Nat → Int32) : va_W := [(h, .inr (5, [.int (I 0), .int (I 1), .int (I 2), .int (I 3), .int (I 4), .ref (ad 5), .ref (ad 6), .ref (ad 7), .ref (ad 8), .ref (ad 9), .ref (ad 10), .ref (ad 11), .ref (ad 12), .ref (ad 13), .ref (ad 14), .ref (ad 15), .ref (ad 16), .ref (ad 17), .ref (ad 18), .ref (ad 19), .ref (ad 20), .ref (ad 21), .ref (ad 22), .ref (ad 23), .ref (ad 24), .int (I 25), .int (I 26), .int (I 27), .int (I 28), .int (I 29), .ref (ad 30), .ref (ad 31), .ref (ad 32), .ref (ad 33)])),
  (ad 5, .inl (cy 0, 8, .inl (F 5))), (ad 6, .inl (cy 0, 8, .inl (F 6))), (ad 7, .inl (cy 0, 8, .inl (F 7))), (ad 8, .inl (cy 0, 8, .inl (F 8))), (ad 9, .inl (cy 0, 40, .inl (F 9))), (ad 10, .inl (cy 0, 40, .inl (F 10))), (ad 11, .inl (cy 0, 200, .inl (F 11))), (ad 12, .inl (cy 0, 200, .inl (F 12))), (ad 13, .inl (cy 0, 30, .inl (F 13))), (ad 14, .inl (cy 0, 1200, .inl (F 14))), (ad 15, .inl (cy 0, 1200, .inl (F 15))), (ad 16, .inl (cy 0, 30, .inl (F 16))), (ad 17, .inl (cy 0, 1200, .inl (F 17))), (ad 18, .inl (cy 0, 1200, .inl (F 18))), (ad 19, .inl (cy 0, 1200, .inl (F 19))), (ad 20, .inl (cy 1, 256, .inl (F 20))), (ad 21, .inl (cy 0, 16, .inl (F 21))), (ad 22, .inl (cy 0, 32, .inl (F 22))), (ad 23, .inl (cy 0, 32, .inl (F 23))), (ad 24, .inl (cy 0, 1353, .inl (F 24))), (ad 30, .inl (cy 0, 10, .inl (F 30))), (ad 31, .inl (cy 0, 10, .inl (F 31))), (ad 32, .inl (cy 0, 8, .inl (F 32))), (ad 33, .inl (cy 0, 80, .inl (F 33)))]
end
section
/-! plain numbers: girths and widths -/
def dN (h y : Nat) : Nat := if h ≤ 2 * y then 2 * y - h else h - 2 * y
theorem dN_le {h y : Nat} (hy : y ≤ h) : dN h y ≤ h := by unfold dN; split <;> omega
theorem dN_sq (h y : Nat) : (((2 * y : Nat) : Int) - (h : Int)) * (((2 * y : Nat) : Int) - (h : Int)) = ((dN h y * dN h y : Nat) : Int) := by
  unfold dN
  by_cases q : h ≤ 2 * y
  · have e : ((2 * y : Nat) : Int) - (h : Int) = ((2 * y - h : Nat) : Int) := by omega
    rw [if_pos q, e, ← Int.natCast_mul]
  · have e : ((2 * y : Nat) : Int) - (h : Int) = -((h - 2 * y : Nat) : Int) := by omega
    rw [if_neg q, e, Int.neg_mul_neg, ← Int.natCast_mul]
/-- GIRTH at y of a form of height h, bilge g, head e -/
def girthN (h g e y : Nat) : Nat := g - (g - e) * (dN h y * dN h y) / (h * h)
theorem girth_b1 {h g e y : Nat} (hg : g ≤ 2000) (h2 : h ≤ 200) (hy : y ≤ h) : (g - e) * (dN h y * dN h y) < 2147483648 := by
  have h1 := dN_le hy
  have h3 : dN h y * dN h y ≤ 200 * 200 := Nat.mul_le_mul (by omega) (by omega)
  have h4 : (g - e) * (dN h y * dN h y) ≤ 2000 * (200 * 200) := Nat.mul_le_mul (by omega) h3
  omega
theorem girth_b2 {h : Nat} (h1 : 10 ≤ h) (h2 : h ≤ 200) : 0 < h * h ∧ h * h < 2147483648 := by
  have h3 : h * h ≤ 200 * 200 := Nat.mul_le_mul h2 h2
  have h4 : 10 * 10 ≤ h * h := Nat.mul_le_mul h1 h1
  omega
theorem girth_b3 {h g e y : Nat} (hy : y ≤ h) : (g - e) * (dN h y * dN h y) / (h * h) ≤ g - e := by
  apply Nat.div_le_of_le_mul
  rw [Nat.mul_comm (h * h)]
  exact Nat.mul_le_mul_left _ (Nat.mul_le_mul (dN_le hy) (dN_le hy))
theorem girthN_le (h g e y : Nat) : girthN h g e y ≤ g := Nat.sub_le _ _
theorem girthN_ge {h g e y : Nat} (he : e ≤ g) (hy : y ≤ h) : e ≤ girthN h g e y := by
  have := girth_b3 (g := g) (e := e) hy
  unfold girthN; omega
/-- WIDTH of stave k of n at a girth -/
def widthN (n k gi : Nat) : Nat := gi * (k + 1) / n - gi * k / n
theorem width_b {gi k n : Nat} (hg : gi ≤ 2000) (hk : k < n) (hn : n ≤ 40) : gi * (k + 1) < 2147483648 ∧ gi * k < 2147483648 ∧ gi * k / n ≤ gi * (k + 1) / n := by
  have h1 : gi * (k + 1) ≤ 2000 * 40 := Nat.mul_le_mul hg (by omega)
  have h2 : gi * k ≤ 2000 * 40 := Nat.mul_le_mul hg (by omega)
  exact ⟨by omega, by omega, Nat.div_le_div_right (Nat.mul_le_mul_left _ (Nat.le_succ k))⟩
/-- the sum over y below l of the girths' squares -/
def sqN (h g e : Nat) : Nat → Nat
  | 0 => 0
  | l + 1 => sqN h g e l + girthN h g e l * girthN h g e l
theorem sqN_le {h g e : Nat} (hg : g ≤ 2000) : ∀ l, sqN h g e l ≤ l * 4000000
  | 0 => Nat.zero_le _
  | l + 1 => by
    have h1 := sqN_le (h := h) (e := e) hg l
    have h2 := girthN_le h g e l
    have h3 : girthN h g e l * girthN h g e l ≤ 2000 * 2000 := Nat.mul_le_mul (by omega) (by omega)
    simp only [sqN]; omega
/-- HOLDS at a level -/
def holdsN (h g e l : Nat) : Nat := sqN h g e l * 113 / 1420
theorem holdsN_lt {h g e l : Nat} (hg : g ≤ 2000) (hl : l ≤ 200) : holdsN h g e l < 2147483648 := by
  have := sqN_le (h := h) (e := e) hg l
  unfold holdsN; omega
end
section
/-! what a state of the yard IS: numbers by number, the parts of each bolt, the entries of each cask -/
abbrev YT : Type := (Nat → Nat) × (Nat → Nat → Nat) × (Nat → List (Nat × Nat)) × (Nat → Nat → Nat → Nat) × (Nat → List (Nat × Nat × Nat))
def yNow (Y : YT) : Nat := Y.1 0
def yF (Y : YT) : Nat := Y.1 1
def yB (Y : YT) : Nat := Y.1 2
def yC (Y : YT) : Nat := Y.1 3
def yh (Y : YT) (i : Nat) : Nat := Y.2.1 0 i
def yg (Y : YT) (i : Nat) : Nat := Y.2.1 1 i
def ye (Y : YT) (i : Nat) : Nat := Y.2.1 2 i
def ys (Y : YT) (i : Nat) : Nat := Y.2.1 3 i
def ysp (Y : YT) (b : Nat) : Nat := Y.2.1 4 b
def ycf (Y : YT) (c : Nat) : Nat := Y.2.1 5 c
def ywt (Y : YT) (k : Nat) : Nat := Y.2.1 6 k
def yP (Y : YT) (b : Nat) : List (Nat × Nat) := Y.2.2.1 b
def ybo (Y : YT) (c k : Nat) : Nat := Y.2.2.2.1 0 c k
def ypa (Y : YT) (c k : Nat) : Nat := Y.2.2.2.1 1 c k
def ybr (Y : YT) (a b : Nat) : Nat := Y.2.2.2.1 2 a b
def yE (Y : YT) (c : Nat) : List (Nat × Nat × Nat) := Y.2.2.2.2 c
/-- two rows of numbers hold the parts of a bolt, from a place on -/
def arrP (f g : Nat → Int32) (o : Nat) (L : List (Nat × Nat)) : Prop := ∀ (i : Nat) (q : Nat × Nat), L[i]? = some q → f (o + i) = nI q.1 ∧ g (o + i) = nI q.2
/-- three rows of numbers hold entries (day, told, kind), from a place on -/
def arrE (f g k : Nat → Int32) (o : Nat) (L : List (Nat × Nat × Nat)) : Prop := ∀ (i : Nat) (q : Nat × Nat × Nat), L[i]? = some q → f (o + i) = nI q.1 ∧ g (o + i) = nI q.2.1 ∧ k (o + i) = nI q.2.2
abbrev formOk (h g e n : Nat) : Prop := 10 ≤ h ∧ h ≤ 200 ∧ h % 2 = 0 ∧ 100 ≤ g ∧ g ≤ 2000 ∧ 50 ≤ e ∧ e ≤ g ∧ 8 ≤ n ∧ n ≤ 40
def partsOk (L : List (Nat × Nat)) : Prop := L.length ≤ 4 ∧ ∀ q ∈ L, q.1 < q.2 ∧ q.2 ≤ 600
def WF (Y : YT) : Prop := yNow Y ≤ 100000 ∧ yF Y ≤ 8 ∧ yB Y ≤ 40 ∧ yC Y ≤ 30 ∧ (∀ i, i < yF Y → formOk (yh Y i) (yg Y i) (ye Y i) (ys Y i)) ∧ (∀ b, b < yB Y → ysp Y b ≤ yNow Y ∧ partsOk (yP Y b)) ∧ (∀ c, c < yC Y → ycf Y c < yF Y ∧ (yE Y c).length ≤ 40 ∧ (∀ q ∈ yE Y c, q.1 ≤ q.2.1 ∧ q.2.1 ≤ yNow Y ∧ q.2.2 ≤ 16) ∧ ∀ k, k < ys Y (ycf Y c) → ybo Y c k < yB Y ∧ ypa Y c k < 65536) ∧ (∀ a b, a < 16 → b < 16 → ybr Y a b ≤ 1) ∧ ∀ k, k < 16 → 1 ≤ ywt Y k ∧ ywt Y k ≤ 5000
/-- the model's ints and arrays hold the state -/
def MR (I : Nat → Int32) (F : Nat → Nat → Int32) (Y : YT) : Prop := I 1 = nI (yF Y) ∧ I 2 = nI (yB Y) ∧ I 3 = nI (yC Y) ∧ I 4 = nI (yNow Y) ∧
  (∀ i, i < yF Y → F 5 i = nI (yh Y i) ∧ F 6 i = nI (yg Y i) ∧ F 7 i = nI (ye Y i) ∧ F 8 i = nI (ys Y i)) ∧
  (∀ b, b < yB Y → F 9 b = nI (ysp Y b) ∧ F 10 b = nI (yP Y b).length ∧ arrP (F 11) (F 12) (5 * b) (yP Y b)) ∧
  (∀ c, c < yC Y → F 13 c = nI (ycf Y c) ∧ F 16 c = nI (yE Y c).length ∧ arrE (F 17) (F 19) (F 18) (40 * c) (yE Y c) ∧ ∀ k, k < ys Y (ycf Y c) → F 14 (40 * c + k) = nI (ybo Y c k) ∧ F 15 (40 * c + k) = nI (ypa Y c k)) ∧
  (∀ a b, a < 16 → b < 16 → F 20 (16 * a + b) = nI (ybr Y a b)) ∧ ∀ k, k < 16 → F 21 k = nI (ywt Y k)
/-- an answer: what is thrown (0: nothing), the value, the state behind it -/
abbrev MP (r : Int32) (u : (Nat → Int32) × (Nat → Nat → Int32)) (o : Nat × Int32 × YT) : Prop := u.1 0 = nI o.1 ∧ (o.1 = 0 → r = o.2.1) ∧ MR u.1 u.2 o.2.2
abbrev isIx (a : Int32) (n : Nat) : Prop := 0 ≤ a.toInt ∧ a.toInt < (n : Int)
def ix (a : Int32) : Nat := a.toInt.toNat
theorem ix_n {a : Int32} (h : 0 ≤ a.toInt) : a = nI (ix a) := i_of (by unfold ix; omega)
theorem ix_lt {a : Int32} {n : Nat} (h : isIx a n) : ix a < n := by have := h.1; have := h.2; unfold ix; omega
/-! the calls -/
def sp_form (Y : YT) (a b c d : Int32) : Nat × Int32 × YT :=
  if yF Y < 8 ∧ 0 ≤ a.toInt ∧ 0 ≤ b.toInt ∧ 0 ≤ c.toInt ∧ 0 ≤ d.toInt ∧ formOk (ix a) (ix b) (ix c) (ix d) then
    (0, nI (yF Y), (va_up Y.1 1 (yF Y + 1), fun j i => if i = yF Y then (if j = 0 then ix a else if j = 1 then ix b else if j = 2 then ix c else if j = 3 then ix d else Y.2.1 j i) else Y.2.1 j i, Y.2.2))
  else (0, zI (-1), Y)
def sp_girth (Y : YT) (a b : Int32) : Nat × Int32 × YT :=
  if isIx a (yF Y) then if isIx b (yh Y (ix a) + 1) then (0, nI (girthN (yh Y (ix a)) (yg Y (ix a)) (ye Y (ix a)) (ix b)), Y) else (2, nI 0, Y) else (1, nI 0, Y)
def sp_width (Y : YT) (a b c : Int32) : Nat × Int32 × YT :=
  if isIx a (yF Y) ∧ isIx b (ys Y (ix a)) then if isIx c (yh Y (ix a) + 1) then (0, nI (widthN (ys Y (ix a)) (ix b) (girthN (yh Y (ix a)) (yg Y (ix a)) (ye Y (ix a)) (ix c))), Y) else (2, nI 0, Y) else (1, nI 0, Y)
def sp_holds (Y : YT) (a b : Int32) : Nat × Int32 × YT :=
  if isIx a (yF Y) then if isIx b (yh Y (ix a) + 1) then (0, nI (holdsN (yh Y (ix a)) (yg Y (ix a)) (ye Y (ix a)) (ix b)), Y) else (2, nI 0, Y) else (1, nI 0, Y)
/-- the least level from l on, n of them looked at, that holds at least so much -/
def levelN (h g e much : Nat) : Nat → Nat → Int
  | _, 0 => -1
  | l, n + 1 => if much ≤ holdsN h g e l then (l : Int) else levelN h g e much (l + 1) n
def sp_level (Y : YT) (a b : Int32) : Nat × Int32 × YT :=
  if isIx a (yF Y) then if 0 ≤ b.toInt then (0, zI (levelN (yh Y (ix a)) (yg Y (ix a)) (ye Y (ix a)) (ix b) 0 (yh Y (ix a) + 1)), Y) else (2, nI 0, Y) else (1, nI 0, Y)
def sp_head (Y : YT) (a : Int32) : Nat × Int32 × YT :=
  if isIx a (yF Y) then (0, nI (girthN (yh Y (ix a)) (yg Y (ix a)) (ye Y (ix a)) 0 * 113 / 355), Y) else (1, nI 0, Y)
def sp_days (Y : YT) (a : Int32) : Nat × Int32 × YT :=
  if isIx a (100000 - yNow Y + 1) then (0, nI (yNow Y + ix a), (va_up Y.1 0 (yNow Y + ix a), Y.2)) else (1, nI 0, Y)
def sp_bolt (Y : YT) (a : Int32) : Nat × Int32 × YT :=
  if yB Y < 40 ∧ 1 ≤ a.toInt ∧ a.toInt ≤ 600 then (0, nI (yB Y), (va_up Y.1 2 (yB Y + 1), va_up Y.2.1 4 (va_up (Y.2.1 4) (yB Y) (yNow Y)), va_up Y.2.2.1 (yB Y) [(0, ix a)], Y.2.2.2)) else (0, zI (-1), Y)
def sp_clear (Y : YT) (a b c : Int32) : Nat × Int32 × YT :=
  if isIx a (yB Y) ∧ isIx b (yP Y (ix a)).length ∧ isIx c 2 then (0, nI (if ix c = 0 then ((yP Y (ix a)).getD (ix b) (0, 0)).1 else ((yP Y (ix a)).getD (ix b) (0, 0)).2), Y) else (1, nI 0, Y)
def sp_ripe (Y : YT) (a : Int32) : Nat × Int32 × YT :=
  if isIx a (yB Y) then (0, bI (ysp Y (ix a) + 1095 ≤ yNow Y), Y) else (1, nI 0, Y)
def sp_formOf (Y : YT) (a : Int32) : Nat × Int32 × YT :=
  if isIx a (yC Y) then (0, nI (ycf Y (ix a)), Y) else (1, nI 0, Y)
def midN (Y : YT) (c k : Nat) : Nat := widthN (ys Y (ycf Y c)) k (girthN (yh Y (ycf Y c)) (yg Y (ycf Y c)) (ye Y (ycf Y c)) (yh Y (ycf Y c) / 2))
def sp_stave (Y : YT) (a b c : Int32) : Nat × Int32 × YT :=
  if isIx a (yC Y) ∧ isIx b (ys Y (ycf Y (ix a))) ∧ isIx c 3 then (0, nI (if ix c = 0 then ybo Y (ix a) (ix b) else if ix c = 1 then ypa Y (ix a) (ix b) else midN Y (ix a) (ix b)), Y) else (1, nI 0, Y)
def sp_bars (Y : YT) (a b : Int32) (is : Nat) : Nat × Int32 × YT :=
  if isIx a 16 ∧ isIx b 16 then (0, nI (ybr Y (ix a) (ix b)), (Y.1, Y.2.1, Y.2.2.1, va_up Y.2.2.2.1 2 (va_up (Y.2.2.2.1 2) (ix a) (va_up (Y.2.2.2.1 2 (ix a)) (ix b) is)), Y.2.2.2.2)) else (1, nI 0, Y)
def sp_weight (Y : YT) (a b : Int32) : Nat × Int32 × YT :=
  if isIx a 16 ∧ 1 ≤ b.toInt ∧ b.toInt ≤ 5000 then (0, nI (ywt Y (ix a)), (Y.1, va_up Y.2.1 6 (va_up (Y.2.1 6) (ix a) (ix b)), Y.2.2)) else (1, nI 0, Y)
def sp_count (Y : YT) (a : Int32) : Nat × Int32 × YT :=
  if isIx a 4 then (0, nI (Y.1 (ix a)), Y) else (1, nI 0, Y)
/-- what was held, by a row of entries: the latest day and its kind -/
def heldS (L : List (Nat × Nat × Nat)) (d k : Int) : Int × Int := L.foldl (fun z q => if (q.2.1 : Int) ≤ k ∧ (q.1 : Int) ≤ d ∧ z.1 ≤ (q.1 : Int) then ((q.1 : Int), (q.2.2 : Int)) else z) (-1, -1)
def sp_held (Y : YT) (a b c : Int32) : Nat × Int32 × YT :=
  if isIx a (yC Y) then (0, zI (heldS (yE Y (ix a)) b.toInt c.toInt).2, Y) else (1, nI 0, Y)
/-- on how many of n days from x on z was held -/
def lackN (L : List (Nat × Nat × Nat)) (k : Int) (z : Int) : Nat → Nat → Nat
  | _, 0 => 0
  | x, n + 1 => (if (heldS L (x : Int) k).2 = z then 1 else 0) + lackN L k z (x + 1) n
def sp_lacks (Y : YT) (a b c d : Int32) : Nat × Int32 × YT :=
  if isIx a (yC Y) then if 0 ≤ b.toInt ∧ b.toInt ≤ c.toInt ∧ c.toInt ≤ 100000 ∧ isIx d 2 then (0, nI (lackN (yE Y (ix a)) (yNow Y : Int) (if ix d = 0 then -1 else 16) (ix b) (ix c - ix b + 1)), Y) else (2, nI 0, Y) else (1, nI 0, Y)
/-- some stave of the cask has met a kind that bars this one -/
def mayN (Y : YT) (c kind : Nat) : Prop := ∀ p, p < 16 → (∃ k, k < ys Y (ycf Y c) ∧ (ypa Y c k).testBit p = true) → ybr Y p kind = 0
end
section
/-! the model's cells behind the calls that write -/
theorem MR_days {I : Nat → Int32} {F : Nat → Nat → Int32} {Y : YT} (n : Nat) (h : MR I F Y) : MR (va_up (va_up I 0 (nI 0)) 4 (nI (yNow Y + n))) F (va_up Y.1 0 (yNow Y + n), Y.2) := by
  obtain ⟨h1, h2, h3, h4, hF, hB, hC, hR, hW⟩ := h
  exact ⟨h1, h2, h3, rfl, hF, hB, hC, hR, hW⟩
theorem MR_form {I : Nat → Int32} {F : Nat → Nat → Int32} {Y : YT} (a b c d : Nat) (h : MR I F Y) (hY : WF Y) : MR (va_up (va_up I 0 (nI 0)) 1 (nI (yF Y + 1))) (va_up (va_up (va_up (va_up F 5 (upd (F 5) (yF Y) (nI a))) 6 (upd (F 6) (yF Y) (nI b))) 7 (upd (F 7) (yF Y) (nI c))) 8 (upd (F 8) (yF Y) (nI d)))
    (va_up Y.1 1 (yF Y + 1), fun j i => if i = yF Y then (if j = 0 then a else if j = 1 then b else if j = 2 then c else if j = 3 then d else Y.2.1 j i) else Y.2.1 j i, Y.2.2) := by
  obtain ⟨h1, h2, h3, h4, hF, hB, hC, hR, hW⟩ := h
  obtain ⟨hw0, hwF, hwB, hwC, hwf, hwb, hwc, hwr, hww⟩ := hY
  have e : ∀ j i, 3 < j → (if i = yF Y then (if j = 0 then a else if j = 1 then b else if j = 2 then c else if j = 3 then d else Y.2.1 j i) else Y.2.1 j i) = Y.2.1 j i := by
    intro j i hj
    rw [if_neg (show ¬ j = 0 by omega), if_neg (show ¬ j = 1 by omega), if_neg (show ¬ j = 2 by omega), if_neg (show ¬ j = 3 by omega), ite_self]
  have e2 : ∀ j i, i < yF Y → (if i = yF Y then (if j = 0 then a else if j = 1 then b else if j = 2 then c else if j = 3 then d else Y.2.1 j i) else Y.2.1 j i) = Y.2.1 j i := fun j i hi => if_neg (by omega)
  refine ⟨rfl, h2, h3, h4, ?_, ?_, ?_, hR, ?_⟩
  · intro i hi
    have hi : i < yF Y + 1 := hi
    show upd (F 5) (yF Y) (nI a) i = nI _ ∧ upd (F 6) (yF Y) (nI b) i = nI _ ∧ upd (F 7) (yF Y) (nI c) i = nI _ ∧ upd (F 8) (yF Y) (nI d) i = nI _
    by_cases q : i = yF Y
    · subst q
      rw [upd_s, upd_s, upd_s, upd_s]
      simp [yh, yg, ye, ys]
    · obtain ⟨a1, a2, a3, a4⟩ := hF i (by omega)
      rw [upd_n q, upd_n q, upd_n q, upd_n q, a1, a2, a3, a4]
      simp [yh, yg, ye, ys, q]
  · intro b' hb'
    obtain ⟨a1, a2, a3⟩ := hB b' hb'
    exact ⟨a1.trans (congrArg nI (e 4 b' (by omega)).symm), a2, a3⟩
  · intro c' hc'
    have hc1 : c' < yC Y := hc'
    obtain ⟨a1, a2, a3, a4⟩ := hC c' hc1
    have hcf : ycf (va_up Y.1 1 (yF Y + 1), fun j i => if i = yF Y then (if j = 0 then a else if j = 1 then b else if j = 2 then c else if j = 3 then d else Y.2.1 j i) else Y.2.1 j i, Y.2.2) c' = ycf Y c' := e 5 c' (by omega)
    have hst : ys (va_up Y.1 1 (yF Y + 1), fun j i => if i = yF Y then (if j = 0 then a else if j = 1 then b else if j = 2 then c else if j = 3 then d else Y.2.1 j i) else Y.2.1 j i, Y.2.2) (ycf Y c') = ys Y (ycf Y c') := e2 3 (ycf Y c') (hwc c' hc1).1
    exact ⟨by rw [hcf]; exact a1, a2, a3, fun k hk => a4 k (by rw [hcf, hst] at hk; exact hk)⟩
  · intro k hk
    exact (hW k hk).trans (congrArg nI (e 6 k (by omega)).symm)
theorem MR_bolt {I : Nat → Int32} {F : Nat → Nat → Int32} {Y : YT} (a : Nat) (h : MR I F Y) (hY : WF Y) : MR (va_up (va_up I 0 (nI 0)) 2 (nI (yB Y + 1))) (va_up (va_up (va_up (va_up F 9 (upd (F 9) (yB Y) (nI (yNow Y)))) 10 (upd (F 10) (yB Y) (nI 1))) 11 (upd (F 11) (5 * (yB Y) + 0) (nI 0))) 12 (upd (F 12) (5 * (yB Y) + 0) (nI a)))
    (va_up Y.1 2 (yB Y + 1), va_up Y.2.1 4 (va_up (Y.2.1 4) (yB Y) (yNow Y)), va_up Y.2.2.1 (yB Y) [(0, a)], Y.2.2.2) := by
  obtain ⟨h1, h2, h3, h4, hF, hB, hC, hR, hW⟩ := h
  obtain ⟨hw0, hwF, hwB, hwC, hwf, hwb, hwc, hwr, hww⟩ := hY
  refine ⟨h1, rfl, h3, h4, hF, ?_, hC, hR, hW⟩
  intro b hb
  have hb : b < yB Y + 1 := hb
  show upd (F 9) (yB Y) (nI (yNow Y)) b = nI _ ∧ upd (F 10) (yB Y) (nI 1) b = nI _ ∧ arrP (upd (F 11) (5 * (yB Y) + 0) (nI 0)) (upd (F 12) (5 * (yB Y) + 0) (nI a)) (5 * b) _
  by_cases q : b = yB Y
  · subst q
    rw [upd_s, upd_s]
    refine ⟨by simp [ysp, va_up], by simp [yP, va_up], ?_⟩
    intro i x hx
    have hx : ([(0, a)] : List (Nat × Nat))[i]? = some x := by simpa [yP, va_up] using hx
    have hi : i = 0 := by
      have := (List.getElem?_eq_some_iff.mp hx).1
      simp at this; exact this
    subst hi
    simp at hx
    subst hx
    exact ⟨upd_s _ _ _, upd_s _ _ _⟩
  · obtain ⟨a1, a2, a3⟩ := hB b (by omega)
    have e1 : yP (va_up Y.1 2 (yB Y + 1), va_up Y.2.1 4 (va_up (Y.2.1 4) (yB Y) (yNow Y)), va_up Y.2.2.1 (yB Y) [(0, a)], Y.2.2.2) b = yP Y b := by simp [yP, va_up, q]
    have e2 : ysp (va_up Y.1 2 (yB Y + 1), va_up Y.2.1 4 (va_up (Y.2.1 4) (yB Y) (yNow Y)), va_up Y.2.2.1 (yB Y) [(0, a)], Y.2.2.2) b = ysp Y b := by simp [ysp, va_up, q]
    rw [upd_n q, upd_n q, e1, e2]
    refine ⟨a1, a2, fun i x hx => ?_⟩
    have hl := (hwb b (by omega)).2.1
    have hi := (List.getElem?_eq_some_iff.mp hx).1
    rw [upd_n (by omega), upd_n (by omega)]
    exact a3 i x hx
theorem MR_bars {I : Nat → Int32} {F : Nat → Nat → Int32} {Y : YT} (a b x : Nat) (ha : a < 16) (hb : b < 16) (h : MR I F Y) : MR (va_up I 0 (nI 0)) (va_up F 20 (upd (F 20) (16 * a + b) (nI x))) (Y.1, Y.2.1, Y.2.2.1, va_up Y.2.2.2.1 2 (va_up (Y.2.2.2.1 2) a (va_up (Y.2.2.2.1 2 a) b x)), Y.2.2.2.2) := by
  obtain ⟨h1, h2, h3, h4, hF, hB, hC, hR, hW⟩ := h
  refine ⟨h1, h2, h3, h4, hF, hB, hC, ?_, hW⟩
  intro c d hc hd
  show upd (F 20) (16 * a + b) (nI x) (16 * c + d) = nI _
  by_cases q : c = a ∧ d = b
  · obtain ⟨rfl, rfl⟩ := q
    rw [upd_s]; simp [ybr, va_up]
  · rw [upd_n (by omega), hR c d hc hd]
    by_cases q2 : c = a
    · subst q2
      have : d ≠ b := fun z => q ⟨rfl, z⟩
      simp [ybr, va_up, this]
    · simp [ybr, va_up, q2]
theorem MR_weight {I : Nat → Int32} {F : Nat → Nat → Int32} {Y : YT} (a x : Nat) (h : MR I F Y) : MR (va_up I 0 (nI 0)) (va_up F 21 (upd (F 21) a (nI x))) (Y.1, va_up Y.2.1 6 (va_up (Y.2.1 6) a x), Y.2.2) := by
  obtain ⟨h1, h2, h3, h4, hF, hB, hC, hR, hW⟩ := h
  refine ⟨h1, h2, h3, h4, hF, hB, hC, hR, ?_⟩
  intro k hk
  show upd (F 21) a (nI x) k = nI _
  by_cases q : k = a
  · subst q; rw [upd_s]; simp [ywt, va_up]
  · rw [upd_n q, hW k hk]; simp [ywt, va_up, q]
theorem form_b {h g e n : Nat} (q : formOk h g e n) : 10 ≤ h ∧ h ≤ 200 ∧ e ≤ g ∧ g ≤ 2000 := ⟨q.1, q.2.1, q.2.2.2.2.2.2.1, q.2.2.2.2.1⟩
theorem ix_c {a : Int32} (h : 0 ≤ a.toInt) : (ix a : Int) = a.toInt := by unfold ix; omega
theorem MP_t {r : Int32} {I : Nat → Int32} {F : Nat → Nat → Int32} {k : Nat} {v : Int32} {Y : YT} (h : I 0 = nI (k + 1)) (hM : MR I F Y) : MP r (I, F) (k + 1, v, Y) := ⟨h, fun h9 => absurd h9 (Nat.succ_ne_zero k), hM⟩
end
section
set_option maxHeartbeats 4000000 in
set_option maxRecDepth 100000 in
/-- thrown(): the code of the last call -/
theorem c_X5_thrown (l : Launch) (D : va_G) (cy : Nat → ClassId) (h0 : Nat) (ad : Nat → Nat) (I : Nat → Int32) (F : Nat → Nat → Int32)  : Met l yX5_thrown wsX5_thrown ({ frames := 0, cells := 0, slots := 0, locals := 0 } : Room) (va_Pc [.ref h0] (rB D cy (wM cy h0 ad I F))) (vp_Si (fun r : Int32 => r = I 0)) 0 0 (fun _ => False) := by
  refine Met.ofW (cc := cX5_thrown) (maxL := 1) (ret := (some .int)) (by decide) rfl ?_
  intro p e s m args below meth c s₁ B hml hv
  obtain ⟨rfl, hv⟩ := hv
  have hx := B.exec
  have hb := B.bytes
  have hr := B.returns
  have hts := atoms_spec (ws := wsX5_thrown) B.pre
  have hown : s.vm.findClass RX5 = some m.cls := findClass_of_methodNamed B.named
  have hlocks := B.notSynchronized
  obtain ⟨hP, hK⟩ := hv
  have hl := lv_entry ([.ref h0]) (n := 1) (Nat.le_of_ble_eq_true rfl)
  rw [lg_entry_eq]
  generalize (lg_sl ([.ref h0]) ++ List.replicate (1 - (lg_sl ([.ref h0])).length) Slot.unset).toArray = ls at hl ⊢
  have hl : lv_has ls 1 [(0, .ref h0)] := hl
  refine lv_aload_n hx hb dX5_thrown_0 rfl (lv_at hl 0 rfl) ?_
  refine va_get (D := D) (ci := 5) (v := .int (I 0)) (C := RX5) (T := TX5) (N := 34) hx hb hts (by decide +kernel) hown hK hP 0 rfl rfl 0 (by decide) (hts (.fieldLink RX5 83 "CaskYardModel" "code" "I") (by decide +kernel)) (fun _ h9 => h9) rfl dX5_thrown_1 ?_
  exact W.iret (v := (I 0)) hx hb hr (fun t ht hW => ⟨_, rfl, rfl, ht⟩) (fun _ h => nomatch h) dX5_thrown_4
set_option maxHeartbeats 4000000 in
set_option maxRecDepth 100000 in
/-- fail(k): the code is k, the answer 0 -/
theorem c_X5_fail (l : Launch) (D : va_G) (cy : Nat → ClassId) (sz : Nat) (h0 : Nat) (ad : Nat → Nat) (I : Nat → Int32) (F : Nat → Nat → Int32) (k : Int32) : Met l yX5_fail wsX5_fail ({ frames := 0, cells := 0, slots := 0, locals := 0 } : Room) (va_Pc [.ref h0, .int (k)] (wB D cy sz (wM cy h0 ad I F))) (va_Qi (fun (r : Int32) (u : (Nat → Int32) × (Nat → Nat → Int32)) => r = nI 0 ∧ u = (va_up I 0 k, F)) (fun u t => wE D cy (va_A (wM cy h0 ad I F) sz) (wM cy h0 ad u.1 u.2) t) (va_A (wM cy h0 ad I F) sz)) 0 0 (va_A (wM cy h0 ad I F) sz) := by
  refine Met.ofW (cc := cX5_fail) (maxL := 2) (ret := (some .int)) (by decide) rfl ?_
  intro p e s m args below meth c s₁ B hml hv
  obtain ⟨rfl, hsz, hP, hK, hD0⟩ := hv
  have hx := B.exec
  have hb := B.bytes
  have hr := B.returns
  have hts := atoms_spec (ws := wsX5_fail) B.pre
  have hown : s.vm.findClass RX5 = some m.cls := findClass_of_methodNamed B.named
  have hlocks := B.notSynchronized
  subst hsz
  have hD := hD0.self (sz := s.heap.size)
  generalize hAe : va_A (wM cy h0 ad I F) s.heap.size = A at hD ⊢
  have hA : ∀ q : Nat, s.heap.size ≤ q → A q := w_A hAe
  have hS : va_S A s.heap s.heap [] := va_S.rf
  have hl := lv_entry ([.ref h0, .int (k)]) (n := 2) (Nat.le_of_ble_eq_true rfl)
  rw [lg_entry_eq]
  generalize (lg_sl ([.ref h0, .int (k)]) ++ List.replicate (2 - (lg_sl ([.ref h0, .int (k)])).length) Slot.unset).toArray = ls at hl ⊢
  have hl : lv_has ls 2 [(0, .ref h0), (1, .int (k))] := hl
  refine lv_aload_n hx hb dX5_fail_0 rfl (lv_at hl 0 rfl) ?_
  refine lv_iload_n hx hb dX5_fail_1 rfl (lv_at hl 1 rfl) ?_
  refine va_put (D := D) (ci := 5) (v := .int (k)) (ty := .int) (C := RX5) (T := TX5) (N := 34) hx hb hts (by decide +kernel) tyX5 tyX5_ok nmX5 hown hK hP hD hS 0 rfl rfl 0 (by decide) (hts (.fieldLink RX5 83 "CaskYardModel" "code" "I") (by decide +kernel)) (fun _ h9 => h9) rfl (by decide +kernel) rfl rfl (Nat.le_of_ble_eq_true rfl) dX5_fail_2 (fun H locs hP hD hS => ?_)
  have hP : va_P D vwCl (wM cy h0 ad (va_up I 0 (k)) F) H := hP
  have hD : va_D A (wM cy h0 ad (va_up I 0 (k)) F) := hD
  refine lv_iconst (v := (nI (0))) hx hb dX5_fail_5 (by decide) ?_
  exact W.iret (v := (nI (0))) hx hb hr (fun t ht hW => ⟨⟨_, ((va_up I 0 (k)), F), rfl, ⟨rfl, rfl⟩, by rw [ht]; exact hP, va_K.moved hW.alike hK, hD⟩, hS.F ht⟩) hS.2.2 dX5_fail_6
set_option maxHeartbeats 4000000 in
set_option maxRecDepth 100000 in
theorem c_X5_isForm (l : Launch) (D : va_G) (cy : Nat → ClassId) (h0 : Nat) (ad : Nat → Nat) (I : Nat → Int32) (F : Nat → Nat → Int32) (a : Int32) (n : Nat) (h1 : I 1 = nI n) (hn : n < 2147483648) : Met l yX5_isForm wsX5_isForm ({ frames := 0, cells := 0, slots := 0, locals := 0 } : Room) (va_Pc [.ref h0, .int (a)] (rB D cy (wM cy h0 ad I F))) (vp_Si (fun r : Int32 => r = bI (0 ≤ a.toInt ∧ a.toInt < (n : Int)))) 0 0 (fun _ => False) := by
  refine Met.ofW (cc := cX5_isForm) (maxL := 2) (ret := (some .boolean)) (by decide) rfl ?_
  intro p e s m args below meth c s₁ B hml hv
  obtain ⟨rfl, hv⟩ := hv
  have hx := B.exec
  have hb := B.bytes
  have hr := B.returns
  have hts := atoms_spec (ws := wsX5_isForm) B.pre
  have hown : s.vm.findClass RX5 = some m.cls := findClass_of_methodNamed B.named
  have hlocks := B.notSynchronized
  obtain ⟨hP, hK⟩ := hv
  have hl := lv_entry ([.ref h0, .int (a)]) (n := 2) (Nat.le_of_ble_eq_true rfl)
  rw [lg_entry_eq]
  generalize (lg_sl ([.ref h0, .int (a)]) ++ List.replicate (2 - (lg_sl ([.ref h0, .int (a)])).length) Slot.unset).toArray = ls at hl ⊢
  have hl : lv_has ls 2 [(0, .ref h0), (1, .int (a))] := hl
  refine lv_iload_n hx hb dX5_isForm_0 rfl (lv_at hl 1 rfl) ?_
  refine g_if_lt (tgt := 16) hx hb dX5_isForm_1 (by decide) rfl (fun c_1 => ?_) (fun c_1 => ?_)
  · skip
    refine lv_iconst (v := (nI (0))) hx hb dX5_isForm_16 (by decide) ?_
    exact W.zret (v := (nI (0))) hx hb hr (by decide) (fun t ht hW => ⟨_, rfl, (bI_f (fun q => by omega)).symm, ht⟩) (fun _ h => nomatch h) dX5_isForm_17
  · skip
    refine lv_iload_n hx hb dX5_isForm_4 rfl (lv_at hl 1 rfl) ?_
    refine lv_aload_n hx hb dX5_isForm_5 rfl (lv_at hl 0 rfl) ?_
    refine va_get (D := D) (ci := 5) (v := .int (I 1)) (C := RX5) (T := TX5) (N := 34) hx hb hts (by decide +kernel) hown hK hP 0 rfl rfl 1 (by decide) (hts (.fieldLink RX5 87 "CaskYardModel" "forms" "I") (by decide +kernel)) (fun _ h9 => h9) rfl dX5_isForm_6 ?_
    refine g_top (y := (nI (n))) h1 ?_
    refine g_icmp_ge (tgt := 16) hx hb dX5_isForm_9 (by decide) rfl (n_i (by omega)) (fun c_9 => ?_) (fun c_9 => ?_)
    · skip
      refine lv_iconst (v := (nI (0))) hx hb dX5_isForm_16 (by decide) ?_
      exact W.zret (v := (nI (0))) hx hb hr (by decide) (fun t ht hW => ⟨_, rfl, (bI_f (fun q => by omega)).symm, ht⟩) (fun _ h => nomatch h) dX5_isForm_17
    · skip
      refine lv_iconst (v := (nI (1))) hx hb dX5_isForm_12 (by decide) ?_
      refine lv_goto (tgt := 17) hx hb dX5_isForm_13 (by decide) ?_
      exact W.zret (v := (nI (1))) hx hb hr (by decide) (fun t ht hW => ⟨_, rfl, (bI_t ⟨by omega, by omega⟩).symm, ht⟩) (fun _ h => nomatch h) dX5_isForm_17
set_option maxHeartbeats 4000000 in
set_option maxRecDepth 100000 in
theorem c_X5_isBolt (l : Launch) (D : va_G) (cy : Nat → ClassId) (h0 : Nat) (ad : Nat → Nat) (I : Nat → Int32) (F : Nat → Nat → Int32) (a : Int32) (n : Nat) (h1 : I 2 = nI n) (hn : n < 2147483648) : Met l yX5_isBolt wsX5_isBolt ({ frames := 0, cells := 0, slots := 0, locals := 0 } : Room) (va_Pc [.ref h0, .int (a)] (rB D cy (wM cy h0 ad I F))) (vp_Si (fun r : Int32 => r = bI (0 ≤ a.toInt ∧ a.toInt < (n : Int)))) 0 0 (fun _ => False) := by
  refine Met.ofW (cc := cX5_isBolt) (maxL := 2) (ret := (some .boolean)) (by decide) rfl ?_
  intro p e s m args below meth c s₁ B hml hv
  obtain ⟨rfl, hv⟩ := hv
  have hx := B.exec
  have hb := B.bytes
  have hr := B.returns
  have hts := atoms_spec (ws := wsX5_isBolt) B.pre
  have hown : s.vm.findClass RX5 = some m.cls := findClass_of_methodNamed B.named
  have hlocks := B.notSynchronized
  obtain ⟨hP, hK⟩ := hv
  have hl := lv_entry ([.ref h0, .int (a)]) (n := 2) (Nat.le_of_ble_eq_true rfl)
  rw [lg_entry_eq]
  generalize (lg_sl ([.ref h0, .int (a)]) ++ List.replicate (2 - (lg_sl ([.ref h0, .int (a)])).length) Slot.unset).toArray = ls at hl ⊢
  have hl : lv_has ls 2 [(0, .ref h0), (1, .int (a))] := hl
  refine lv_iload_n hx hb dX5_isBolt_0 rfl (lv_at hl 1 rfl) ?_
  refine g_if_lt (tgt := 16) hx hb dX5_isBolt_1 (by decide) rfl (fun c_1 => ?_) (fun c_1 => ?_)
  · skip
    refine lv_iconst (v := (nI (0))) hx hb dX5_isBolt_16 (by decide) ?_
    exact W.zret (v := (nI (0))) hx hb hr (by decide) (fun t ht hW => ⟨_, rfl, (bI_f (fun q => by omega)).symm, ht⟩) (fun _ h => nomatch h) dX5_isBolt_17
  · skip
    refine lv_iload_n hx hb dX5_isBolt_4 rfl (lv_at hl 1 rfl) ?_
    refine lv_aload_n hx hb dX5_isBolt_5 rfl (lv_at hl 0 rfl) ?_
    refine va_get (D := D) (ci := 5) (v := .int (I 2)) (C := RX5) (T := TX5) (N := 34) hx hb hts (by decide +kernel) hown hK hP 0 rfl rfl 2 (by decide) (hts (.fieldLink RX5 122 "CaskYardModel" "bolts" "I") (by decide +kernel)) (fun _ h9 => h9) rfl dX5_isBolt_6 ?_
    refine g_top (y := (nI (n))) h1 ?_
    refine g_icmp_ge (tgt := 16) hx hb dX5_isBolt_9 (by decide) rfl (n_i (by omega)) (fun c_9 => ?_) (fun c_9 => ?_)
    · skip
      refine lv_iconst (v := (nI (0))) hx hb dX5_isBolt_16 (by decide) ?_
      exact W.zret (v := (nI (0))) hx hb hr (by decide) (fun t ht hW => ⟨_, rfl, (bI_f (fun q => by omega)).symm, ht⟩) (fun _ h => nomatch h) dX5_isBolt_17
    · skip
      refine lv_iconst (v := (nI (1))) hx hb dX5_isBolt_12 (by decide) ?_
      refine lv_goto (tgt := 17) hx hb dX5_isBolt_13 (by decide) ?_
      exact W.zret (v := (nI (1))) hx hb hr (by decide) (fun t ht hW => ⟨_, rfl, (bI_t ⟨by omega, by omega⟩).symm, ht⟩) (fun _ h => nomatch h) dX5_isBolt_17
set_option maxHeartbeats 4000000 in
set_option maxRecDepth 100000 in
theorem c_X5_isCask (l : Launch) (D : va_G) (cy : Nat → ClassId) (h0 : Nat) (ad : Nat → Nat) (I : Nat → Int32) (F : Nat → Nat → Int32) (a : Int32) (n : Nat) (h1 : I 3 = nI n) (hn : n < 2147483648) : Met l yX5_isCask wsX5_isCask ({ frames := 0, cells := 0, slots := 0, locals := 0 } : Room) (va_Pc [.ref h0, .int (a)] (rB D cy (wM cy h0 ad I F))) (vp_Si (fun r : Int32 => r = bI (0 ≤ a.toInt ∧ a.toInt < (n : Int)))) 0 0 (fun _ => False) := by
  refine Met.ofW (cc := cX5_isCask) (maxL := 2) (ret := (some .boolean)) (by decide) rfl ?_
  intro p e s m args below meth c s₁ B hml hv
  obtain ⟨rfl, hv⟩ := hv
  have hx := B.exec
  have hb := B.bytes
  have hr := B.returns
  have hts := atoms_spec (ws := wsX5_isCask) B.pre
  have hown : s.vm.findClass RX5 = some m.cls := findClass_of_methodNamed B.named
  have hlocks := B.notSynchronized
  obtain ⟨hP, hK⟩ := hv
  have hl := lv_entry ([.ref h0, .int (a)]) (n := 2) (Nat.le_of_ble_eq_true rfl)
  rw [lg_entry_eq]
  generalize (lg_sl ([.ref h0, .int (a)]) ++ List.replicate (2 - (lg_sl ([.ref h0, .int (a)])).length) Slot.unset).toArray = ls at hl ⊢
  have hl : lv_has ls 2 [(0, .ref h0), (1, .int (a))] := hl
  refine lv_iload_n hx hb dX5_isCask_0 rfl (lv_at hl 1 rfl) ?_
  refine g_if_lt (tgt := 16) hx hb dX5_isCask_1 (by decide) rfl (fun c_1 => ?_) (fun c_1 => ?_)
  · skip
    refine lv_iconst (v := (nI (0))) hx hb dX5_isCask_16 (by decide) ?_
    exact W.zret (v := (nI (0))) hx hb hr (by decide) (fun t ht hW => ⟨_, rfl, (bI_f (fun q => by omega)).symm, ht⟩) (fun _ h => nomatch h) dX5_isCask_17
  · skip
    refine lv_iload_n hx hb dX5_isCask_4 rfl (lv_at hl 1 rfl) ?_
    refine lv_aload_n hx hb dX5_isCask_5 rfl (lv_at hl 0 rfl) ?_
    refine va_get (D := D) (ci := 5) (v := .int (I 3)) (C := RX5) (T := TX5) (N := 34) hx hb hts (by decide +kernel) hown hK hP 0 rfl rfl 3 (by decide) (hts (.fieldLink RX5 184 "CaskYardModel" "casks" "I") (by decide +kernel)) (fun _ h9 => h9) rfl dX5_isCask_6 ?_
    refine g_top (y := (nI (n))) h1 ?_
    refine g_icmp_ge (tgt := 16) hx hb dX5_isCask_9 (by decide) rfl (n_i (by omega)) (fun c_9 => ?_) (fun c_9 => ?_)
    · skip
      refine lv_iconst (v := (nI (0))) hx hb dX5_isCask_16 (by decide) ?_
      exact W.zret (v := (nI (0))) hx hb hr (by decide) (fun t ht hW => ⟨_, rfl, (bI_f (fun q => by omega)).symm, ht⟩) (fun _ h => nomatch h) dX5_isCask_17
    · skip
      refine lv_iconst (v := (nI (1))) hx hb dX5_isCask_12 (by decide) ?_
      refine lv_goto (tgt := 17) hx hb dX5_isCask_13 (by decide) ?_
      exact W.zret (v := (nI (1))) hx hb hr (by decide) (fun t ht hW => ⟨_, rfl, (bI_t ⟨by omega, by omega⟩).symm, ht⟩) (fun _ h => nomatch h) dX5_isCask_17
set_option maxHeartbeats 4000000 in
set_option maxRecDepth 100000 in
theorem c_X5_isKind (l : Launch)   (a : Int32) : Met l yX5_isKind wsX5_isKind ({ frames := 0, cells := 0, slots := 0, locals := 0 } : Room) (va_Pc [.int (a)] (fun _ => True)) (vp_Si (fun r : Int32 => r = bI (0 ≤ a.toInt ∧ a.toInt < 16))) 0 0 (fun _ => False) := by
  refine Met.ofW (cc := cX5_isKind) (maxL := 1) (ret := (some .boolean)) (by decide) rfl ?_
  intro p e s m args below meth c s₁ B hml hv
  obtain ⟨rfl, hv⟩ := hv
  have hx := B.exec
  have hb := B.bytes
  have hr := B.returns
  have hts := atoms_spec (ws := wsX5_isKind) B.pre
  have hown : s.vm.findClass RX5 = some m.cls := findClass_of_methodNamed B.named
  have hlocks := B.notSynchronized
  have hl := lv_entry ([.int (a)]) (n := 1) (Nat.le_of_ble_eq_true rfl)
  rw [lg_entry_eq]
  generalize (lg_sl ([.int (a)]) ++ List.replicate (1 - (lg_sl ([.int (a)])).length) Slot.unset).toArray = ls at hl ⊢
  have hl : lv_has ls 1 [(0, .int (a))] := hl
  refine lv_iload_n hx hb dX5_isKind_0 rfl (lv_at hl 0 rfl) ?_
  refine g_if_lt (tgt := 14) hx hb dX5_isKind_1 (by decide) rfl (fun c_1 => ?_) (fun c_1 => ?_)
  · skip
    refine lv_iconst (v := (nI (0))) hx hb dX5_isKind_14 (by decide) ?_
    exact W.zret (v := (nI (0))) hx hb hr (by decide) (fun t ht hW => ⟨_, rfl, (bI_f (fun q => by omega)).symm, ht⟩) (fun _ h => nomatch h) dX5_isKind_15
  · skip
    refine lv_iload_n hx hb dX5_isKind_4 rfl (lv_at hl 0 rfl) ?_
    refine lv_bipush (v := (nI (16))) hx hb dX5_isKind_5 (by decide) ?_
    refine g_icmp_ge (tgt := 14) hx hb dX5_isKind_7 (by decide) rfl (n_i (by omega)) (fun c_7 => ?_) (fun c_7 => ?_)
    · skip
      refine lv_iconst (v := (nI (0))) hx hb dX5_isKind_14 (by decide) ?_
      exact W.zret (v := (nI (0))) hx hb hr (by decide) (fun t ht hW => ⟨_, rfl, (bI_f (fun q => by omega)).symm, ht⟩) (fun _ h => nomatch h) dX5_isKind_15
    · skip
      refine lv_iconst (v := (nI (1))) hx hb dX5_isKind_10 (by decide) ?_
      refine lv_goto (tgt := 15) hx hb dX5_isKind_11 (by decide) ?_
      exact W.zret (v := (nI (1))) hx hb hr (by decide) (fun t ht hW => ⟨_, rfl, (bI_t ⟨by omega, by omega⟩).symm, ht⟩) (fun _ h => nomatch h) dX5_isKind_15
set_option maxHeartbeats 4000000 in
set_option maxRecDepth 100000 in
theorem c_X5_part (l : Launch)   (b i : Nat) : Met l yX5_part wsX5_part ({ frames := 0, cells := 0, slots := 0, locals := 0 } : Room) (va_Pc [.int (nI (b)), .int (nI (i))] (fun _ => True)) (vp_Si (fun r : Int32 => r = nI (5 * b + i))) 0 0 (fun _ => False) := by
  refine Met.ofW (cc := cX5_part) (maxL := 2) (ret := (some .int)) (by decide) rfl ?_
  intro p e s m args below meth c s₁ B hml hv
  obtain ⟨rfl, hv⟩ := hv
  have hx := B.exec
  have hb := B.bytes
  have hr := B.returns
  have hts := atoms_spec (ws := wsX5_part) B.pre
  have hown : s.vm.findClass RX5 = some m.cls := findClass_of_methodNamed B.named
  have hlocks := B.notSynchronized
  have hl := lv_entry ([.int (nI (b)), .int (nI (i))]) (n := 2) (Nat.le_of_ble_eq_true rfl)
  rw [lg_entry_eq]
  generalize (lg_sl ([.int (nI (b)), .int (nI (i))]) ++ List.replicate (2 - (lg_sl ([.int (nI (b)), .int (nI (i))])).length) Slot.unset).toArray = ls at hl ⊢
  have hl : lv_has ls 2 [(0, .int (nI (b))), (1, .int (nI (i)))] := hl
  refine lv_iconst (v := (nI (5))) hx hb dX5_part_0 (by decide) ?_
  refine lv_iload_n hx hb dX5_part_1 rfl (lv_at hl 0 rfl) ?_
  refine g_imul_n hx hb dX5_part_2 ?_
  refine lv_iload_n hx hb dX5_part_3 rfl (lv_at hl 1 rfl) ?_
  refine g_iadd_n hx hb dX5_part_4 ?_
  exact W.iret (v := (nI ((5 * b) + i))) hx hb hr (fun t ht hW => ⟨_, rfl, rfl, ht⟩) (fun _ h => nomatch h) dX5_part_5
set_option maxHeartbeats 4000000 in
set_option maxRecDepth 100000 in
theorem c_X5_isHeight (l : Launch) (D : va_G) (cy : Nat → ClassId) (h0 : Nat) (ad : Nat → Nat) (I : Nat → Int32) (F : Nat → Nat → Int32) (i : Nat) (hi : i < 8) (y : Int32) (hh : Nat) (h5 : F 5 i = nI hh) (hfb : hh ≤ 200) : Met l yX5_isHeight wsX5_isHeight ({ frames := 0, cells := 0, slots := 0, locals := 0 } : Room) (va_Pc [.ref h0, .int (nI (i)), .int (y)] (rB D cy (wM cy h0 ad I F))) (vp_Si (fun r : Int32 => r = bI (0 ≤ y.toInt ∧ y.toInt ≤ (hh : Int)))) 0 0 (fun _ => False) := by
  refine Met.ofW (cc := cX5_isHeight) (maxL := 3) (ret := (some .boolean)) (by decide) rfl ?_
  intro p e s m args below meth c s₁ B hml hv
  obtain ⟨rfl, hv⟩ := hv
  have hx := B.exec
  have hb := B.bytes
  have hr := B.returns
  have hts := atoms_spec (ws := wsX5_isHeight) B.pre
  have hown : s.vm.findClass RX5 = some m.cls := findClass_of_methodNamed B.named
  have hlocks := B.notSynchronized
  obtain ⟨hP, hK⟩ := hv
  have hl := lv_entry ([.ref h0, .int (nI (i)), .int (y)]) (n := 3) (Nat.le_of_ble_eq_true rfl)
  rw [lg_entry_eq]
  generalize (lg_sl ([.ref h0, .int (nI (i)), .int (y)]) ++ List.replicate (3 - (lg_sl ([.ref h0, .int (nI (i)), .int (y)])).length) Slot.unset).toArray = ls at hl ⊢
  have hl : lv_has ls 3 [(0, .ref h0), (1, .int (nI (i))), (2, .int (y))] := hl
  refine lv_iload_n hx hb dX5_isHeight_0 rfl (lv_at hl 2 rfl) ?_
  refine g_if_lt (tgt := 18) hx hb dX5_isHeight_1 (by decide) rfl (fun c_1 => ?_) (fun c_1 => ?_)
  · skip
    refine lv_iconst (v := (nI (0))) hx hb dX5_isHeight_18 (by decide) ?_
    exact W.zret (v := (nI (0))) hx hb hr (by decide) (fun t ht hW => ⟨_, rfl, (bI_f (fun q => by omega)).symm, ht⟩) (fun _ h => nomatch h) dX5_isHeight_19
  · skip
    refine lv_iload_n hx hb dX5_isHeight_4 rfl (lv_at hl 2 rfl) ?_
    refine lv_aload_n hx hb dX5_isHeight_5 rfl (lv_at hl 0 rfl) ?_
    refine va_get (D := D) (ci := 5) (v := .ref ((ad 5))) (C := RX5) (T := TX5) (N := 34) hx hb hts (by decide +kernel) hown hK hP 0 rfl rfl 5 (by decide) (hts (.fieldLink RX5 9 "CaskYardModel" "tall" "[I") (by decide +kernel)) (fun _ h9 => h9) rfl dX5_isHeight_6 ?_
    refine lv_iload_n hx hb dX5_isHeight_9 rfl (lv_at hl 1 rfl) ?_
    refine g_iald hx hb hK hP 1 0 rfl rfl (i) rfl (by omega) (by decide) dX5_isHeight_10 ?_
    refine g_top (y := (nI (hh))) h5 ?_
    refine g_icmp_gt (tgt := 18) hx hb dX5_isHeight_11 (by decide) rfl (n_i (by omega)) (fun c_11 => ?_) (fun c_11 => ?_)
    · skip
      refine lv_iconst (v := (nI (0))) hx hb dX5_isHeight_18 (by decide) ?_
      exact W.zret (v := (nI (0))) hx hb hr (by decide) (fun t ht hW => ⟨_, rfl, (bI_f (fun q => by omega)).symm, ht⟩) (fun _ h => nomatch h) dX5_isHeight_19
    · skip
      refine lv_iconst (v := (nI (1))) hx hb dX5_isHeight_14 (by decide) ?_
      refine lv_goto (tgt := 19) hx hb dX5_isHeight_15 (by decide) ?_
      exact W.zret (v := (nI (1))) hx hb hr (by decide) (fun t ht hW => ⟨_, rfl, (bI_t ⟨by omega, by omega⟩).symm, ht⟩) (fun _ h => nomatch h) dX5_isHeight_19
set_option maxHeartbeats 4000000 in
set_option maxRecDepth 100000 in
theorem c_X5_girthOf (l : Launch) (D : va_G) (cy : Nat → ClassId) (h0 : Nat) (ad : Nat → Nat) (I : Nat → Int32) (F : Nat → Nat → Int32) (i y : Nat) (hi : i < 8) (hh gg ee : Nat) (h5 : F 5 i = nI hh) (h6 : F 6 i = nI gg) (h7 : F 7 i = nI ee) (hfb : 10 ≤ hh ∧ hh ≤ 200 ∧ ee ≤ gg ∧ gg ≤ 2000) (hy : y ≤ hh) : Met l yX5_girthOf wsX5_girthOf ({ frames := 0, cells := 0, slots := 0, locals := 0 } : Room) (va_Pc [.ref h0, .int (nI (i)), .int (nI (y))] (rB D cy (wM cy h0 ad I F))) (vp_Si (fun r : Int32 => r = nI (girthN hh gg ee y))) 0 0 (fun _ => False) := by
  refine Met.ofW (cc := cX5_girthOf) (maxL := 4) (ret := (some .int)) (by decide) rfl ?_
  intro p e s m args below meth c s₁ B hml hv
  obtain ⟨rfl, hv⟩ := hv
  have hx := B.exec
  have hb := B.bytes
  have hr := B.returns
  have hts := atoms_spec (ws := wsX5_girthOf) B.pre
  have hown : s.vm.findClass RX5 = some m.cls := findClass_of_methodNamed B.named
  have hlocks := B.notSynchronized
  obtain ⟨hP, hK⟩ := hv
  have hl := lv_entry ([.ref h0, .int (nI (i)), .int (nI (y))]) (n := 4) (Nat.le_of_ble_eq_true rfl)
  rw [lg_entry_eq]
  generalize (lg_sl ([.ref h0, .int (nI (i)), .int (nI (y))]) ++ List.replicate (4 - (lg_sl ([.ref h0, .int (nI (i)), .int (nI (y))])).length) Slot.unset).toArray = ls at hl ⊢
  have hl : lv_has ls 4 [(0, .ref h0), (1, .int (nI (i))), (2, .int (nI (y)))] := hl
  refine lv_iconst (v := (nI (2))) hx hb dX5_girthOf_0 (by decide) ?_
  refine lv_iload_n hx hb dX5_girthOf_1 rfl (lv_at hl 2 rfl) ?_
  refine g_imul_n hx hb dX5_girthOf_2 ?_
  refine lv_aload_n hx hb dX5_girthOf_3 rfl (lv_at hl 0 rfl) ?_
  refine va_get (D := D) (ci := 5) (v := .ref ((ad 5))) (C := RX5) (T := TX5) (N := 34) hx hb hts (by decide +kernel) hown hK hP 0 rfl rfl 5 (by decide) (hts (.fieldLink RX5 9 "CaskYardModel" "tall" "[I") (by decide +kernel)) (fun _ h9 => h9) rfl dX5_girthOf_4 ?_
  refine lv_iload_n hx hb dX5_girthOf_7 rfl (lv_at hl 1 rfl) ?_
  refine g_iald hx hb hK hP 1 0 rfl rfl (i) rfl (by omega) (by decide) dX5_girthOf_8 ?_
  refine g_top (y := (nI (hh))) h5 ?_
  refine g_isub_z (i := ((2 * y : Nat) : Int)) (j := ((hh : Nat) : Int)) hx hb dX5_girthOf_9 (zI_nI (2 * y)) (zI_nI (hh)) ?_
  refine lv_istore_n (lv' := [(3, .int (zI ((((2 * y : Nat) : Int)) - (((hh : Nat) : Int))))), (0, .ref h0), (1, .int (nI (i))), (2, .int (nI (y)))]) hx hb dX5_girthOf_10 rfl hl (by decide) rfl (fun ls hl => ?_)
  refine lv_aload_n hx hb dX5_girthOf_11 rfl (lv_at hl 1 rfl) ?_
  refine va_get (D := D) (ci := 5) (v := .ref ((ad 6))) (C := RX5) (T := TX5) (N := 34) hx hb hts (by decide +kernel) hown hK hP 0 rfl rfl 6 (by decide) (hts (.fieldLink RX5 13 "CaskYardModel" "bilge" "[I") (by decide +kernel)) (fun _ h9 => h9) rfl dX5_girthOf_12 ?_
  refine lv_iload_n hx hb dX5_girthOf_15 rfl (lv_at hl 2 rfl) ?_
  refine g_iald hx hb hK hP 2 0 rfl rfl (i) rfl (by omega) (by decide) dX5_girthOf_16 ?_
  refine g_top (y := (nI (gg))) h6 ?_
  refine lv_aload_n hx hb dX5_girthOf_17 rfl (lv_at hl 1 rfl) ?_
  refine va_get (D := D) (ci := 5) (v := .ref ((ad 6))) (C := RX5) (T := TX5) (N := 34) hx hb hts (by decide +kernel) hown hK hP 0 rfl rfl 6 (by decide) (hts (.fieldLink RX5 13 "CaskYardModel" "bilge" "[I") (by decide +kernel)) (fun _ h9 => h9) rfl dX5_girthOf_18 ?_
  refine lv_iload_n hx hb dX5_girthOf_21 rfl (lv_at hl 2 rfl) ?_
  refine g_iald hx hb hK hP 2 0 rfl rfl (i) rfl (by omega) (by decide) dX5_girthOf_22 ?_
  refine g_top (y := (nI (gg))) h6 ?_
  refine lv_aload_n hx hb dX5_girthOf_23 rfl (lv_at hl 1 rfl) ?_
  refine va_get (D := D) (ci := 5) (v := .ref ((ad 7))) (C := RX5) (T := TX5) (N := 34) hx hb hts (by decide +kernel) hown hK hP 0 rfl rfl 7 (by decide) (hts (.fieldLink RX5 16 "CaskYardModel" "headGirth" "[I") (by decide +kernel)) (fun _ h9 => h9) rfl dX5_girthOf_24 ?_
  refine lv_iload_n hx hb dX5_girthOf_27 rfl (lv_at hl 2 rfl) ?_
  refine g_iald hx hb hK hP 3 0 rfl rfl (i) rfl (by omega) (by decide) dX5_girthOf_28 ?_
  refine g_top (y := (nI (ee))) h7 ?_
  refine g_isub_n hx hb dX5_girthOf_29 (by omega) ?_
  refine lv_iload_n hx hb dX5_girthOf_30 rfl (lv_at hl 0 rfl) ?_
  refine lv_iload_n hx hb dX5_girthOf_31 rfl (lv_at hl 0 rfl) ?_
  refine g_imul_z (i := (((2 * y : Nat) : Int)) - (((hh : Nat) : Int))) (j := (((2 * y : Nat) : Int)) - (((hh : Nat) : Int))) hx hb dX5_girthOf_32 rfl rfl ?_
  refine g_top (y := (nI (dN hh y * dN hh y))) (z_n (dN_sq hh y)) ?_
  refine g_imul_n hx hb dX5_girthOf_33 ?_
  refine lv_aload_n hx hb dX5_girthOf_34 rfl (lv_at hl 1 rfl) ?_
  refine va_get (D := D) (ci := 5) (v := .ref ((ad 5))) (C := RX5) (T := TX5) (N := 34) hx hb hts (by decide +kernel) hown hK hP 0 rfl rfl 5 (by decide) (hts (.fieldLink RX5 9 "CaskYardModel" "tall" "[I") (by decide +kernel)) (fun _ h9 => h9) rfl dX5_girthOf_35 ?_
  refine lv_iload_n hx hb dX5_girthOf_38 rfl (lv_at hl 2 rfl) ?_
  refine g_iald hx hb hK hP 1 0 rfl rfl (i) rfl (by omega) (by decide) dX5_girthOf_39 ?_
  refine g_top (y := (nI (hh))) h5 ?_
  refine lv_aload_n hx hb dX5_girthOf_40 rfl (lv_at hl 1 rfl) ?_
  refine va_get (D := D) (ci := 5) (v := .ref ((ad 5))) (C := RX5) (T := TX5) (N := 34) hx hb hts (by decide +kernel) hown hK hP 0 rfl rfl 5 (by decide) (hts (.fieldLink RX5 9 "CaskYardModel" "tall" "[I") (by decide +kernel)) (fun _ h9 => h9) rfl dX5_girthOf_41 ?_
  refine lv_iload_n hx hb dX5_girthOf_44 rfl (lv_at hl 2 rfl) ?_
  refine g_iald hx hb hK hP 1 0 rfl rfl (i) rfl (by omega) (by decide) dX5_girthOf_45 ?_
  refine g_top (y := (nI (hh))) h5 ?_
  refine g_imul_n hx hb dX5_girthOf_46 ?_
  refine g_idiv_n hx hb dX5_girthOf_47 (girth_b1 hfb.2.2.2 hfb.2.1 hy) (girth_b2 hfb.1 hfb.2.1).1 (girth_b2 hfb.1 hfb.2.1).2 ?_
  refine g_isub_n hx hb dX5_girthOf_48 (Nat.le_trans (girth_b3 hy) (Nat.sub_le _ _)) ?_
  exact W.iret (v := (nI (gg - (((gg - ee) * (dN hh y * dN hh y)) / (hh * hh))))) hx hb hr (fun t ht hW => ⟨_, rfl, rfl, ht⟩) (fun _ h => nomatch h) dX5_girthOf_49
set_option maxHeartbeats 4000000 in
set_option maxRecDepth 100000 in
theorem c_X5_widthOf (l : Launch) (D : va_G) (cy : Nat → ClassId) (h0 : Nat) (ad : Nat → Nat) (I : Nat → Int32) (F : Nat → Nat → Int32) (i k y : Nat) (hi : i < 8) (hh gg ee : Nat) (h5 : F 5 i = nI hh) (h6 : F 6 i = nI gg) (h7 : F 7 i = nI ee) (hfb : 10 ≤ hh ∧ hh ≤ 200 ∧ ee ≤ gg ∧ gg ≤ 2000) (hy : y ≤ hh) (n : Nat) (h8 : F 8 i = nI n) (hk : k < n) (hn : n ≤ 40) : Met l yX5_widthOf wsX5_widthOf ({ frames := 1, cells := 0, slots := 0, locals := 23 } : Room) (va_Pc [.ref h0, .int (nI (i)), .int (nI (k)), .int (nI (y))] (rB D cy (wM cy h0 ad I F))) (vp_Si (fun r : Int32 => r = nI (widthN n k (girthN hh gg ee y)))) 0 0 (fun _ => False) := by
  refine Met.ofW (cc := cX5_widthOf) (maxL := 5) (ret := (some .int)) (by decide) rfl ?_
  intro p e s m args below meth c s₁ B hml hv
  obtain ⟨rfl, hv⟩ := hv
  have hx := B.exec
  have hb := B.bytes
  have hr := B.returns
  have hts := atoms_spec (ws := wsX5_widthOf) B.pre
  have hown : s.vm.findClass RX5 = some m.cls := findClass_of_methodNamed B.named
  have hlocks := B.notSynchronized
  obtain ⟨hP, hK⟩ := hv
  have hl := lv_entry ([.ref h0, .int (nI (i)), .int (nI (k)), .int (nI (y))]) (n := 5) (Nat.le_of_ble_eq_true rfl)
  rw [lg_entry_eq]
  generalize (lg_sl ([.ref h0, .int (nI (i)), .int (nI (k)), .int (nI (y))]) ++ List.replicate (5 - (lg_sl ([.ref h0, .int (nI (i)), .int (nI (k)), .int (nI (y))])).length) Slot.unset).toArray = ls at hl ⊢
  have hl : lv_has ls 5 [(0, .ref h0), (1, .int (nI (i))), (2, .int (nI (k))), (3, .int (nI (y)))] := hl
  have hw := width_b (k := k) (n := n) (gi := girthN hh gg ee y) (Nat.le_trans (girthN_le _ _ _ _) hfb.2.2.2) hk hn
  refine lv_aload_n hx hb dX5_widthOf_0 rfl (lv_at hl 0 rfl) ?_
  refine lv_iload_n hx hb dX5_widthOf_1 rfl (lv_at hl 1 rfl) ?_
  refine lv_iload_n hx hb dX5_widthOf_2 rfl (lv_at hl 3 rfl) ?_
  refine vp_callSi (va_Run.run (va_runV (As := [.int (nI (i)), .int (nI (y))]) (rest := []) ⟨hx, hb, hml, hown, hts⟩ (c_X5_girthOf l D cy h0 ad I F (i) (y) (hi) (hh) (gg) (ee) (h5) (h6) (h7) (hfb) (hy)) (cwV 2 hts gX5_widthOf_X5_girthOf rfl rfl rfl (by decide +kernel) ⟨Nat.le_of_ble_eq_true rfl, Nat.le_of_ble_eq_true rfl⟩) ⟨rB_blind, va_recv hK hP (ci := 5) (q0 := 0) rfl rfl, (rB_pre hP hK)⟩ rfl rfl hl.1 rfl (lv_room (Nat.le_of_ble_eq_true rfl)) dX5_widthOf_3 ⟨Nat.le_of_ble_eq_true rfl, Nat.le_of_ble_eq_true rfl⟩)) (fun r_3 hr_3 => ?_)
  subst hr_3
  refine lv_istore (lv' := [(4, .int (nI (girthN (hh) (gg) (ee) (y)))), (0, .ref h0), (1, .int (nI (i))), (2, .int (nI (k))), (3, .int (nI (y)))]) hx hb dX5_widthOf_6 hl (by decide) rfl (fun ls hl => ?_)
  refine lv_iload hx hb dX5_widthOf_8 (lv_at hl 0 rfl) ?_
  refine lv_iload_n hx hb dX5_widthOf_10 rfl (lv_at hl 3 rfl) ?_
  refine lv_iconst (v := (nI (1))) hx hb dX5_widthOf_11 (by decide) ?_
  refine g_iadd_n hx hb dX5_widthOf_12 ?_
  refine g_imul_n hx hb dX5_widthOf_13 ?_
  refine lv_aload_n hx hb dX5_widthOf_14 rfl (lv_at hl 1 rfl) ?_
  refine va_get (D := D) (ci := 5) (v := .ref ((ad 8))) (C := RX5) (T := TX5) (N := 34) hx hb hts (by decide +kernel) hown hK hP 0 rfl rfl 8 (by decide) (hts (.fieldLink RX5 19 "CaskYardModel" "staves" "[I") (by decide +kernel)) (fun _ h9 => h9) rfl dX5_widthOf_15 ?_
  refine lv_iload_n hx hb dX5_widthOf_18 rfl (lv_at hl 2 rfl) ?_
  refine g_iald hx hb hK hP 4 0 rfl rfl (i) rfl (by omega) (by decide) dX5_widthOf_19 ?_
  refine g_top (y := (nI (n))) h8 ?_
  refine g_idiv_n hx hb dX5_widthOf_20 (by omega) (by omega) (by omega) ?_
  refine lv_iload hx hb dX5_widthOf_21 (lv_at hl 0 rfl) ?_
  refine lv_iload_n hx hb dX5_widthOf_23 rfl (lv_at hl 3 rfl) ?_
  refine g_imul_n hx hb dX5_widthOf_24 ?_
  refine lv_aload_n hx hb dX5_widthOf_25 rfl (lv_at hl 1 rfl) ?_
  refine va_get (D := D) (ci := 5) (v := .ref ((ad 8))) (C := RX5) (T := TX5) (N := 34) hx hb hts (by decide +kernel) hown hK hP 0 rfl rfl 8 (by decide) (hts (.fieldLink RX5 19 "CaskYardModel" "staves" "[I") (by decide +kernel)) (fun _ h9 => h9) rfl dX5_widthOf_26 ?_
  refine lv_iload_n hx hb dX5_widthOf_29 rfl (lv_at hl 2 rfl) ?_
  refine g_iald hx hb hK hP 4 0 rfl rfl (i) rfl (by omega) (by decide) dX5_widthOf_30 ?_
  refine g_top (y := (nI (n))) h8 ?_
  refine g_idiv_n hx hb dX5_widthOf_31 (by omega) (by omega) (by omega) ?_
  refine g_isub_n hx hb dX5_widthOf_32 (by omega) ?_
  exact W.iret (v := (nI ((((girthN (hh) (gg) (ee) (y)) * (k + 1)) / n) - (((girthN (hh) (gg) (ee) (y)) * k) / n)))) hx hb hr (fun t ht hW => ⟨_, rfl, rfl, ht⟩) (fun _ h => nomatch h) dX5_widthOf_33
end
section
set_option maxHeartbeats 4000000 in
set_option maxRecDepth 100000 in
theorem c_X5_isRipe (l : Launch) (D : va_G) (cy : Nat → ClassId) (h0 : Nat) (ad : Nat → Nat) (I : Nat → Int32) (F : Nat → Nat → Int32) (b sp nw : Nat) (hbb : b < 40) (h1 : I 4 = nI nw) (h2 : F 9 b = nI sp) (hle : sp ≤ nw ∧ nw ≤ 100000) : Met l yX5_isRipe wsX5_isRipe ({ frames := 0, cells := 0, slots := 0, locals := 0 } : Room) (va_Pc [.ref h0, .int (nI (b))] (rB D cy (wM cy h0 ad I F))) (vp_Si (fun r : Int32 => r = bI (sp + 1095 ≤ nw))) 0 0 (fun _ => False) := by
  refine Met.ofW (cc := cX5_isRipe) (maxL := 2) (ret := (some .boolean)) (by decide) rfl ?_
  intro p e s m args below meth c s₁ B hml hv
  obtain ⟨rfl, hv⟩ := hv
  have hx := B.exec
  have hb := B.bytes
  have hr := B.returns
  have hts := atoms_spec (ws := wsX5_isRipe) B.pre
  have hown : s.vm.findClass RX5 = some m.cls := findClass_of_methodNamed B.named
  have hlocks := B.notSynchronized
  obtain ⟨hP, hK⟩ := hv
  have hl := lv_entry ([.ref h0, .int (nI (b))]) (n := 2) (Nat.le_of_ble_eq_true rfl)
  rw [lg_entry_eq]
  generalize (lg_sl ([.ref h0, .int (nI (b))]) ++ List.replicate (2 - (lg_sl ([.ref h0, .int (nI (b))])).length) Slot.unset).toArray = ls at hl ⊢
  have hl : lv_has ls 2 [(0, .ref h0), (1, .int (nI (b)))] := hl
  refine lv_aload_n hx hb dX5_isRipe_0 rfl (lv_at hl 0 rfl) ?_
  refine va_get (D := D) (ci := 5) (v := .int (I 4)) (C := RX5) (T := TX5) (N := 34) hx hb hts (by decide +kernel) hown hK hP 0 rfl rfl 4 (by decide) (hts (.fieldLink RX5 117 "CaskYardModel" "now" "I") (by decide +kernel)) (fun _ h9 => h9) rfl dX5_isRipe_1 ?_
  refine g_top (y := (nI (nw))) h1 ?_
  refine lv_aload_n hx hb dX5_isRipe_4 rfl (lv_at hl 0 rfl) ?_
  refine va_get (D := D) (ci := 5) (v := .ref ((ad 9))) (C := RX5) (T := TX5) (N := 34) hx hb hts (by decide +kernel) hown hK hP 0 rfl rfl 9 (by decide) (hts (.fieldLink RX5 22 "CaskYardModel" "splitOn" "[I") (by decide +kernel)) (fun _ h9 => h9) rfl dX5_isRipe_5 ?_
  refine lv_iload_n hx hb dX5_isRipe_8 rfl (lv_at hl 1 rfl) ?_
  refine g_iald hx hb hK hP 5 0 rfl rfl (b) rfl (by omega) (by decide) dX5_isRipe_9 ?_
  refine g_top (y := (nI (sp))) h2 ?_
  refine g_isub_n hx hb dX5_isRipe_10 (by omega) ?_
  refine lv_sipush (v := (nI (1095))) hx hb dX5_isRipe_11 (by decide) ?_
  refine g_icmp_lt (tgt := 21) hx hb dX5_isRipe_14 (by decide) (n_i (by omega)) (n_i (by omega)) (fun c_14 => ?_) (fun c_14 => ?_)
  · skip
    refine lv_iconst (v := (nI (0))) hx hb dX5_isRipe_21 (by decide) ?_
    exact W.zret (v := (nI (0))) hx hb hr (by decide) (fun t ht hW => ⟨_, rfl, (bI_f (fun q => by omega)).symm, ht⟩) (fun _ h => nomatch h) dX5_isRipe_22
  · skip
    refine lv_iconst (v := (nI (1))) hx hb dX5_isRipe_17 (by decide) ?_
    refine lv_goto (tgt := 22) hx hb dX5_isRipe_18 (by decide) ?_
    exact W.zret (v := (nI (1))) hx hb hr (by decide) (fun t ht hW => ⟨_, rfl, (bI_t (by omega)).symm, ht⟩) (fun _ h => nomatch h) dX5_isRipe_22
set_option maxHeartbeats 4000000 in
set_option maxRecDepth 100000 in
theorem c_X5_holdsAt (l : Launch) (D : va_G) (cy : Nat → ClassId) (h0 : Nat) (ad : Nat → Nat) (I : Nat → Int32) (F : Nat → Nat → Int32) (i lv : Nat) (hi : i < 8) (hh gg ee : Nat) (h5 : F 5 i = nI hh) (h6 : F 6 i = nI gg) (h7 : F 7 i = nI ee) (hfb : 10 ≤ hh ∧ hh ≤ 200 ∧ ee ≤ gg ∧ gg ≤ 2000) (hlv : lv ≤ hh) : Met l yX5_holdsAt wsX5_holdsAt ({ frames := 1, cells := 0, slots := 0, locals := 23 } : Room) (va_Pc [.ref h0, .int (nI (i)), .int (nI (lv))] (rB D cy (wM cy h0 ad I F))) (vp_Si (fun r : Int32 => r = nI (holdsN hh gg ee lv))) 0 0 (fun _ => False) := by
  refine Met.ofW (cc := cX5_holdsAt) (maxL := 6) (ret := (some .int)) (by decide) rfl ?_
  intro p e s m args below meth c s₁ B hml hv
  obtain ⟨rfl, hv⟩ := hv
  have hx := B.exec
  have hb := B.bytes
  have hr := B.returns
  have hts := atoms_spec (ws := wsX5_holdsAt) B.pre
  have hown : s.vm.findClass RX5 = some m.cls := findClass_of_methodNamed B.named
  have hlocks := B.notSynchronized
  obtain ⟨hP, hK⟩ := hv
  have hl := lv_entry ([.ref h0, .int (nI (i)), .int (nI (lv))]) (n := 6) (Nat.le_of_ble_eq_true rfl)
  rw [lg_entry_eq]
  generalize (lg_sl ([.ref h0, .int (nI (i)), .int (nI (lv))]) ++ List.replicate (6 - (lg_sl ([.ref h0, .int (nI (i)), .int (nI (lv))])).length) Slot.unset).toArray = ls at hl ⊢
  have hl : lv_has ls 6 [(0, .ref h0), (1, .int (nI (i))), (2, .int (nI (lv)))] := hl
  refine lv_lconst (v := lN 0) hx hb dX5_holdsAt_0 (by decide) ?_
  refine lv_lstore_n (lv' := [(3, .long (lN (0))), (0, .ref h0), (1, .int (nI (i))), (2, .int (nI (lv)))]) hx hb dX5_holdsAt_1 rfl hl (by decide) rfl (fun ls hl => ?_)
  refine lv_iconst (v := (nI (0))) hx hb dX5_holdsAt_2 (by decide) ?_
  refine lv_istore (lv' := [(5, .int (nI (0))), (3, .long (lN (0))), (0, .ref h0), (1, .int (nI (i))), (2, .int (nI (lv)))]) hx hb dX5_holdsAt_3 hl (by decide) rfl (fun ls hl => ?_)
  have loop_5 : ∀ (n_ : Nat) (y : Nat), y ≤ lv → lv - y < n_ → ∀ (ls : Array Slot), lv_has ls 6 [(0, .ref h0), (1, .int (nI (i))), (2, .int (nI (lv))), (3, .long (lN (sqN hh gg ee y))), (5, .int (nI (y)))] → W p l e (headSpec wsX5_holdsAt ({ frames := 1, cells := 0, slots := 0, locals := 23 } : Room)).room s m ([.ref h0, .int (nI (i)), .int (nI (lv))] : List Value).toArray below meth c s.heap [] 0 0 (MQ below (vp_Si (fun r : Int32 => r = nI (holdsN hh gg ee lv))) ([.ref h0, .int (nI (i)), .int (nI (lv))] : List Value).toArray s 0 0 (fun _ => False)) (F0 m 5 ls []) := by
    intro n_
    induction n_ with
    | zero => intro y hyl hm_; exact absurd hm_ (Nat.not_lt_zero _)
    | succ n_ ih_5 =>
      intro y hyl hm_ ls hl
      refine lv_iload hx hb dX5_holdsAt_5 (lv_at hl 4 rfl) ?_
      refine lv_iload_n hx hb dX5_holdsAt_7 rfl (lv_at hl 2 rfl) ?_
      refine g_icmp_ge (tgt := 37) hx hb dX5_holdsAt_8 (by decide) (n_i (by omega)) (n_i (by omega)) (fun c_8 => ?_) (fun c_8 => ?_)
      · skip
        obtain rfl : y = lv := by omega
        have hsq := sqN_le (h := hh) (e := ee) hfb.2.2.2 y
        refine lv_lload_n hx hb dX5_holdsAt_37 rfl (lv_at hl 3 rfl) ?_
        refine lv_ldc2 hx hb hown (hts (.constantLong RX5 110 (113)) (by decide +kernel)) dX5_holdsAt_38 ?_
        refine g_topl (y := lN 113) (by decide) ?_
        refine lv_lmul hx hb dX5_holdsAt_41 ?_
        refine g_topl (y := lN ((sqN hh gg ee y) * 113)) (lN_mul _ _) ?_
        refine lv_ldc2 hx hb hown (hts (.constantLong RX5 112 (1420)) (by decide +kernel)) dX5_holdsAt_42 ?_
        refine g_topl (y := lN 1420) (by decide) ?_
        refine lv_ldiv hx hb dX5_holdsAt_45 (by decide) ?_
        refine g_topl (y := lN (((sqN hh gg ee y) * 113) / 1420)) (pk_lDiv (by omega) (by omega) (by omega)) ?_
        refine lv_l2i (v := nI (((sqN hh gg ee y) * 113) / 1420)) hx hb dX5_holdsAt_46 (lN_i _) ?_
        exact W.iret (v := (nI (((sqN hh gg ee y) * 113) / 1420))) hx hb hr (fun t ht hW => ⟨_, rfl, rfl, ht⟩) (fun _ h => nomatch h) dX5_holdsAt_47
      · skip
        have hgl := girthN_le hh gg ee y
        refine lv_lload_n hx hb dX5_holdsAt_11 rfl (lv_at hl 3 rfl) ?_
        refine lv_aload_n hx hb dX5_holdsAt_12 rfl (lv_at hl 0 rfl) ?_
        refine lv_iload_n hx hb dX5_holdsAt_13 rfl (lv_at hl 1 rfl) ?_
        refine lv_iload hx hb dX5_holdsAt_14 (lv_at hl 4 rfl) ?_
        refine vp_callSi (va_Run.run (va_runV (As := [.int (nI (i)), .int (nI (y))]) (rest := [.long (lN (sqN hh gg ee y))]) ⟨hx, hb, hml, hown, hts⟩ (c_X5_girthOf l D cy h0 ad I F (i) (y) (hi) (hh) (gg) (ee) (h5) (h6) (h7) (hfb) (by omega)) (cwV 2 hts gX5_holdsAt_X5_girthOf rfl rfl rfl (by decide +kernel) ⟨Nat.le_of_ble_eq_true rfl, Nat.le_of_ble_eq_true rfl⟩) ⟨rB_blind, va_recv hK hP (ci := 5) (q0 := 0) rfl rfl, (rB_pre hP hK)⟩ rfl rfl hl.1 rfl (lv_room (Nat.le_of_ble_eq_true rfl)) dX5_holdsAt_16 ⟨Nat.le_of_ble_eq_true rfl, Nat.le_of_ble_eq_true rfl⟩)) (fun r_16 hr_16 => ?_)
        subst hr_16
        refine lv_i2l (v := lN (girthN (hh) (gg) (ee) (y))) hx hb dX5_holdsAt_19 (nI_l (by omega)) ?_
        refine lv_aload_n hx hb dX5_holdsAt_20 rfl (lv_at hl 0 rfl) ?_
        refine lv_iload_n hx hb dX5_holdsAt_21 rfl (lv_at hl 1 rfl) ?_
        refine lv_iload hx hb dX5_holdsAt_22 (lv_at hl 4 rfl) ?_
        refine vp_callSi (va_Run.run (va_runV (As := [.int (nI (i)), .int (nI (y))]) (rest := [.long (lN (girthN (hh) (gg) (ee) (y))), .long (lN (sqN hh gg ee y))]) ⟨hx, hb, hml, hown, hts⟩ (c_X5_girthOf l D cy h0 ad I F (i) (y) (hi) (hh) (gg) (ee) (h5) (h6) (h7) (hfb) (by omega)) (cwV 2 hts gX5_holdsAt_X5_girthOf rfl rfl rfl (by decide +kernel) ⟨Nat.le_of_ble_eq_true rfl, Nat.le_of_ble_eq_true rfl⟩) ⟨rB_blind, va_recv hK hP (ci := 5) (q0 := 0) rfl rfl, (rB_pre hP hK)⟩ rfl rfl hl.1 rfl (lv_room (Nat.le_of_ble_eq_true rfl)) dX5_holdsAt_24 ⟨Nat.le_of_ble_eq_true rfl, Nat.le_of_ble_eq_true rfl⟩)) (fun r_24 hr_24 => ?_)
        subst hr_24
        refine lv_i2l (v := lN (girthN (hh) (gg) (ee) (y))) hx hb dX5_holdsAt_27 (nI_l (by omega)) ?_
        refine lv_lmul hx hb dX5_holdsAt_28 ?_
        refine g_topl (y := lN ((girthN (hh) (gg) (ee) (y)) * (girthN (hh) (gg) (ee) (y)))) (lN_mul _ _) ?_
        refine lv_ladd hx hb dX5_holdsAt_29 ?_
        refine g_topl (y := lN ((sqN hh gg ee y) + ((girthN (hh) (gg) (ee) (y)) * (girthN (hh) (gg) (ee) (y))))) (lN_add _ _) ?_
        refine lv_lstore_n (lv' := [(3, .long (lN ((sqN hh gg ee y) + ((girthN (hh) (gg) (ee) (y)) * (girthN (hh) (gg) (ee) (y)))))), (0, .ref h0), (1, .int (nI (i))), (2, .int (nI (lv))), (5, .int (nI (y)))]) hx hb dX5_holdsAt_30 rfl hl (by decide) rfl (fun ls hl => ?_)
        refine lv_iinc (v := (nI (y + 1))) (lv' := [(5, .int (nI (y + 1))), (3, .long (lN ((sqN hh gg ee y) + ((girthN (hh) (gg) (ee) (y)) * (girthN (hh) (gg) (ee) (y)))))), (0, .ref h0), (1, .int (nI (i))), (2, .int (nI (lv)))]) hx hb dX5_holdsAt_31 hl (k := 4) rfl (nI_add _ _) (by decide) rfl (fun ls hl => ?_)
        refine lv_goto (tgt := 5) hx hb dX5_holdsAt_34 (by decide) ?_
        exact ih_5 (y + 1)  (by omega) (by omega) ls (lv_sub hl [2, 3, 4, 1, 0] rfl)
  exact loop_5 _ (0)  (by omega) (Nat.lt_succ_self _) ls (lv_sub hl [2, 3, 4, 1, 0] rfl)
set_option maxHeartbeats 4000000 in
set_option maxRecDepth 100000 in
theorem c_X5_girth (l : Launch) (D : va_G) (cy : Nat → ClassId) (sz : Nat) (h0 : Nat) (ad : Nat → Nat) (I : Nat → Int32) (F : Nat → Nat → Int32) (Y : YT) (hM : MR I F Y) (hY : WF Y) (a b : Int32) : Met l yX5_girth wsX5_girth ({ frames := 1, cells := 0, slots := 0, locals := 23 } : Room) (va_Pc [.ref h0, .int (a), .int (b)] (wB D cy sz (wM cy h0 ad I F))) (va_Qi (fun (r : Int32) (u : (Nat → Int32) × (Nat → Nat → Int32)) => MP r u (sp_girth Y a b)) (fun u t => wE D cy (va_A (wM cy h0 ad I F) sz) (wM cy h0 ad u.1 u.2) t) (va_A (wM cy h0 ad I F) sz)) 0 0 (va_A (wM cy h0 ad I F) sz) := by
  refine Met.ofW (cc := cX5_girth) (maxL := 3) (ret := (some .int)) (by decide) rfl ?_
  intro p e s m args below meth c s₁ B hml hv
  obtain ⟨rfl, hsz, hP, hK, hD0⟩ := hv
  have hx := B.exec
  have hb := B.bytes
  have hr := B.returns
  have hts := atoms_spec (ws := wsX5_girth) B.pre
  have hown : s.vm.findClass RX5 = some m.cls := findClass_of_methodNamed B.named
  have hlocks := B.notSynchronized
  subst hsz
  have hD := hD0.self (sz := s.heap.size)
  generalize hAe : va_A (wM cy h0 ad I F) s.heap.size = A at hD ⊢
  have hA : ∀ q : Nat, s.heap.size ≤ q → A q := w_A hAe
  have hS : va_S A s.heap s.heap [] := va_S.rf
  have hl := lv_entry ([.ref h0, .int (a), .int (b)]) (n := 3) (Nat.le_of_ble_eq_true rfl)
  rw [lg_entry_eq]
  generalize (lg_sl ([.ref h0, .int (a), .int (b)]) ++ List.replicate (3 - (lg_sl ([.ref h0, .int (a), .int (b)])).length) Slot.unset).toArray = ls at hl ⊢
  have hl : lv_has ls 3 [(0, .ref h0), (1, .int (a)), (2, .int (b))] := hl
  obtain ⟨hm1, hm2, hm3, hm4, hmF, hmB, hmC, hmR, hmW⟩ := id hM
  obtain ⟨hy0, hyF, hyB, hyC, hyf, hyb, hyc, hyr, hyw⟩ := id hY
  refine lv_aload_n hx hb dX5_girth_0 rfl (lv_at hl 0 rfl) ?_
  refine lv_iconst (v := (nI (0))) hx hb dX5_girth_1 (by decide) ?_
  refine va_put (D := D) (ci := 5) (v := .int (nI (0))) (ty := .int) (C := RX5) (T := TX5) (N := 34) hx hb hts (by decide +kernel) tyX5 tyX5_ok nmX5 hown hK hP hD hS 0 rfl rfl 0 (by decide) (hts (.fieldLink RX5 83 "CaskYardModel" "code" "I") (by decide +kernel)) (fun _ h9 => h9) rfl (by decide +kernel) rfl rfl (Nat.le_of_ble_eq_true rfl) dX5_girth_2 (fun H locs hP hD hS => ?_)
  have hP : va_P D vwCl (wM cy h0 ad (va_up I 0 (nI (0))) F) H := hP
  have hD : va_D A (wM cy h0 ad (va_up I 0 (nI (0))) F) := hD
  refine lv_aload_n hx hb dX5_girth_5 rfl (lv_at hl 0 rfl) ?_
  refine lv_iload_n hx hb dX5_girth_6 rfl (lv_at hl 1 rfl) ?_
  refine vp_callSi (va_Run.run (va_runV (As := [.int (a)]) (rest := []) ⟨hx, hb, hml, hown, hts⟩ (c_X5_isForm l D cy h0 ad (va_up I 0 (nI (0))) F (a) (yF Y) (hm1) (by omega)) (cwV 1 hts gX5_girth_X5_isForm rfl rfl rfl (by decide +kernel) ⟨Nat.le_of_ble_eq_true rfl, Nat.le_of_ble_eq_true rfl⟩) ⟨rB_blind, va_recv hK hP (ci := 5) (q0 := 0) rfl rfl, (rB_pre hP hK)⟩ rfl rfl hl.1 rfl (lv_room (Nat.le_of_ble_eq_true rfl)) dX5_girth_7 ⟨Nat.le_of_ble_eq_true rfl, Nat.le_of_ble_eq_true rfl⟩)) (fun r_7 hr_7 => ?_)
  subst hr_7
  refine g_ifne_b (tgt := 21) hx hb dX5_girth_10 (by decide) (fun c_10 => ?_) (fun c_10 => ?_)
  · skip
    have hxa := ix_c c_10.1
    have hia : ix a < yF Y := by omega
    have ha := ix_n c_10.1
    have hl : lv_has ls 3 [(0, .ref h0), (1, .int (nI (ix a))), (2, .int (b))] := by rw [← ha]; exact hl
    refine lv_aload_n hx hb dX5_girth_21 rfl (lv_at hl 0 rfl) ?_
    refine lv_iload_n hx hb dX5_girth_22 rfl (lv_at hl 1 rfl) ?_
    refine lv_iload_n hx hb dX5_girth_23 rfl (lv_at hl 2 rfl) ?_
    refine vp_callSi (va_Run.run (va_runV (As := [.int (nI (ix a)), .int (b)]) (rest := []) ⟨hx, hb, hml, hown, hts⟩ (c_X5_isHeight l D cy h0 ad (va_up I 0 (nI (0))) F (ix a) (Nat.lt_of_lt_of_le hia hyF) (b) (yh Y (ix a)) (hmF (ix a) hia).1 (hyf (ix a) hia).2.1) (cwV 2 hts gX5_girth_X5_isHeight rfl rfl rfl (by decide +kernel) ⟨Nat.le_of_ble_eq_true rfl, Nat.le_of_ble_eq_true rfl⟩) ⟨rB_blind, va_recv hK hP (ci := 5) (q0 := 0) rfl rfl, (rB_pre hP hK)⟩ rfl rfl hl.1 rfl (lv_room (Nat.le_of_ble_eq_true rfl)) dX5_girth_24 ⟨Nat.le_of_ble_eq_true rfl, Nat.le_of_ble_eq_true rfl⟩)) (fun r_24 hr_24 => ?_)
    subst hr_24
    refine g_ifne_b (tgt := 38) hx hb dX5_girth_27 (by decide) (fun c_27 => ?_) (fun c_27 => ?_)
    · skip
      have hxb := ix_c c_27.1
      have hib : ix b ≤ yh Y (ix a) := by omega
      have hb2 := ix_n c_27.1
      have hl : lv_has ls 3 [(0, .ref h0), (1, .int (nI (ix a))), (2, .int (nI (ix b)))] := by rw [← hb2]; exact hl
      refine lv_aload_n hx hb dX5_girth_38 rfl (lv_at hl 0 rfl) ?_
      refine lv_iload_n hx hb dX5_girth_39 rfl (lv_at hl 1 rfl) ?_
      refine lv_iload_n hx hb dX5_girth_40 rfl (lv_at hl 2 rfl) ?_
      refine vp_callSi (va_Run.run (va_runV (As := [.int (nI (ix a)), .int (nI (ix b))]) (rest := []) ⟨hx, hb, hml, hown, hts⟩ (c_X5_girthOf l D cy h0 ad (va_up I 0 (nI (0))) F (ix a) (ix b) (Nat.lt_of_lt_of_le (show ix a < yF Y from hia) hyF) (yh Y (ix a)) (yg Y (ix a)) (ye Y (ix a)) (hmF (ix a) (show ix a < yF Y from hia)).1 (hmF (ix a) (show ix a < yF Y from hia)).2.1 (hmF (ix a) (show ix a < yF Y from hia)).2.2.1 (form_b (hyf (ix a) (show ix a < yF Y from hia))) (hib)) (cwV 2 hts gX5_girth_X5_girthOf rfl rfl rfl (by decide +kernel) ⟨Nat.le_of_ble_eq_true rfl, Nat.le_of_ble_eq_true rfl⟩) ⟨rB_blind, va_recv hK hP (ci := 5) (q0 := 0) rfl rfl, (rB_pre hP hK)⟩ rfl rfl hl.1 rfl (lv_room (Nat.le_of_ble_eq_true rfl)) dX5_girth_41 ⟨Nat.le_of_ble_eq_true rfl, Nat.le_of_ble_eq_true rfl⟩)) (fun r_41 hr_41 => ?_)
      subst hr_41
      exact W.iret (v := (nI (girthN (yh Y (ix a)) (yg Y (ix a)) (ye Y (ix a)) (ix b)))) hx hb hr (fun t ht hW => ⟨⟨_, ((va_up I 0 (nI (0))), F), rfl, by rw [sp_girth, if_pos ⟨by omega, by omega⟩, if_pos ⟨by omega, by omega⟩]; exact ⟨rfl, fun _ => rfl, hM⟩, by rw [ht]; exact hP, va_K.moved hW.alike hK, hD⟩, hS.F ht⟩) hS.2.2 dX5_girth_44
    · skip
      refine lv_aload_n hx hb dX5_girth_30 rfl (lv_at hl 0 rfl) ?_
      refine lv_iconst (v := (nI (2))) hx hb dX5_girth_31 (by decide) ?_
      have hFc := w_free hD hS hA
      refine va_calli (va_runV (As := [.int (nI (2))]) (rest := []) ⟨hx, hb, hml, hown, hts⟩ (c_X5_fail l D cy H.size h0 ad (va_up I 0 (nI (0))) F (nI 2)) (cwV 1 hts gX5_girth_X5_fail rfl rfl rfl (by decide +kernel) ⟨Nat.le_of_ble_eq_true rfl, Nat.le_of_ble_eq_true rfl⟩) ⟨wB_blind, va_recv hK hP (ci := 5) (q0 := 0) rfl rfl, wB_pre hP hK hD⟩ rfl rfl hl.1 rfl (lv_room (Nat.le_of_ble_eq_true rfl)) dX5_girth_32 ⟨Nat.le_of_ble_eq_true rfl, Nat.le_of_ble_eq_true rfl⟩) hS (fun q _ h => hFc q h) hFc (fun r_32 u_32 t H locs ht hvm hw_32 hB _ _ hS => ?_)
      obtain ⟨I_32, F_32⟩ := u_32
      obtain ⟨hP1, hK1, hD1⟩ := hB
      rw [ht] at hP1
      dsimp only at hP1 hD1 hw_32
      obtain ⟨hw_32, hu_32⟩ := hw_32
      rw [(Prod.mk.inj hu_32).1, (Prod.mk.inj hu_32).2] at hP1 hD1
      have hP := hP1
      have hD := hD1.weaken (fun _ _ _ h => hFc _ h)
      have hP : va_P D vwCl (wM cy h0 ad (va_up I 0 (nI (2))) F) H := hP
      have hD : va_D A (wM cy h0 ad (va_up I 0 (nI (2))) F) := hD
      refine g_top (y := (nI (0))) (hw_32) ?_
      refine lv_goto (tgt := 44) hx hb dX5_girth_35 (by decide) ?_
      exact W.iret (v := (nI (0))) hx hb hr (fun t ht hW => ⟨⟨_, ((va_up I 0 (nI (2))), F), rfl, by rw [sp_girth, if_pos ⟨by omega, by omega⟩, if_neg (fun q => c_27 ⟨q.1, by omega⟩)]; exact MP_t rfl hM, by rw [ht]; exact hP, va_K.moved hW.alike hK, hD⟩, hS.F ht⟩) hS.2.2 dX5_girth_44
  · skip
    refine lv_aload_n hx hb dX5_girth_13 rfl (lv_at hl 0 rfl) ?_
    refine lv_iconst (v := (nI (1))) hx hb dX5_girth_14 (by decide) ?_
    have hFc := w_free hD hS hA
    refine va_calli (va_runV (As := [.int (nI (1))]) (rest := []) ⟨hx, hb, hml, hown, hts⟩ (c_X5_fail l D cy H.size h0 ad (va_up I 0 (nI (0))) F (nI 1)) (cwV 1 hts gX5_girth_X5_fail rfl rfl rfl (by decide +kernel) ⟨Nat.le_of_ble_eq_true rfl, Nat.le_of_ble_eq_true rfl⟩) ⟨wB_blind, va_recv hK hP (ci := 5) (q0 := 0) rfl rfl, wB_pre hP hK hD⟩ rfl rfl hl.1 rfl (lv_room (Nat.le_of_ble_eq_true rfl)) dX5_girth_15 ⟨Nat.le_of_ble_eq_true rfl, Nat.le_of_ble_eq_true rfl⟩) hS (fun q _ h => hFc q h) hFc (fun r_15 u_15 t H locs ht hvm hw_15 hB _ _ hS => ?_)
    obtain ⟨I_15, F_15⟩ := u_15
    obtain ⟨hP1, hK1, hD1⟩ := hB
    rw [ht] at hP1
    dsimp only at hP1 hD1 hw_15
    obtain ⟨hw_15, hu_15⟩ := hw_15
    rw [(Prod.mk.inj hu_15).1, (Prod.mk.inj hu_15).2] at hP1 hD1
    have hP := hP1
    have hD := hD1.weaken (fun _ _ _ h => hFc _ h)
    have hP : va_P D vwCl (wM cy h0 ad (va_up I 0 (nI (1))) F) H := hP
    have hD : va_D A (wM cy h0 ad (va_up I 0 (nI (1))) F) := hD
    refine g_top (y := (nI (0))) (hw_15) ?_
    refine lv_goto (tgt := 44) hx hb dX5_girth_18 (by decide) ?_
    exact W.iret (v := (nI (0))) hx hb hr (fun t ht hW => ⟨⟨_, ((va_up I 0 (nI (1))), F), rfl, by rw [sp_girth, if_neg (fun q => c_10 ⟨q.1, by omega⟩)]; exact MP_t rfl hM, by rw [ht]; exact hP, va_K.moved hW.alike hK, hD⟩, hS.F ht⟩) hS.2.2 dX5_girth_44
set_option maxHeartbeats 4000000 in
set_option maxRecDepth 100000 in
theorem c_X5_holds (l : Launch) (D : va_G) (cy : Nat → ClassId) (sz : Nat) (h0 : Nat) (ad : Nat → Nat) (I : Nat → Int32) (F : Nat → Nat → Int32) (Y : YT) (hM : MR I F Y) (hY : WF Y) (a b : Int32) : Met l yX5_holds wsX5_holds ({ frames := 2, cells := 0, slots := 0, locals := 48 } : Room) (va_Pc [.ref h0, .int (a), .int (b)] (wB D cy sz (wM cy h0 ad I F))) (va_Qi (fun (r : Int32) (u : (Nat → Int32) × (Nat → Nat → Int32)) => MP r u (sp_holds Y a b)) (fun u t => wE D cy (va_A (wM cy h0 ad I F) sz) (wM cy h0 ad u.1 u.2) t) (va_A (wM cy h0 ad I F) sz)) 0 0 (va_A (wM cy h0 ad I F) sz) := by
  refine Met.ofW (cc := cX5_holds) (maxL := 3) (ret := (some .int)) (by decide) rfl ?_
  intro p e s m args below meth c s₁ B hml hv
  obtain ⟨rfl, hsz, hP, hK, hD0⟩ := hv
  have hx := B.exec
  have hb := B.bytes
  have hr := B.returns
  have hts := atoms_spec (ws := wsX5_holds) B.pre
  have hown : s.vm.findClass RX5 = some m.cls := findClass_of_methodNamed B.named
  have hlocks := B.notSynchronized
  subst hsz
  have hD := hD0.self (sz := s.heap.size)
  generalize hAe : va_A (wM cy h0 ad I F) s.heap.size = A at hD ⊢
  have hA : ∀ q : Nat, s.heap.size ≤ q → A q := w_A hAe
  have hS : va_S A s.heap s.heap [] := va_S.rf
  have hl := lv_entry ([.ref h0, .int (a), .int (b)]) (n := 3) (Nat.le_of_ble_eq_true rfl)
  rw [lg_entry_eq]
  generalize (lg_sl ([.ref h0, .int (a), .int (b)]) ++ List.replicate (3 - (lg_sl ([.ref h0, .int (a), .int (b)])).length) Slot.unset).toArray = ls at hl ⊢
  have hl : lv_has ls 3 [(0, .ref h0), (1, .int (a)), (2, .int (b))] := hl
  obtain ⟨hm1, hm2, hm3, hm4, hmF, hmB, hmC, hmR, hmW⟩ := id hM
  obtain ⟨hy0, hyF, hyB, hyC, hyf, hyb, hyc, hyr, hyw⟩ := id hY
  refine lv_aload_n hx hb dX5_holds_0 rfl (lv_at hl 0 rfl) ?_
  refine lv_iconst (v := (nI (0))) hx hb dX5_holds_1 (by decide) ?_
  refine va_put (D := D) (ci := 5) (v := .int (nI (0))) (ty := .int) (C := RX5) (T := TX5) (N := 34) hx hb hts (by decide +kernel) tyX5 tyX5_ok nmX5 hown hK hP hD hS 0 rfl rfl 0 (by decide) (hts (.fieldLink RX5 83 "CaskYardModel" "code" "I") (by decide +kernel)) (fun _ h9 => h9) rfl (by decide +kernel) rfl rfl (Nat.le_of_ble_eq_true rfl) dX5_holds_2 (fun H locs hP hD hS => ?_)
  have hP : va_P D vwCl (wM cy h0 ad (va_up I 0 (nI (0))) F) H := hP
  have hD : va_D A (wM cy h0 ad (va_up I 0 (nI (0))) F) := hD
  refine lv_aload_n hx hb dX5_holds_5 rfl (lv_at hl 0 rfl) ?_
  refine lv_iload_n hx hb dX5_holds_6 rfl (lv_at hl 1 rfl) ?_
  refine vp_callSi (va_Run.run (va_runV (As := [.int (a)]) (rest := []) ⟨hx, hb, hml, hown, hts⟩ (c_X5_isForm l D cy h0 ad (va_up I 0 (nI (0))) F (a) (yF Y) (hm1) (by omega)) (cwV 1 hts gX5_holds_X5_isForm rfl rfl rfl (by decide +kernel) ⟨Nat.le_of_ble_eq_true rfl, Nat.le_of_ble_eq_true rfl⟩) ⟨rB_blind, va_recv hK hP (ci := 5) (q0 := 0) rfl rfl, (rB_pre hP hK)⟩ rfl rfl hl.1 rfl (lv_room (Nat.le_of_ble_eq_true rfl)) dX5_holds_7 ⟨Nat.le_of_ble_eq_true rfl, Nat.le_of_ble_eq_true rfl⟩)) (fun r_7 hr_7 => ?_)
  subst hr_7
  refine g_ifne_b (tgt := 21) hx hb dX5_holds_10 (by decide) (fun c_10 => ?_) (fun c_10 => ?_)
  · skip
    have hxa := ix_c c_10.1
    have hia : ix a < yF Y := by omega
    have ha := ix_n c_10.1
    have hl : lv_has ls 3 [(0, .ref h0), (1, .int (nI (ix a))), (2, .int (b))] := by rw [← ha]; exact hl
    refine lv_aload_n hx hb dX5_holds_21 rfl (lv_at hl 0 rfl) ?_
    refine lv_iload_n hx hb dX5_holds_22 rfl (lv_at hl 1 rfl) ?_
    refine lv_iload_n hx hb dX5_holds_23 rfl (lv_at hl 2 rfl) ?_
    refine vp_callSi (va_Run.run (va_runV (As := [.int (nI (ix a)), .int (b)]) (rest := []) ⟨hx, hb, hml, hown, hts⟩ (c_X5_isHeight l D cy h0 ad (va_up I 0 (nI (0))) F (ix a) (Nat.lt_of_lt_of_le hia hyF) (b) (yh Y (ix a)) (hmF (ix a) hia).1 (hyf (ix a) hia).2.1) (cwV 2 hts gX5_holds_X5_isHeight rfl rfl rfl (by decide +kernel) ⟨Nat.le_of_ble_eq_true rfl, Nat.le_of_ble_eq_true rfl⟩) ⟨rB_blind, va_recv hK hP (ci := 5) (q0 := 0) rfl rfl, (rB_pre hP hK)⟩ rfl rfl hl.1 rfl (lv_room (Nat.le_of_ble_eq_true rfl)) dX5_holds_24 ⟨Nat.le_of_ble_eq_true rfl, Nat.le_of_ble_eq_true rfl⟩)) (fun r_24 hr_24 => ?_)
    subst hr_24
    refine g_ifne_b (tgt := 38) hx hb dX5_holds_27 (by decide) (fun c_27 => ?_) (fun c_27 => ?_)
    · skip
      have hxb := ix_c c_27.1
      have hib : ix b ≤ yh Y (ix a) := by omega
      have hb2 := ix_n c_27.1
      have hl : lv_has ls 3 [(0, .ref h0), (1, .int (nI (ix a))), (2, .int (nI (ix b)))] := by rw [← hb2]; exact hl
      refine lv_aload_n hx hb dX5_holds_38 rfl (lv_at hl 0 rfl) ?_
      refine lv_iload_n hx hb dX5_holds_39 rfl (lv_at hl 1 rfl) ?_
      refine lv_iload_n hx hb dX5_holds_40 rfl (lv_at hl 2 rfl) ?_
      refine vp_callSi (va_Run.run (va_runV (As := [.int (nI (ix a)), .int (nI (ix b))]) (rest := []) ⟨hx, hb, hml, hown, hts⟩ (c_X5_holdsAt l D cy h0 ad (va_up I 0 (nI (0))) F (ix a) (ix b) (Nat.lt_of_lt_of_le (show ix a < yF Y from hia) hyF) (yh Y (ix a)) (yg Y (ix a)) (ye Y (ix a)) (hmF (ix a) (show ix a < yF Y from hia)).1 (hmF (ix a) (show ix a < yF Y from hia)).2.1 (hmF (ix a) (show ix a < yF Y from hia)).2.2.1 (form_b (hyf (ix a) (show ix a < yF Y from hia))) (hib)) (cwV 2 hts gX5_holds_X5_holdsAt rfl rfl rfl (by decide +kernel) ⟨Nat.le_of_ble_eq_true rfl, Nat.le_of_ble_eq_true rfl⟩) ⟨rB_blind, va_recv hK hP (ci := 5) (q0 := 0) rfl rfl, (rB_pre hP hK)⟩ rfl rfl hl.1 rfl (lv_room (Nat.le_of_ble_eq_true rfl)) dX5_holds_41 ⟨Nat.le_of_ble_eq_true rfl, Nat.le_of_ble_eq_true rfl⟩)) (fun r_41 hr_41 => ?_)
      subst hr_41
      exact W.iret (v := (nI (holdsN (yh Y (ix a)) (yg Y (ix a)) (ye Y (ix a)) (ix b)))) hx hb hr (fun t ht hW => ⟨⟨_, ((va_up I 0 (nI (0))), F), rfl, by rw [sp_holds, if_pos ⟨by omega, by omega⟩, if_pos ⟨by omega, by omega⟩]; exact ⟨rfl, fun _ => rfl, hM⟩, by rw [ht]; exact hP, va_K.moved hW.alike hK, hD⟩, hS.F ht⟩) hS.2.2 dX5_holds_44
    · skip
      refine lv_aload_n hx hb dX5_holds_30 rfl (lv_at hl 0 rfl) ?_
      refine lv_iconst (v := (nI (2))) hx hb dX5_holds_31 (by decide) ?_
      have hFc := w_free hD hS hA
      refine va_calli (va_runV (As := [.int (nI (2))]) (rest := []) ⟨hx, hb, hml, hown, hts⟩ (c_X5_fail l D cy H.size h0 ad (va_up I 0 (nI (0))) F (nI 2)) (cwV 1 hts gX5_holds_X5_fail rfl rfl rfl (by decide +kernel) ⟨Nat.le_of_ble_eq_true rfl, Nat.le_of_ble_eq_true rfl⟩) ⟨wB_blind, va_recv hK hP (ci := 5) (q0 := 0) rfl rfl, wB_pre hP hK hD⟩ rfl rfl hl.1 rfl (lv_room (Nat.le_of_ble_eq_true rfl)) dX5_holds_32 ⟨Nat.le_of_ble_eq_true rfl, Nat.le_of_ble_eq_true rfl⟩) hS (fun q _ h => hFc q h) hFc (fun r_32 u_32 t H locs ht hvm hw_32 hB _ _ hS => ?_)
      obtain ⟨I_32, F_32⟩ := u_32
      obtain ⟨hP1, hK1, hD1⟩ := hB
      rw [ht] at hP1
      dsimp only at hP1 hD1 hw_32
      obtain ⟨hw_32, hu_32⟩ := hw_32
      rw [(Prod.mk.inj hu_32).1, (Prod.mk.inj hu_32).2] at hP1 hD1
      have hP := hP1
      have hD := hD1.weaken (fun _ _ _ h => hFc _ h)
      have hP : va_P D vwCl (wM cy h0 ad (va_up I 0 (nI (2))) F) H := hP
      have hD : va_D A (wM cy h0 ad (va_up I 0 (nI (2))) F) := hD
      refine g_top (y := (nI (0))) (hw_32) ?_
      refine lv_goto (tgt := 44) hx hb dX5_holds_35 (by decide) ?_
      exact W.iret (v := (nI (0))) hx hb hr (fun t ht hW => ⟨⟨_, ((va_up I 0 (nI (2))), F), rfl, by rw [sp_holds, if_pos ⟨by omega, by omega⟩, if_neg (fun q => c_27 ⟨q.1, by omega⟩)]; exact MP_t rfl hM, by rw [ht]; exact hP, va_K.moved hW.alike hK, hD⟩, hS.F ht⟩) hS.2.2 dX5_holds_44
  · skip
    refine lv_aload_n hx hb dX5_holds_13 rfl (lv_at hl 0 rfl) ?_
    refine lv_iconst (v := (nI (1))) hx hb dX5_holds_14 (by decide) ?_
    have hFc := w_free hD hS hA
    refine va_calli (va_runV (As := [.int (nI (1))]) (rest := []) ⟨hx, hb, hml, hown, hts⟩ (c_X5_fail l D cy H.size h0 ad (va_up I 0 (nI (0))) F (nI 1)) (cwV 1 hts gX5_holds_X5_fail rfl rfl rfl (by decide +kernel) ⟨Nat.le_of_ble_eq_true rfl, Nat.le_of_ble_eq_true rfl⟩) ⟨wB_blind, va_recv hK hP (ci := 5) (q0 := 0) rfl rfl, wB_pre hP hK hD⟩ rfl rfl hl.1 rfl (lv_room (Nat.le_of_ble_eq_true rfl)) dX5_holds_15 ⟨Nat.le_of_ble_eq_true rfl, Nat.le_of_ble_eq_true rfl⟩) hS (fun q _ h => hFc q h) hFc (fun r_15 u_15 t H locs ht hvm hw_15 hB _ _ hS => ?_)
    obtain ⟨I_15, F_15⟩ := u_15
    obtain ⟨hP1, hK1, hD1⟩ := hB
    rw [ht] at hP1
    dsimp only at hP1 hD1 hw_15
    obtain ⟨hw_15, hu_15⟩ := hw_15
    rw [(Prod.mk.inj hu_15).1, (Prod.mk.inj hu_15).2] at hP1 hD1
    have hP := hP1
    have hD := hD1.weaken (fun _ _ _ h => hFc _ h)
    have hP : va_P D vwCl (wM cy h0 ad (va_up I 0 (nI (1))) F) H := hP
    have hD : va_D A (wM cy h0 ad (va_up I 0 (nI (1))) F) := hD
    refine g_top (y := (nI (0))) (hw_15) ?_
    refine lv_goto (tgt := 44) hx hb dX5_holds_18 (by decide) ?_
    exact W.iret (v := (nI (0))) hx hb hr (fun t ht hW => ⟨⟨_, ((va_up I 0 (nI (1))), F), rfl, by rw [sp_holds, if_neg (fun q => c_10 ⟨q.1, by omega⟩)]; exact MP_t rfl hM, by rw [ht]; exact hP, va_K.moved hW.alike hK, hD⟩, hS.F ht⟩) hS.2.2 dX5_holds_44
end
