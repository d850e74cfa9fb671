section
-- ===== PART A: goes FIRST, ahead of the names: the tables' words, and 'selects' of the private methods out of them =====
/-- a private method of a class that the tables say can be made, by its rows of tables_1 -/
def lw_okq (q : MethodName × Nat) : Prop := (q.1.cls ≠ "java/lang/invoke/MethodHandle" ∧ q.1.cls ≠ "java/lang/invoke/VarHandle") ∧ Cond.instantiable q.1.cls q.2 ∈ tables_1 ∧ Cond.privateMethod q.1 ∈ tables_1 ∧ Cond.instanceMethod q.1 ∈ tables_1
theorem lw_p0 : lw_okq (⟨"FountainCode", "beginTransfer", "(II)I"⟩, 5) := ⟨⟨by decide +kernel, by decide +kernel⟩, List.mem_of_getElem? (i := 18) (by decide +kernel), List.mem_of_getElem? (i := 123) (by decide +kernel), List.mem_of_getElem? (i := 124) (by decide +kernel)⟩
theorem lw_p1 : lw_okq (⟨"FountainCode", "addEquation", "(JI)V"⟩, 5) := ⟨⟨by decide +kernel, by decide +kernel⟩, List.mem_of_getElem? (i := 18) (by decide +kernel), List.mem_of_getElem? (i := 155) (by decide +kernel), List.mem_of_getElem? (i := 156) (by decide +kernel)⟩
theorem lw_p2 : lw_okq (⟨"FountainCode$Peeler", "lowestReady", "()I"⟩, 6) := ⟨⟨by decide +kernel, by decide +kernel⟩, List.mem_of_getElem? (i := 62) (by decide +kernel), List.mem_of_getElem? (i := 191) (by decide +kernel), List.mem_of_getElem? (i := 192) (by decide +kernel)⟩
theorem lw_p3 : lw_okq (⟨"FountainCode$Peeler", "peelWith", "(I)V"⟩, 6) := ⟨⟨by decide +kernel, by decide +kernel⟩, List.mem_of_getElem? (i := 62) (by decide +kernel), List.mem_of_getElem? (i := 197) (by decide +kernel), List.mem_of_getElem? (i := 198) (by decide +kernel)⟩
theorem lw_p4 : lw_okq (⟨"FountainCode", "drawn", "(I)LFountainCode$Drop;"⟩, 5) := ⟨⟨by decide +kernel, by decide +kernel⟩, List.mem_of_getElem? (i := 18) (by decide +kernel), List.mem_of_getElem? (i := 231) (by decide +kernel), List.mem_of_getElem? (i := 232) (by decide +kernel)⟩
theorem lw_p5 : lw_okq (⟨"FountainCode$Drop", "numberBelow", "(I)I"⟩, 4) := ⟨⟨by decide +kernel, by decide +kernel⟩, List.mem_of_getElem? (i := 104) (by decide +kernel), List.mem_of_getElem? (i := 243) (by decide +kernel), List.mem_of_getElem? (i := 244) (by decide +kernel)⟩
theorem lw_p6 : lw_okq (⟨"FountainCode$Drop", "lineUp", "(I)V"⟩, 4) := ⟨⟨by decide +kernel, by decide +kernel⟩, List.mem_of_getElem? (i := 104) (by decide +kernel), List.mem_of_getElem? (i := 256) (by decide +kernel), List.mem_of_getElem? (i := 257) (by decide +kernel)⟩
theorem lw_p7 : lw_okq (⟨"FountainCode$Drop", "swap", "(II)V"⟩, 4) := ⟨⟨by decide +kernel, by decide +kernel⟩, List.mem_of_getElem? (i := 104) (by decide +kernel), List.mem_of_getElem? (i := 260) (by decide +kernel), List.mem_of_getElem? (i := 261) (by decide +kernel)⟩
theorem lw_p8 : lw_okq (⟨"FountainCode$Sender", "valueOfSources", "(J)I"⟩, 3) := ⟨⟨by decide +kernel, by decide +kernel⟩, List.mem_of_getElem? (i := 46) (by decide +kernel), List.mem_of_getElem? (i := 281) (by decide +kernel), List.mem_of_getElem? (i := 282) (by decide +kernel)⟩
theorem lw_p9 : lw_okq (⟨"FountainCode$Elimination", "remainderOfBlock", "(I)J"⟩, 3) := ⟨⟨by decide +kernel, by decide +kernel⟩, List.mem_of_getElem? (i := 88) (by decide +kernel), List.mem_of_getElem? (i := 324) (by decide +kernel), List.mem_of_getElem? (i := 325) (by decide +kernel)⟩
theorem lw_p10 : lw_okq (⟨"java/lang/Throwable", "fillInStackTrace", "(I)Ljava/lang/Throwable;"⟩, 6) := ⟨⟨by decide +kernel, by decide +kernel⟩, List.mem_of_getElem? (i := 394) (by decide +kernel), List.mem_of_getElem? (i := 392) (by decide +kernel), List.mem_of_getElem? (i := 393) (by decide +kernel)⟩
theorem lw_p11 : lw_okq (⟨"FountainCode", "isBlock", "(I)Z"⟩, 5) := ⟨⟨by decide +kernel, by decide +kernel⟩, List.mem_of_getElem? (i := 18) (by decide +kernel), List.mem_of_getElem? (i := 498) (by decide +kernel), List.mem_of_getElem? (i := 499) (by decide +kernel)⟩
theorem lw_p12 : lw_okq (⟨"FountainCode", "canTake", "(JI)Z"⟩, 5) := ⟨⟨by decide +kernel, by decide +kernel⟩, List.mem_of_getElem? (i := 18) (by decide +kernel), List.mem_of_getElem? (i := 522) (by decide +kernel), List.mem_of_getElem? (i := 523) (by decide +kernel)⟩
theorem lw_p13 : lw_okq (⟨"FountainCode", "take", "(JI)I"⟩, 5) := ⟨⟨by decide +kernel, by decide +kernel⟩, List.mem_of_getElem? (i := 18) (by decide +kernel), List.mem_of_getElem? (i := 535) (by decide +kernel), List.mem_of_getElem? (i := 536) (by decide +kernel)⟩
theorem lw_p14 : lw_okq (⟨"FountainCodeModel", "clear", "()V"⟩, 22) := ⟨⟨by decide +kernel, by decide +kernel⟩, List.mem_of_getElem? (i := 589) (by decide +kernel), List.mem_of_getElem? (i := 595) (by decide +kernel), List.mem_of_getElem? (i := 596) (by decide +kernel)⟩
theorem lw_p15 : lw_okq (⟨"FountainCodeModel", "refused", "(I)Z"⟩, 22) := ⟨⟨by decide +kernel, by decide +kernel⟩, List.mem_of_getElem? (i := 589) (by decide +kernel), List.mem_of_getElem? (i := 677) (by decide +kernel), List.mem_of_getElem? (i := 678) (by decide +kernel)⟩
def lw_privs_1 : List (MethodName × Nat) := [(⟨"FountainCode", "beginTransfer", "(II)I"⟩, 5), (⟨"FountainCode", "addEquation", "(JI)V"⟩, 5), (⟨"FountainCode$Peeler", "lowestReady", "()I"⟩, 6), (⟨"FountainCode$Peeler", "peelWith", "(I)V"⟩, 6), (⟨"FountainCode", "drawn", "(I)LFountainCode$Drop;"⟩, 5), (⟨"FountainCode$Drop", "numberBelow", "(I)I"⟩, 4), (⟨"FountainCode$Drop", "lineUp", "(I)V"⟩, 4), (⟨"FountainCode$Drop", "swap", "(II)V"⟩, 4), (⟨"FountainCode$Sender", "valueOfSources", "(J)I"⟩, 3), (⟨"FountainCode$Elimination", "remainderOfBlock", "(I)J"⟩, 3), (⟨"java/lang/Throwable", "fillInStackTrace", "(I)Ljava/lang/Throwable;"⟩, 6), (⟨"FountainCode", "isBlock", "(I)Z"⟩, 5), (⟨"FountainCode", "canTake", "(JI)Z"⟩, 5), (⟨"FountainCode", "take", "(JI)I"⟩, 5), (⟨"FountainCodeModel", "clear", "()V"⟩, 22), (⟨"FountainCodeModel", "refused", "(I)Z"⟩, 22)]
theorem lw_r1 : ∀ q ∈ lw_privs_1, lw_okq q := List.forall_mem_cons.mpr ⟨lw_p0, List.forall_mem_cons.mpr ⟨lw_p1, List.forall_mem_cons.mpr ⟨lw_p2, List.forall_mem_cons.mpr ⟨lw_p3, List.forall_mem_cons.mpr ⟨lw_p4, List.forall_mem_cons.mpr ⟨lw_p5, List.forall_mem_cons.mpr ⟨lw_p6, List.forall_mem_cons.mpr ⟨lw_p7, List.forall_mem_cons.mpr ⟨lw_p8, List.forall_mem_cons.mpr ⟨lw_p9, List.forall_mem_cons.mpr ⟨lw_p10, List.forall_mem_cons.mpr ⟨lw_p11, List.forall_mem_cons.mpr ⟨lw_p12, List.forall_mem_cons.mpr ⟨lw_p13, List.forall_mem_cons.mpr ⟨lw_p14, List.forall_mem_cons.mpr ⟨lw_p15, fun _ h => absurd h List.not_mem_nil⟩⟩⟩⟩⟩⟩⟩⟩⟩⟩⟩⟩⟩⟩⟩⟩
theorem lw_p16 : lw_okq (⟨"FountainCodeModel", "addEquation", "(JI)V"⟩, 22) := ⟨⟨by decide +kernel, by decide +kernel⟩, List.mem_of_getElem? (i := 589) (by decide +kernel), List.mem_of_getElem? (i := 684) (by decide +kernel), List.mem_of_getElem? (i := 685) (by decide +kernel)⟩
theorem lw_p17 : lw_okq (⟨"FountainCodeModel", "reduce", "(JI)V"⟩, 22) := ⟨⟨by decide +kernel, by decide +kernel⟩, List.mem_of_getElem? (i := 589) (by decide +kernel), List.mem_of_getElem? (i := 688) (by decide +kernel), List.mem_of_getElem? (i := 689) (by decide +kernel)⟩
theorem lw_p18 : lw_okq (⟨"FountainCodeModel", "layRow", "()V"⟩, 22) := ⟨⟨by decide +kernel, by decide +kernel⟩, List.mem_of_getElem? (i := 589) (by decide +kernel), List.mem_of_getElem? (i := 692) (by decide +kernel), List.mem_of_getElem? (i := 693) (by decide +kernel)⟩
theorem lw_p19 : lw_okq (⟨"FountainCodeModel", "peel", "()I"⟩, 22) := ⟨⟨by decide +kernel, by decide +kernel⟩, List.mem_of_getElem? (i := 589) (by decide +kernel), List.mem_of_getElem? (i := 696) (by decide +kernel), List.mem_of_getElem? (i := 697) (by decide +kernel)⟩
theorem lw_p20 : lw_okq (⟨"FountainCodeModel", "told", "(I)I"⟩, 22) := ⟨⟨by decide +kernel, by decide +kernel⟩, List.mem_of_getElem? (i := 589) (by decide +kernel), List.mem_of_getElem? (i := 713) (by decide +kernel), List.mem_of_getElem? (i := 714) (by decide +kernel)⟩
theorem lw_p21 : lw_okq (⟨"FountainCodeModel", "noBlock", "(I)Z"⟩, 22) := ⟨⟨by decide +kernel, by decide +kernel⟩, List.mem_of_getElem? (i := 589) (by decide +kernel), List.mem_of_getElem? (i := 721) (by decide +kernel), List.mem_of_getElem? (i := 722) (by decide +kernel)⟩
theorem lw_p22 : lw_okq (⟨"FountainCodeModel", "isBlock", "(I)Z"⟩, 22) := ⟨⟨by decide +kernel, by decide +kernel⟩, List.mem_of_getElem? (i := 589) (by decide +kernel), List.mem_of_getElem? (i := 725) (by decide +kernel), List.mem_of_getElem? (i := 726) (by decide +kernel)⟩
theorem lw_p23 : lw_okq (⟨"FountainCodeModel", "valueAt", "(I)I"⟩, 22) := ⟨⟨by decide +kernel, by decide +kernel⟩, List.mem_of_getElem? (i := 589) (by decide +kernel), List.mem_of_getElem? (i := 729) (by decide +kernel), List.mem_of_getElem? (i := 730) (by decide +kernel)⟩
theorem lw_p24 : lw_okq (⟨"FountainCodeModel", "drawDrop", "(I)V"⟩, 22) := ⟨⟨by decide +kernel, by decide +kernel⟩, List.mem_of_getElem? (i := 589) (by decide +kernel), List.mem_of_getElem? (i := 737) (by decide +kernel), List.mem_of_getElem? (i := 738) (by decide +kernel)⟩
theorem lw_p25 : lw_okq (⟨"FountainCodeModel", "draw", "(I)I"⟩, 22) := ⟨⟨by decide +kernel, by decide +kernel⟩, List.mem_of_getElem? (i := 589) (by decide +kernel), List.mem_of_getElem? (i := 741) (by decide +kernel), List.mem_of_getElem? (i := 742) (by decide +kernel)⟩
theorem lw_p26 : lw_okq (⟨"FountainCodeModel", "numberOf", "(I)I"⟩, 22) := ⟨⟨by decide +kernel, by decide +kernel⟩, List.mem_of_getElem? (i := 589) (by decide +kernel), List.mem_of_getElem? (i := 755) (by decide +kernel), List.mem_of_getElem? (i := 756) (by decide +kernel)⟩
theorem lw_p27 : lw_okq (⟨"FountainCodeModel", "isRefused", "(II)Z"⟩, 22) := ⟨⟨by decide +kernel, by decide +kernel⟩, List.mem_of_getElem? (i := 589) (by decide +kernel), List.mem_of_getElem? (i := 763) (by decide +kernel), List.mem_of_getElem? (i := 764) (by decide +kernel)⟩
theorem lw_p28 : lw_okq (⟨"FountainCodeModel", "maskOf", "(I)J"⟩, 22) := ⟨⟨by decide +kernel, by decide +kernel⟩, List.mem_of_getElem? (i := 589) (by decide +kernel), List.mem_of_getElem? (i := 767) (by decide +kernel), List.mem_of_getElem? (i := 768) (by decide +kernel)⟩
theorem lw_p29 : lw_okq (⟨"FountainCodeModel", "take", "(II)I"⟩, 22) := ⟨⟨by decide +kernel, by decide +kernel⟩, List.mem_of_getElem? (i := 589) (by decide +kernel), List.mem_of_getElem? (i := 771) (by decide +kernel), List.mem_of_getElem? (i := 772) (by decide +kernel)⟩
theorem lw_p30 : lw_okq (⟨"FountainCodeModel", "rankOf", "()I"⟩, 22) := ⟨⟨by decide +kernel, by decide +kernel⟩, List.mem_of_getElem? (i := 589) (by decide +kernel), List.mem_of_getElem? (i := 787) (by decide +kernel), List.mem_of_getElem? (i := 788) (by decide +kernel)⟩
theorem lw_p31 : lw_okq (⟨"FountainCodeModel", "determinedMany", "()I"⟩, 22) := ⟨⟨by decide +kernel, by decide +kernel⟩, List.mem_of_getElem? (i := 589) (by decide +kernel), List.mem_of_getElem? (i := 807) (by decide +kernel), List.mem_of_getElem? (i := 808) (by decide +kernel)⟩
def lw_privs_2 : List (MethodName × Nat) := [(⟨"FountainCodeModel", "addEquation", "(JI)V"⟩, 22), (⟨"FountainCodeModel", "reduce", "(JI)V"⟩, 22), (⟨"FountainCodeModel", "layRow", "()V"⟩, 22), (⟨"FountainCodeModel", "peel", "()I"⟩, 22), (⟨"FountainCodeModel", "told", "(I)I"⟩, 22), (⟨"FountainCodeModel", "noBlock", "(I)Z"⟩, 22), (⟨"FountainCodeModel", "isBlock", "(I)Z"⟩, 22), (⟨"FountainCodeModel", "valueAt", "(I)I"⟩, 22), (⟨"FountainCodeModel", "drawDrop", "(I)V"⟩, 22), (⟨"FountainCodeModel", "draw", "(I)I"⟩, 22), (⟨"FountainCodeModel", "numberOf", "(I)I"⟩, 22), (⟨"FountainCodeModel", "isRefused", "(II)Z"⟩, 22), (⟨"FountainCodeModel", "maskOf", "(I)J"⟩, 22), (⟨"FountainCodeModel", "take", "(II)I"⟩, 22), (⟨"FountainCodeModel", "rankOf", "()I"⟩, 22), (⟨"FountainCodeModel", "determinedMany", "()I"⟩, 22)]
theorem lw_r2 : ∀ q ∈ lw_privs_2, lw_okq q := List.forall_mem_cons.mpr ⟨lw_p16, List.forall_mem_cons.mpr ⟨lw_p17, List.forall_mem_cons.mpr ⟨lw_p18, List.forall_mem_cons.mpr ⟨lw_p19, List.forall_mem_cons.mpr ⟨lw_p20, List.forall_mem_cons.mpr ⟨lw_p21, List.forall_mem_cons.mpr ⟨lw_p22, List.forall_mem_cons.mpr ⟨lw_p23, List.forall_mem_cons.mpr ⟨lw_p24, List.forall_mem_cons.mpr ⟨lw_p25, List.forall_mem_cons.mpr ⟨lw_p26, List.forall_mem_cons.mpr ⟨lw_p27, List.forall_mem_cons.mpr ⟨lw_p28, List.forall_mem_cons.mpr ⟨lw_p29, List.forall_mem_cons.mpr ⟨lw_p30, List.forall_mem_cons.mpr ⟨lw_p31, fun _ h => absurd h List.not_mem_nil⟩⟩⟩⟩⟩⟩⟩⟩⟩⟩⟩⟩⟩⟩⟩⟩
theorem lw_p32 : lw_okq (⟨"FountainCodeModel", "isKnown", "(I)Z"⟩, 22) := ⟨⟨by decide +kernel, by decide +kernel⟩, List.mem_of_getElem? (i := 589) (by decide +kernel), List.mem_of_getElem? (i := 815) (by decide +kernel), List.mem_of_getElem? (i := 816) (by decide +kernel)⟩
theorem lw_p33 : lw_okq (⟨"FountainCodeModel", "helps", "(I)Z"⟩, 22) := ⟨⟨by decide +kernel, by decide +kernel⟩, List.mem_of_getElem? (i := 589) (by decide +kernel), List.mem_of_getElem? (i := 827) (by decide +kernel), List.mem_of_getElem? (i := 828) (by decide +kernel)⟩
def lw_privs_3 : List (MethodName × Nat) := [(⟨"FountainCodeModel", "isKnown", "(I)Z"⟩, 22), (⟨"FountainCodeModel", "helps", "(I)Z"⟩, 22)]
theorem lw_r3 : ∀ q ∈ lw_privs_3, lw_okq q := List.forall_mem_cons.mpr ⟨lw_p32, List.forall_mem_cons.mpr ⟨lw_p33, fun _ h => absurd h List.not_mem_nil⟩⟩
def lw_privs : List (MethodName × Nat) := lw_privs_1 ++ (lw_privs_2 ++ (lw_privs_3))
def lw_tbl : List Cond := k2_sels lw_privs ++ tables_1
theorem lw_privs_ok : ∀ q ∈ lw_privs, lw_okq q := by
  show ∀ q ∈ lw_privs_1 ++ (lw_privs_2 ++ (lw_privs_3)), lw_okq q
  exact List.forall_mem_append.mpr ⟨lw_r1, List.forall_mem_append.mpr ⟨lw_r2, lw_r3⟩⟩
end
section
/-! ===== BEGIN words of one list among another's, by their places ===== -/
theorem goodIn_r {big : List Cond} (ws : List Cond) (ps : List Nat) (hp : ws = ps.filterMap (fun i => big[i]?)) (h : ws.all goodWord = true) : GoodIn big ws := by
  intro w hw
  have h1 := List.all_eq_true.mp h w hw
  rw [hp] at hw
  obtain ⟨i, -, hi⟩ := List.mem_filterMap.mp hw
  have hm : w ∈ big := by first | exact List.mem_of_getElem? hi | exact List.getElem?_mem hi
  exact ⟨hm, good_of_word h1⟩
theorem goodIn_app {big a b : List Cond} (ha : GoodIn big a) (hb : GoodIn big b) : GoodIn big (a ++ b) := fun w h => (List.mem_append.mp h).elim (ha w) (hb w)
theorem goodIn_ca {big a b : List Cond} {c : Cond} (ha : GoodIn big (c :: a)) (hb : GoodIn big b) : GoodIn big (c :: (a ++ b)) := fun w h => (List.mem_cons.mp h).elim (fun e => ha w (List.mem_cons.mpr (Or.inl e))) (fun h => (List.mem_append.mp h).elim (fun h => ha w (List.mem_cons.mpr (Or.inr h))) (hb w))
theorem goodIn_sub {big ws : List Cond} (hm : ∀ w ∈ ws, w ∈ big) (h : ws.all goodWord = true) : GoodIn big ws := fun w hw => ⟨hm w hw, good_of_word (List.all_eq_true.mp h w hw)⟩
/-! ===== END ===== -/

/-! ===== BEGIN exceptions that leave a method, and their catching by the caller (launches without stack traces) ===== -/
section VXA
/-! The laws vx_back, vx_callV, vx_callS, vx_callSW, vx_throw0, vx_throwS follow proofs of the library, with one case more: JvmDerived/Free/Laws.lean (Back.of_free), Shelf42/LK1.lean (callV, callS), Shelf/KitTraced.lean (throwNew0V, throwNewS). -/
/-- where a method has thrown q: the class by its name, the cell, what was written, the world -/
def vx_T (XC : String → State → State → Prop) (st : State) (q : Addr) (t : State) (mc ms : Nat) (free : Addr → Prop) : Prop :=
  ∃ (E : String) (ce : Cell) (L : List Loc), XC E st t ∧ t.heap[q]? = some ce ∧ ce.vm = .none ∧ st.vm.findClass E = some ce.cls ∧ st.WarmedH t.vm ∧ st.sameButNew ({ t with vm := st.vm } : State) L mc ms ∧ ∀ z ∈ L, free z.base
def vx_Q (Qc : Array Value → State → Outcome → State → Prop) (XC : String → State → State → Prop) (mc ms : Nat) (free : Addr → Prop) : Array Value → State → Outcome → State → Prop := fun a st o t =>
  (Qc a st o t ∧ ∃ L, FrameEnd st o t L mc ms ∧ ∀ q ∈ L, free q.base) ∨ ∃ q, o = .threw q ∧ vx_T XC st q t mc ms free
/-- a callee that returns or throws -/
def vx_Met (l : Launch) (y : MethodName) (ws : List Cond) (rm : Room) (Pc : Array Value → State → Prop) (Qc : Array Value → State → Outcome → State → Prop) (XC : String → State → State → Prop) (mc ms : Nat) (free : Addr → Prop) : Prop :=
  MetFree l y (headSpec ws rm) Pc (fun _ _ _ _ _ => True) (vx_Q Qc XC mc ms free)
def vx_Post (XC : String → State → State → Prop) (mc ms : Nat) (free : Addr → Prop) : Pt → Array Value → Addr → Pt → Prop := fun A a q B =>
  ∃ (g : JFrame) (mk : MethodId) (t : State) (L : List Loc) (E : String) (ce : Cell), B.U.heap = t.heap ∧ B.U.vm = t.vm ∧ XC E (A.U.calling g mk a) t ∧ t.heap[q]? = some ce ∧ ce.vm = .none ∧ A.U.vm.findClass E = some ce.cls ∧ B.locs = A.locs ++ L ∧ (∀ z ∈ L, free z.base) ∧ B.cells = A.cells + mc ∧ B.slots = A.slots + ms
def vx_Back (l : Launch) (R : Room) (p : Program) (e : Env) (below : List Frame) (s : State) (sargs : Array Value) (y : MethodName) (len W9 : Nat)
    (Pre : Pt → Array Value → Prop) (Post : Pt → Array Value → Option Value → Pt → Prop) (PostX : Pt → Array Value → Addr → Pt → Prop) : Prop :=
  ∀ (m : MethodId) (meth : Method) (c : Code) (A : Pt) (g : JFrame) (ig : Instr) (mk : MethodId) (a : Array Value),
    Stand p l e R s m sargs below meth c A.U A.locs A.cells A.slots → g.method = m → g.locals.size = c.maxLocals → decode c.code g.pc = .ok (ig, len) →
    2 * g.monitorRoom + (g.stack.map fun v => v.category).sum ≤ W9 → A.U.methodNamed? y = some mk → Pre A a →
    (∃ (v : Option Value) (B : Pt), Stand p l e R s m sargs below meth c B.U B.locs B.cells B.slots ∧ Post A a v B ∧
      Steps p.tables e below (doInvoke e (A.U.setTop g) [] mk a).1 (B.U.setTop { g with pc := g.pc + len, stack := v.toList ++ g.stack })) ∨
    (∃ (q : Addr) (B : Pt), Stand p l e R s m sargs below meth c B.U B.locs B.cells B.slots ∧ PostX A a q B ∧
      Steps p.tables e below (doInvoke e (A.U.setTop g) [] mk a).1 ((B.U.setTop g).pushFrame (.throwing q)))
section Payer
variable {l : Launch} {R : Room} {p : Program} {e : Env} {below : List Frame} {s : State} {sargs : Array Value} {y : MethodName} {len W9 : Nat}
theorem vx_back {ws : List Cond} {rm : Room} {Pc : Array Value → State → Prop} {Qc : Array Value → State → Outcome → State → Prop} {XC : String → State → State → Prop} {mc ms : Nat} {free : Addr → Prop} {bytes : ByteArray} {maxL : Nat} {ret : Option FieldType}
    (hM : vx_Met l y ws rm Pc Qc XC mc ms free) (hblind : FrameBlind Pc) (hrc : rm.cells = mc) (hrs : rm.slots = ms)
    (hframes : rm.frames + 1 ≤ R.frames) (hlocals : W9 + (maxL + 11) + rm.locals ≤ R.locals)
    (hws : ∀ w ∈ ws, ∀ a' U, s.WarmedH U.vm → w.before a' U = true) (hcode : Cond.code y bytes maxL ret ∈ ws) (hinit : ∀ a' U, s.WarmedH U.vm → (Cond.initialized y.cls).before a' U = true) :
    vx_Back l R p e below s sargs y len W9 (PreOf R mc ms Pc) (PostOf Qc mc ms free) (vx_Post XC mc ms free) := by
  intro m meth c A g ig mk a X hg hsize hdg hW hn hp
  have h1 : (headSpec ws rm).pre.before a A.U = true := atoms_intro fun w hw => hws w hw _ _ X.warmed
  have h2 : (Cond.code y bytes maxL ret).before a A.U = true := hws _ hcode _ _ X.warmed
  have h3 : (Cond.initialized y.cls).before a A.U = true := hinit _ _ X.warmed
  have h4 : A.cells + (headSpec ws rm).room.cells ≤ R.cells := by rw [show (headSpec ws rm).room.cells = mc from hrc]; exact hp.1
  have h5 : A.slots + (headSpec ws rm).room.slots ≤ R.slots := by rw [show (headSpec ws rm).room.slots = ms from hrs]; exact hp.2.1
  have hPc : Pc a (A.U.calling g mk a) := hblind _ _ _ _ hp.2.2
  obtain ⟨U, Ls, c0, s0⟩ := A
  dsimp only [Pt.U, Pt.locs, Pt.cells, Pt.slots] at h1 h2 h3 h4 h5 X hn hPc ⊢
  obtain ⟨methY, cY, hmY, hcY, -, hlY, -, -, -, -⟩ := Cond.code_spec hn h2
  obtain ⟨kY, hkY, -⟩ := className_of_methodNamed hn
  have hinitY : kY.init = .initialized := Cond.initialized_spec (findClass_of_methodNamed hn) hkY h3
  have h : At U g.method c below := by rw [hg]; exact X.here
  have hlocals9 : W9 + (maxL + 11) + (headSpec ws rm).room.locals ≤ R.locals := hlocals
  have happ : (headSpec ws rm).appliesLoose y e.platform (U.calling g mk a) = true :=
    Spec.appliesLoose_calling (g := g) h hdg hn hkY hinitY
      (X.room_calling (g := g) (R' := (headSpec ws rm).room) hsize hmY hcY hframes (by rw [hlY]; omega) h4 h5) h1
  obtain ⟨mid, hmid⟩ := h.above
  have hfr : (U.setTop g).frames = (.java g :: mid) ++ below := by rw [State.frames_setTop' g h.top, hmid]; rfl
  obtain ⟨o, s₂, hsteps, -, hend, hq⟩ := Steps.callFree hM p X.admits X.cas X.clock (acts := []) hfr happ hPc trivial
  have hq' : vx_Q Qc XC mc ms free a (U.calling g mk a) o s₂ := hq
  rw [State.frames_setTop' g h.top] at hend
  obtain ⟨g₀, hg0⟩ := Option.isSome_iff_exists.mp h.top
  obtain ⟨r, hr⟩ := State.topJava?_eq_some.mp hg0
  have hr' : (({ U with heap := s₂.heap, slotsUsed := s₂.slotsUsed } : State).setVm s₂.vm).frames = .java g₀ :: r := hr
  rcases hq' with ⟨hqc, L, hfe, hL⟩ | ⟨q, rfl, E, ce, L, hx, hce, hcv, hcl, hW₂, hsm, hL⟩
  · obtain ⟨⟨v, rfl⟩, hW₂, e2, q2, q3, q4, q5, q6⟩ := id hfe
    have e3 : s₂ = ({ (U.calling g mk a).setFrames s₂.frames with heap := s₂.heap, slotsUsed := s₂.slotsUsed } : State).setVm s₂.vm := by
      have : s₂ = ({ s₂ with vm := (U.calling g mk a).vm } : State).setVm s₂.vm := rfl
      rw [e2] at this
      exact this
    obtain ⟨c₂, i₂, len₂, hc₂, hd₂, hf₂⟩ := hend
    have hW' : U.WarmedH s₂.vm := hW₂
    have hcc : c₂ = c := by
      have h1 : s₂.code? g.method = U.code? g.method := by
        rw [State.code?_eq, State.code?_eq, hW'.alike.method?]
      exact Option.some.inj (hc₂.symm.trans (h1.trans h.code))
    subst hcc
    have hlen : len₂ = len := by rw [hdg] at hd₂; cases hd₂; rfl
    subst hlen
    have hs₂ : s₂ = (({ U with heap := s₂.heap, slotsUsed := s₂.slotsUsed } : State).setVm s₂.vm).setTop { g with pc := g.pc + len₂, stack := v.toList ++ g.stack } := by
      refine e3.trans ?_
      rw [hf₂, State.calling_eq h.top, State.setFrames_setFrames, State.setTop_of_frames _ hr', hr]
      rfl
    have hsame : U.sameButNew ({ U with heap := s₂.heap, slotsUsed := s₂.slotsUsed } : State) L mc ms := by
      refine ⟨?_, q2, q3, q4, q5, q6⟩
      obtain ⟨t, ht, -⟩ := State.frames_cons hr
      show ({ U with heap := s₂.heap, slotsUsed := s₂.slotsUsed } : State) = { U.setFrames U.frames with heap := s₂.heap, slotsUsed := s₂.slotsUsed }
      rw [State.setFrames_self ht]
    subst hg
    refine Or.inl ⟨v, ⟨(({ U with heap := s₂.heap, slotsUsed := s₂.slotsUsed } : State).setVm s₂.vm), Ls ++ L, c0 + mc, s0 + ms⟩,
      ⟨X.admits, X.cas, X.clock, X.frames, X.room, X.hears, X.method, X.code, (X.here.setHeapUsed s₂.heap s₂.slotsUsed).setVm hW'.alike, X.tail, State.WarmedH.trans X.warmed hW', X.limits, X.bytes, X.same.trans (hsame.setVm s.vm)⟩,
      ⟨g, mk, s₂, L, rfl, rfl, hqc, rfl, hL, rfl, rfl⟩, ?_⟩
    show Steps p.tables e below _ ((({ U with heap := s₂.heap, slotsUsed := s₂.slotsUsed } : State).setVm s₂.vm).setTop { g with pc := g.pc + len₂, stack := v.toList ++ g.stack })
    rw [← hs₂]
    exact hsteps
  · obtain ⟨e2, q2, q3, q4, q5, q6⟩ := id hsm
    have e3 : s₂ = ({ (U.calling g mk a).setFrames s₂.frames with heap := s₂.heap, slotsUsed := s₂.slotsUsed } : State).setVm s₂.vm := by
      have : s₂ = ({ s₂ with vm := (U.calling g mk a).vm } : State).setVm s₂.vm := rfl
      rw [e2] at this
      exact this
    have hf₂ : s₂.frames = .throwing q :: .java g :: U.frames.tail := hend
    have hW' : U.WarmedH s₂.vm := hW₂
    have hs₂ : s₂ = ((({ U with heap := s₂.heap, slotsUsed := s₂.slotsUsed } : State).setVm s₂.vm).setTop g).pushFrame (.throwing q) := by
      refine e3.trans ?_
      rw [hf₂, State.calling_eq h.top, State.setFrames_setFrames, State.pushFrame, State.frames_setTop _ hr', State.setTop_of_frames _ hr', State.setFrames_setFrames, hr]
      rfl
    have hsame : U.sameButNew ({ U with heap := s₂.heap, slotsUsed := s₂.slotsUsed } : State) L mc ms := by
      refine ⟨?_, q2, q3, q4, q5, q6⟩
      obtain ⟨t, ht, -⟩ := State.frames_cons hr
      show ({ U with heap := s₂.heap, slotsUsed := s₂.slotsUsed } : State) = { U.setFrames U.frames with heap := s₂.heap, slotsUsed := s₂.slotsUsed }
      rw [State.setFrames_self ht]
    subst hg
    refine Or.inr ⟨q, ⟨(({ U with heap := s₂.heap, slotsUsed := s₂.slotsUsed } : State).setVm s₂.vm), Ls ++ L, c0 + mc, s0 + ms⟩,
      ⟨X.admits, X.cas, X.clock, X.frames, X.room, X.hears, X.method, X.code, (X.here.setHeapUsed s₂.heap s₂.slotsUsed).setVm hW'.alike, X.tail, State.WarmedH.trans X.warmed hW', X.limits, X.bytes, X.same.trans (hsame.setVm s.vm)⟩,
      ⟨g, mk, s₂, L, E, ce, rfl, rfl, hx, hce, hcv, hcl, rfl, hL, rfl, rfl⟩, ?_⟩
    show Steps p.tables e below _ (((({ U with heap := s₂.heap, slotsUsed := s₂.slotsUsed } : State).setVm s₂.vm).setTop g).pushFrame (.throwing q))
    rw [← hs₂]
    exact hsteps
end Payer
section Calls
variable {p : Program} {l : Launch} {e : Env} {R : Room} {s : State} {m : MethodId} {args : Array Value} {below : List Frame} {meth : Method} {c : Code} {T : State} {locs : List Loc} {cells slots : Nat}
theorem vx_callV (X : Stand p l e R s m args below meth c T locs cells slots) (hexec : p.tables.exec = Jvm.exec) {own C : String} {index : Nat} {y : MethodName} {bytes : ByteArray} {maxL : Nat} {ret : Option FieldType}
    (hown : s.vm.findClass own = some m.cls) (hlink : (Cond.methodLink own index y).before args s = true) (hinst : (Cond.instanceMethod y).before args s = true) (hsel : (Cond.selects C y y).before args s = true)
    (hcode : (Cond.code y bytes maxL ret).before args s = true) (hy : y.cls ≠ "java/lang/invoke/MethodHandle" ∧ y.cls ≠ "java/lang/invoke/VarHandle")
    {W9 : Nat} {Pre : Pt → Array Value → Prop} {Post : Pt → Array Value → Option Value → Pt → Prop} {PostX : Pt → Array Value → Addr → Pt → Prop} (hK : vx_Back l R p e below s args y 3 W9 Pre Post PostX)
    {b : Addr} {cellB : Cell} (hcell : T.heap[b]? = some cellB) (hobj : cellB.vm.isStatics = false) (hcls : s.vm.findClass C = some cellB.cls)
    {g : JFrame} (hg : g.method = m) (hsize : g.locals.size = c.maxLocals) {argsL rest : List Value} (hlen : ∀ sig, parseMethodDescriptor y.desc = some sig → argsL.length = sig.parameters.length)
    (hstack : g.stack = argsL.reverse ++ .ref b :: rest) (hW : 2 * g.monitorRoom + (rest.map fun v => v.category).sum ≤ W9) (hdg : decode c.code g.pc = .ok (.invokevirtual index, 3))
    (hpre : ∀ vm₁, s.WarmedH vm₁ → Pre ⟨T.setVm vm₁, locs, cells, slots⟩ (Value.ref b :: argsL).toArray) :
    (∃ (v : Option Value) (vm₁ : Vm) (B : Pt), s.WarmedH vm₁ ∧ Stand p l e R s m args below meth c B.U B.locs B.cells B.slots ∧ Post ⟨T.setVm vm₁, locs, cells, slots⟩ (Value.ref b :: argsL).toArray v B ∧
      ∀ target, Steps p.tables e below (B.U.setTop { g with pc := g.pc + 3, stack := v.toList ++ rest }) target → Steps p.tables e below (T.setTop g) target) ∨
    (∃ (q : Addr) (vm₁ : Vm) (B : Pt), s.WarmedH vm₁ ∧ Stand p l e R s m args below meth c B.U B.locs B.cells B.slots ∧ PostX ⟨T.setVm vm₁, locs, cells, slots⟩ (Value.ref b :: argsL).toArray q B ∧
      Steps p.tables e below (T.setTop g) ((B.U.setTop { g with stack := rest }).pushFrame (.throwing q))) := by
  obtain ⟨mk, methM, hnamed, hmethM, hstM, habM⟩ := Cond.instanceMethod_spec hinst
  obtain ⟨methM', cM, hmethM', -, -, -, -, -, -, hsigM⟩ := Cond.code_spec hnamed hcode
  cases hmethM.symm.trans hmethM'
  obtain ⟨c2, r2, m2, q1, q2, q3, q4, kP, hkP, hkPi⟩ := Cond.selects_spec hsel
  cases hcls.symm.trans q1
  cases (State.methodFound?_of_named hnamed hy).symm.trans q2
  cases hnamed.symm.trans q3
  have hselP : selectMethod e.platform s.vm cellB.cls mk = .method mk := by rw [Launch.admits_selectMethod X.admits]; exact q4
  obtain ⟨vm₁, X₁, hstep₁⟩ := X.invokevirtual hexec hown hlink hnamed hmethM hstM hkP hkPi hy (a := b) (cell := cellB) hcell
    (fun z h => by rw [h] at hobj; cases hobj) hselP hmethM habM hkP hkPi (g := g) hg (argsL := argsL) (rest := rest) (hlen _ hsigM) hstack hdg
  rcases hK m meth c ⟨T.setVm vm₁, locs, cells, slots⟩ { g with stack := rest } (.invokevirtual index) mk (Value.ref b :: argsL).toArray X₁ hg hsize hdg hW (X₁.named hnamed) (hpre vm₁ X₁.warmed) with ⟨v, B, X', hpost, hsteps⟩ | ⟨q, B, X', hpost, hsteps⟩
  · exact Or.inl ⟨v, vm₁, B, X₁.warmed, X', hpost, fun target h => hstep₁ _ fun acts => by rw [doInvoke_state]; exact hsteps.trans h⟩
  · exact Or.inr ⟨q, vm₁, B, X₁.warmed, X', hpost, hstep₁ _ fun acts => by rw [doInvoke_state]; exact hsteps⟩
theorem vx_callS (X : Stand p l e R s m args below meth c T locs cells slots) (hexec : p.tables.exec = Jvm.exec) {own : String} {index : Nat} {y : MethodName} {bytes : ByteArray} {maxL : Nat} {ret : Option FieldType}
    (hown : s.vm.findClass own = some m.cls) (hlink : (Cond.methodLink own index y).before args s = true) (hstat : (Cond.static y).before args s = true) (hinit : (Cond.initialized y.cls).before args s = true)
    (hcode : (Cond.code y bytes maxL ret).before args s = true) (hy : y.cls ≠ "java/lang/invoke/MethodHandle" ∧ y.cls ≠ "java/lang/invoke/VarHandle")
    {W9 : Nat} {Pre : Pt → Array Value → Prop} {Post : Pt → Array Value → Option Value → Pt → Prop} {PostX : Pt → Array Value → Addr → Pt → Prop} (hK : vx_Back l R p e below s args y 3 W9 Pre Post PostX)
    {g : JFrame} (hg : g.method = m) (hsize : g.locals.size = c.maxLocals) {argsL rest : List Value} (hlen : ∀ sig, parseMethodDescriptor y.desc = some sig → argsL.length = sig.parameters.length)
    (hstack : g.stack = argsL.reverse ++ rest) (hW : 2 * g.monitorRoom + (rest.map fun v => v.category).sum ≤ W9) (hdg : decode c.code g.pc = .ok (.invokestatic index, 3))
    (hpre : ∀ vm₁, s.WarmedH vm₁ → Pre ⟨T.setVm vm₁, locs, cells, slots⟩ argsL.toArray) :
    (∃ (v : Option Value) (vm₁ : Vm) (B : Pt), s.WarmedH vm₁ ∧ Stand p l e R s m args below meth c B.U B.locs B.cells B.slots ∧ Post ⟨T.setVm vm₁, locs, cells, slots⟩ argsL.toArray v B ∧
      ∀ target, Steps p.tables e below (B.U.setTop { g with pc := g.pc + 3, stack := v.toList ++ rest }) target → Steps p.tables e below (T.setTop g) target) ∨
    (∃ (q : Addr) (vm₁ : Vm) (B : Pt), s.WarmedH vm₁ ∧ Stand p l e R s m args below meth c B.U B.locs B.cells B.slots ∧ PostX ⟨T.setVm vm₁, locs, cells, slots⟩ argsL.toArray q B ∧
      Steps p.tables e below (T.setTop g) ((B.U.setTop { g with stack := rest }).pushFrame (.throwing q))) := by
  obtain ⟨mk, hnamed⟩ := Cond.code_named hcode
  obtain ⟨methM, cM, hmethM, -, -, -, -, -, -, hsigM⟩ := Cond.code_spec hnamed hcode
  have hstatic : methM.isStatic = true := Cond.static_spec hnamed hmethM hstat
  obtain ⟨kP, hkP, -⟩ := className_of_methodNamed hnamed
  have hinitP : kP.init = .initialized := Cond.initialized_spec (findClass_of_methodNamed hnamed) hkP hinit
  obtain ⟨vm₁, X₁, hstep₁⟩ := X.invokestatic hexec hown hlink hnamed hmethM hstatic hkP hinitP hy (g := g) hg (argsL := argsL) (rest := rest) (hlen _ hsigM) hstack hdg
  rcases hK m meth c ⟨T.setVm vm₁, locs, cells, slots⟩ { g with stack := rest } (.invokestatic index) mk argsL.toArray X₁ hg hsize hdg hW (X₁.named hnamed) (hpre vm₁ X₁.warmed) with ⟨v, B, X', hpost, hsteps⟩ | ⟨q, B, X', hpost, hsteps⟩
  · exact Or.inl ⟨v, vm₁, B, X₁.warmed, X', hpost, fun target h => hstep₁ _ fun acts => by rw [doInvoke_state]; exact hsteps.trans h⟩
  · exact Or.inr ⟨q, vm₁, B, X₁.warmed, X', hpost, hstep₁ _ fun acts => by rw [doInvoke_state]; exact hsteps⟩
end Calls
theorem vx_cls {s : State} {T : State} {vm₁ : Vm} {E : String} {k : ClassId} (hW : s.WarmedH vm₁) (h : (T.setVm vm₁).vm.findClass E = some k) : s.vm.findClass E = some k := by
  have h1 : vm₁.findClass E = some k := h
  rw [hW.alike.findClass] at h1
  exact h1
/-- the method's frame g, with q thrown over it -/
def vx_W (p : Program) (l : Launch) (e : Env) (R : Room) (s : State) (m : MethodId) (args : Array Value) (below : List Frame) (meth : Method) (c : Code) (H : Heap) (locs : List Loc) (cells slots : Nat) (Q : State → Prop) (g : JFrame) (q : Addr) : Prop :=
  ∀ T : State, T.heap = H → Stand p l e R s m args below meth c T locs cells slots → ∃ t, Steps p.tables e below ((T.setTop g).pushFrame (.throwing q)) t ∧ Q t
def vx_Run (p : Program) (l : Launch) (e : Env) (R : Room) (s : State) (m : MethodId) (args : Array Value) (below : List Frame) (meth : Method) (c : Code) (H : Heap) (locs : List Loc) (cells slots mc ms : Nat) (g : JFrame) (rest : List Value) (Qa : State → Outcome → State → Prop) (XC : String → State → State → Prop) (free : Addr → Prop) : Prop :=
  ∀ T : State, T.heap = H → Stand p l e R s m args below meth c T locs cells slots →
    (∃ (v : Option Value) (st₀ t T' : State) (L : List Loc), st₀.heap = H ∧ Stand p l e R s m args below meth c T' (locs ++ L) (cells + mc) (slots + ms) ∧ (∀ q ∈ L, free q.base) ∧ T'.heap = t.heap ∧ T'.vm = t.vm ∧ Qa st₀ (.returned v) t ∧
      Goes p e below T g T' { g with pc := g.pc + 3, stack := v.toList ++ rest }) ∨
    (∃ (q : Addr) (st₀ t T' : State) (L : List Loc) (E : String) (ce : Cell), st₀.heap = H ∧ Stand p l e R s m args below meth c T' (locs ++ L) (cells + mc) (slots + ms) ∧ (∀ z ∈ L, free z.base) ∧ T'.heap = t.heap ∧ T'.vm = t.vm ∧ XC E st₀ t ∧ t.heap[q]? = some ce ∧ ce.vm = .none ∧ s.vm.findClass E = some ce.cls ∧
      Steps p.tables e below (T.setTop g) ((T'.setTop { g with stack := rest }).pushFrame (.throwing q)))
def vx_X {S : Type} (px : S → Prop) (B : String → S → State → Prop) (A : Nat → Prop) : String → State → State → Prop := fun E st t => ∃ u : S, px u ∧ B E u t ∧ va_F A st t
section Runs
variable {p : Program} {l : Launch} {e : Env} {R : Room} {s : State} {m : MethodId} {args : Array Value} {below : List Frame} {meth : Method} {c : Code} {H : Heap} {locs : List Loc} {cells slots : Nat}
variable {y : MethodName} {bytes cc : ByteArray} {maxL nL mc ms n index : Nat} {ret : Option FieldType} {ws : List Cond} {rm : Room} {Pc : Array Value → State → Prop} {Qc : Array Value → State → Outcome → State → Prop} {XC : String → State → State → Prop} {free : Addr → Prop} {Ts : List Cond} {own C : String} {b : Addr} {As rest : List Value} {g : JFrame}
theorem vx_callBack (cb : CallB R s args own index y bytes maxL ret ws rm mc ms n) (hM : vx_Met l y ws rm Pc Qc XC mc ms free) (hbl : FrameBlind Pc) : vx_Back l R p e below s args y 3 8 (PreOf R mc ms Pc) (PostOf Qc mc ms free) (vx_Post XC mc ms free) := by
  obtain ⟨hrc, hrs, hfr, hlo, hws, hcw, -, hini, -⟩ := cb
  exact vx_back (bytes := bytes) (maxL := maxL) (ret := ret) hM hbl hrc hrs hfr hlo hws hcw (fun a' U hW => word_at hW (Or.inl (by first | rfl | simp [Cond.onTables, Cond.keeps, Cond.steady])) hini)
theorem vx_runV (S : CallFix p m c cc nL s args Ts own) (hM : vx_Met l y ws rm Pc Qc XC mc ms free) (cw : CallW R s args own C index y bytes maxL ret ws rm mc ms n) (hp : PreV s H C b Pc As)
    (hg : g.method = m) (hn : As.length = n) (hsize : g.locals.size = nL) (hstack : g.stack = As.reverse ++ .ref b :: rest) (hW : 2 * g.monitorRoom + (rest.map fun v => v.category).sum ≤ 8) (hdg : decode cc g.pc = .ok (.invokevirtual index, 3)) (hf : cells + mc ≤ R.cells ∧ slots + ms ≤ R.slots) :
    vx_Run p l e R s m args below meth c H locs cells slots mc ms g rest (Qc (Value.ref b :: As).toArray) XC free := by
  have hK : vx_Back l R p e below s args y 3 8 (PreOf R mc ms Pc) (PostOf Qc mc ms free) (vx_Post XC mc ms free) := vx_callBack cw.1 hM hp.1
  obtain ⟨⟨-, -, -, -, -, -, hcode, -, hy, hlen, hl⟩, hin, hse⟩ := cw
  obtain ⟨hx, hb, hml, ho, -⟩ := S
  obtain ⟨-, ⟨cellB, hcB, hoB, hclB⟩, hPc⟩ := hp
  intro T hT X
  rcases vx_callV X hx (C := C) (bytes := bytes) (maxL := maxL) (ret := ret) ho hl hin hse hcode hy hK (by rw [hT]; exact hcB) hoB hclB hg (hsize.trans hml.symm) (argsL := As) (rest := rest) (fun sig h => hn.trans (hlen sig h)) hstack hW (by rw [hb]; exact hdg)
    (fun vm₁ hW₁ => ⟨hf.1, hf.2, hPc (T.setVm vm₁) hT hW₁⟩) with ⟨v, vm₁, ⟨U', l2, c2, s2⟩, hW₁, X', ⟨g', mk, t, L, e1, e2, hq, h1, hL, h2, h3⟩, st⟩ | ⟨q, vm₁, ⟨U', l2, c2, s2⟩, hW₁, X', ⟨g', mk, t, L, E, ce, e1, e2, hq, hce, hcv, hcl, h1, hL, h2, h3⟩, st⟩
  · dsimp only [Pt.U, Pt.locs, Pt.cells, Pt.slots] at X' e1 e2 h1 h2 h3 st
    subst h1; subst h2; subst h3
    exact Or.inl ⟨v, (T.setVm vm₁).calling g' mk (Value.ref b :: As).toArray, t, U', L, hT, X', hL, e1, e2, hq, st⟩
  · dsimp only [Pt.U, Pt.locs, Pt.cells, Pt.slots] at X' e1 e2 h1 h2 h3 st hcl
    subst h1; subst h2; subst h3
    exact Or.inr ⟨q, (T.setVm vm₁).calling g' mk (Value.ref b :: As).toArray, t, U', L, E, ce, hT, X', hL, e1, e2, hq, hce, hcv, vx_cls hW₁ hcl, st⟩
theorem vx_runS (S : CallFix p m c cc nL s args Ts own) (hM : vx_Met l y ws rm Pc Qc XC mc ms free) (cw : CallB R s args own index y bytes maxL ret ws rm mc ms n ∧ (Cond.static y).before args s = true) (hp : PreS s H Pc As)
    (hg : g.method = m) (hn : As.length = n) (hsize : g.locals.size = nL) (hstack : g.stack = As.reverse ++ rest) (hW : 2 * g.monitorRoom + (rest.map fun v => v.category).sum ≤ 8) (hdg : decode cc g.pc = .ok (.invokestatic index, 3)) (hf : cells + mc ≤ R.cells ∧ slots + ms ≤ R.slots) :
    vx_Run p l e R s m args below meth c H locs cells slots mc ms g rest (Qc As.toArray) XC free := by
  have hK : vx_Back l R p e below s args y 3 8 (PreOf R mc ms Pc) (PostOf Qc mc ms free) (vx_Post XC mc ms free) := vx_callBack cw.1 hM hp.1
  obtain ⟨⟨-, -, -, -, -, -, hcode, hini, hy, hlen, hl⟩, hstt⟩ := cw
  obtain ⟨hx, hb, hml, ho, -⟩ := S
  intro T hT X
  rcases vx_callS X hx (bytes := bytes) (maxL := maxL) (ret := ret) ho hl hstt hini hcode hy hK hg (hsize.trans hml.symm) (argsL := As) (rest := rest) (fun sig h => hn.trans (hlen sig h)) hstack hW (by rw [hb]; exact hdg)
    (fun vm₁ hW₁ => ⟨hf.1, hf.2, hp.2 (T.setVm vm₁) hT hW₁⟩) with ⟨v, vm₁, ⟨U', l2, c2, s2⟩, hW₁, X', ⟨g', mk, t, L, e1, e2, hq, h1, hL, h2, h3⟩, st⟩ | ⟨q, vm₁, ⟨U', l2, c2, s2⟩, hW₁, X', ⟨g', mk, t, L, E, ce, e1, e2, hq, hce, hcv, hcl, h1, hL, h2, h3⟩, st⟩
  · dsimp only [Pt.U, Pt.locs, Pt.cells, Pt.slots] at X' e1 e2 h1 h2 h3 st
    subst h1; subst h2; subst h3
    exact Or.inl ⟨v, (T.setVm vm₁).calling g' mk As.toArray, t, U', L, hT, X', hL, e1, e2, hq, st⟩
  · dsimp only [Pt.U, Pt.locs, Pt.cells, Pt.slots] at X' e1 e2 h1 h2 h3 st hcl
    subst h1; subst h2; subst h3
    exact Or.inr ⟨q, (T.setVm vm₁).calling g' mk As.toArray, t, U', L, E, ce, hT, X', hL, e1, e2, hq, hce, hcv, vx_cls hW₁ hcl, st⟩
end Runs
section Rows
variable {p : Program} {l : Launch} {e : Env} {R : Room} {s : State} {m : MethodId} {args : Array Value} {below : List Frame} {meth : Method} {c : Code} {H : Heap} {locs : List Loc} {cells slots : Nat} {Q : State → Prop}
variable {mc ms : Nat} {free : Addr → Prop} {A0 A1 : Nat → Prop} {H0 : Heap} {a : Array Value} {pc : Nat} {ls : Array Slot} {st0 rest : List Value}
theorem vx_keep {st₀ t T' : State} {L : List Loc} (h0 : st₀.heap = H) (e1 : T'.heap = t.heap) (hS : va_S A0 H0 H locs) (hA : ∀ q, q < H.size → A1 q → A0 q) (hf : ∀ q, free q → A0 q) (hL : ∀ q ∈ L, free q.base) (hF : va_F A1 st₀ t) :
    H.size ≤ T'.heap.size ∧ (∀ q : Nat, q < H.size → ¬ A1 q → T'.heap[q]? = H[q]?) ∧ va_S A0 H0 T'.heap (locs ++ L) := by
  obtain ⟨hz, hk⟩ := hF
  rw [h0] at hz hk
  exact ⟨by rw [e1]; exact hz, fun q h1 h2 => by rw [e1]; exact hk q h1 h2,
    ⟨Nat.le_trans hS.1 (by rw [e1]; exact hz), fun q h1 h2 => by rw [e1, hk q (Nat.lt_of_lt_of_le h1 hS.1) (fun z => h2 (hA q (Nat.lt_of_lt_of_le h1 hS.1) z))]; exact hS.2.1 q h1 h2, fun q hq => by
      rcases List.mem_append.mp hq with h | h
      · exact hS.2.2 q h
      · exact hf _ (hL q h)⟩⟩
theorem vx_calli {S SX : Type} {post : Int32 → S → Prop} {px : SX → Prop} {B : S → State → Prop} {BX : String → SX → State → Prop} {AX : Nat → Prop} (hr : vx_Run p l e R s m args below meth c H locs cells slots mc ms (F0 m pc ls st0) rest (va_Qi post B A1 a) (vx_X px BX AX) free) (hS : va_S A0 H0 H locs) (hA : ∀ q, q < H.size → A1 q → A0 q) (hf : ∀ q, free q → A0 q) (hAX : ∀ q, q < H.size → AX q → A0 q)
    (kx : ∀ (E : String) (ce : Cell) (q9 : Addr) (u : SX) (t : State) (H1 : Heap) (locs1 : List Loc), t.heap = H1 → s.vm.Alike t.vm → px u → BX E u t → H.size ≤ H1.size → (∀ q : Nat, q < H.size → ¬ AX q → H1[q]? = H[q]?) → va_S A0 H0 H1 locs1 → H1[q9]? = some ce → ce.vm = .none → s.vm.findClass E = some ce.cls → vx_W p l e R s m args below meth c H1 locs1 (cells + mc) (slots + ms) Q (F0 m pc ls rest) q9)
    (kk : ∀ (r : Int32) (u : S) (t : State) (H1 : Heap) (locs1 : List Loc), t.heap = H1 → s.vm.Alike t.vm → post r u → B u t → H.size ≤ H1.size → (∀ q : Nat, q < H.size → ¬ A1 q → H1[q]? = H[q]?) → va_S A0 H0 H1 locs1 → W p l e R s m args below meth c H1 locs1 (cells + mc) (slots + ms) Q (F0 m (pc + 3) ls (.int r :: rest))) : W p l e R s m args below meth c H locs cells slots Q (F0 m pc ls st0) := by
  intro T hT X
  rcases hr T hT X with ⟨v, st₀, t, T', L, h0, X', hL, e1, e2, ⟨⟨r, u, hv, hp, hb⟩, hF⟩, st⟩ | ⟨q, st₀, t, T', L, E, ce, h0, X', hL, e1, e2, ⟨u, hp, hb, hF⟩, hce, hcv, hcl, st⟩
  · cases hv
    obtain ⟨k1, k2, k3⟩ := vx_keep h0 e1 hS hA hf hL hF
    obtain ⟨t2, a1, b1⟩ := kk r u t T'.heap (locs ++ L) e1.symm (by rw [← e2]; exact X'.warmed.alike) hp hb k1 k2 k3 T' rfl X'
    exact ⟨t2, st t2 a1, b1⟩
  · obtain ⟨k1, k2, k3⟩ := vx_keep h0 e1 hS hAX hf hL hF
    obtain ⟨t2, a1, b1⟩ := kx E ce q u t T'.heap (locs ++ L) e1.symm (by rw [← e2]; exact X'.warmed.alike) hp hb k1 k2 k3 (by rw [e1]; exact hce) hcv hcl T' rfl X'
    exact ⟨t2, st.trans a1, b1⟩
theorem vx_calll {S SX : Type} {post : Int64 → S → Prop} {px : SX → Prop} {B : S → State → Prop} {BX : String → SX → State → Prop} {AX : Nat → Prop} (hr : vx_Run p l e R s m args below meth c H locs cells slots mc ms (F0 m pc ls st0) rest (va_Ql post B A1 a) (vx_X px BX AX) free) (hS : va_S A0 H0 H locs) (hA : ∀ q, q < H.size → A1 q → A0 q) (hf : ∀ q, free q → A0 q) (hAX : ∀ q, q < H.size → AX q → A0 q)
    (kx : ∀ (E : String) (ce : Cell) (q9 : Addr) (u : SX) (t : State) (H1 : Heap) (locs1 : List Loc), t.heap = H1 → s.vm.Alike t.vm → px u → BX E u t → H.size ≤ H1.size → (∀ q : Nat, q < H.size → ¬ AX q → H1[q]? = H[q]?) → va_S A0 H0 H1 locs1 → H1[q9]? = some ce → ce.vm = .none → s.vm.findClass E = some ce.cls → vx_W p l e R s m args below meth c H1 locs1 (cells + mc) (slots + ms) Q (F0 m pc ls rest) q9)
    (kk : ∀ (r : Int64) (u : S) (t : State) (H1 : Heap) (locs1 : List Loc), t.heap = H1 → s.vm.Alike t.vm → post r u → B u t → H.size ≤ H1.size → (∀ q : Nat, q < H.size → ¬ A1 q → H1[q]? = H[q]?) → va_S A0 H0 H1 locs1 → W p l e R s m args below meth c H1 locs1 (cells + mc) (slots + ms) Q (F0 m (pc + 3) ls (.long r :: rest))) : W p l e R s m args below meth c H locs cells slots Q (F0 m pc ls st0) := by
  intro T hT X
  rcases hr T hT X with ⟨v, st₀, t, T', L, h0, X', hL, e1, e2, ⟨⟨r, u, hv, hp, hb⟩, hF⟩, st⟩ | ⟨q, st₀, t, T', L, E, ce, h0, X', hL, e1, e2, ⟨u, hp, hb, hF⟩, hce, hcv, hcl, st⟩
  · cases hv
    obtain ⟨k1, k2, k3⟩ := vx_keep h0 e1 hS hA hf hL hF
    obtain ⟨t2, a1, b1⟩ := kk r u t T'.heap (locs ++ L) e1.symm (by rw [← e2]; exact X'.warmed.alike) hp hb k1 k2 k3 T' rfl X'
    exact ⟨t2, st t2 a1, b1⟩
  · obtain ⟨k1, k2, k3⟩ := vx_keep h0 e1 hS hAX hf hL hF
    obtain ⟨t2, a1, b1⟩ := kx E ce q u t T'.heap (locs ++ L) e1.symm (by rw [← e2]; exact X'.warmed.alike) hp hb k1 k2 k3 (by rw [e1]; exact hce) hcv hcl T' rfl X'
    exact ⟨t2, st.trans a1, b1⟩
theorem vx_callf {S SX : Type} {post : UInt32 → S → Prop} {px : SX → Prop} {B : S → State → Prop} {BX : String → SX → State → Prop} {AX : Nat → Prop} (hr : vx_Run p l e R s m args below meth c H locs cells slots mc ms (F0 m pc ls st0) rest (va_Qf post B A1 a) (vx_X px BX AX) free) (hS : va_S A0 H0 H locs) (hA : ∀ q, q < H.size → A1 q → A0 q) (hf : ∀ q, free q → A0 q) (hAX : ∀ q, q < H.size → AX q → A0 q)
    (kx : ∀ (E : String) (ce : Cell) (q9 : Addr) (u : SX) (t : State) (H1 : Heap) (locs1 : List Loc), t.heap = H1 → s.vm.Alike t.vm → px u → BX E u t → H.size ≤ H1.size → (∀ q : Nat, q < H.size → ¬ AX q → H1[q]? = H[q]?) → va_S A0 H0 H1 locs1 → H1[q9]? = some ce → ce.vm = .none → s.vm.findClass E = some ce.cls → vx_W p l e R s m args below meth c H1 locs1 (cells + mc) (slots + ms) Q (F0 m pc ls rest) q9)
    (kk : ∀ (r : UInt32) (u : S) (t : State) (H1 : Heap) (locs1 : List Loc), t.heap = H1 → s.vm.Alike t.vm → post r u → B u t → H.size ≤ H1.size → (∀ q : Nat, q < H.size → ¬ A1 q → H1[q]? = H[q]?) → va_S A0 H0 H1 locs1 → W p l e R s m args below meth c H1 locs1 (cells + mc) (slots + ms) Q (F0 m (pc + 3) ls (.float r :: rest))) : W p l e R s m args below meth c H locs cells slots Q (F0 m pc ls st0) := by
  intro T hT X
  rcases hr T hT X with ⟨v, st₀, t, T', L, h0, X', hL, e1, e2, ⟨⟨r, u, hv, hp, hb⟩, hF⟩, st⟩ | ⟨q, st₀, t, T', L, E, ce, h0, X', hL, e1, e2, ⟨u, hp, hb, hF⟩, hce, hcv, hcl, st⟩
  · cases hv
    obtain ⟨k1, k2, k3⟩ := vx_keep h0 e1 hS hA hf hL hF
    obtain ⟨t2, a1, b1⟩ := kk r u t T'.heap (locs ++ L) e1.symm (by rw [← e2]; exact X'.warmed.alike) hp hb k1 k2 k3 T' rfl X'
    exact ⟨t2, st t2 a1, b1⟩
  · obtain ⟨k1, k2, k3⟩ := vx_keep h0 e1 hS hAX hf hL hF
    obtain ⟨t2, a1, b1⟩ := kx E ce q u t T'.heap (locs ++ L) e1.symm (by rw [← e2]; exact X'.warmed.alike) hp hb k1 k2 k3 (by rw [e1]; exact hce) hcv hcl T' rfl X'
    exact ⟨t2, st.trans a1, b1⟩
theorem vx_calld {S SX : Type} {post : UInt64 → S → Prop} {px : SX → Prop} {B : S → State → Prop} {BX : String → SX → State → Prop} {AX : Nat → Prop} (hr : vx_Run p l e R s m args below meth c H locs cells slots mc ms (F0 m pc ls st0) rest (va_Qd post B A1 a) (vx_X px BX AX) free) (hS : va_S A0 H0 H locs) (hA : ∀ q, q < H.size → A1 q → A0 q) (hf : ∀ q, free q → A0 q) (hAX : ∀ q, q < H.size → AX q → A0 q)
    (kx : ∀ (E : String) (ce : Cell) (q9 : Addr) (u : SX) (t : State) (H1 : Heap) (locs1 : List Loc), t.heap = H1 → s.vm.Alike t.vm → px u → BX E u t → H.size ≤ H1.size → (∀ q : Nat, q < H.size → ¬ AX q → H1[q]? = H[q]?) → va_S A0 H0 H1 locs1 → H1[q9]? = some ce → ce.vm = .none → s.vm.findClass E = some ce.cls → vx_W p l e R s m args below meth c H1 locs1 (cells + mc) (slots + ms) Q (F0 m pc ls rest) q9)
    (kk : ∀ (r : UInt64) (u : S) (t : State) (H1 : Heap) (locs1 : List Loc), t.heap = H1 → s.vm.Alike t.vm → post r u → B u t → H.size ≤ H1.size → (∀ q : Nat, q < H.size → ¬ A1 q → H1[q]? = H[q]?) → va_S A0 H0 H1 locs1 → W p l e R s m args below meth c H1 locs1 (cells + mc) (slots + ms) Q (F0 m (pc + 3) ls (.double r :: rest))) : W p l e R s m args below meth c H locs cells slots Q (F0 m pc ls st0) := by
  intro T hT X
  rcases hr T hT X with ⟨v, st₀, t, T', L, h0, X', hL, e1, e2, ⟨⟨r, u, hv, hp, hb⟩, hF⟩, st⟩ | ⟨q, st₀, t, T', L, E, ce, h0, X', hL, e1, e2, ⟨u, hp, hb, hF⟩, hce, hcv, hcl, st⟩
  · cases hv
    obtain ⟨k1, k2, k3⟩ := vx_keep h0 e1 hS hA hf hL hF
    obtain ⟨t2, a1, b1⟩ := kk r u t T'.heap (locs ++ L) e1.symm (by rw [← e2]; exact X'.warmed.alike) hp hb k1 k2 k3 T' rfl X'
    exact ⟨t2, st t2 a1, b1⟩
  · obtain ⟨k1, k2, k3⟩ := vx_keep h0 e1 hS hAX hf hL hF
    obtain ⟨t2, a1, b1⟩ := kx E ce q u t T'.heap (locs ++ L) e1.symm (by rw [← e2]; exact X'.warmed.alike) hp hb k1 k2 k3 (by rw [e1]; exact hce) hcv hcl T' rfl X'
    exact ⟨t2, st.trans a1, b1⟩
theorem vx_callv {S SX : Type} {post : S → Prop} {px : SX → Prop} {B : S → State → Prop} {BX : String → SX → State → Prop} {AX : Nat → Prop} (hr : vx_Run p l e R s m args below meth c H locs cells slots mc ms (F0 m pc ls st0) rest (va_Qv post B A1 a) (vx_X px BX AX) free) (hS : va_S A0 H0 H locs) (hA : ∀ q, q < H.size → A1 q → A0 q) (hf : ∀ q, free q → A0 q) (hAX : ∀ q, q < H.size → AX q → A0 q)
    (kx : ∀ (E : String) (ce : Cell) (q9 : Addr) (u : SX) (t : State) (H1 : Heap) (locs1 : List Loc), t.heap = H1 → s.vm.Alike t.vm → px u → BX E u t → H.size ≤ H1.size → (∀ q : Nat, q < H.size → ¬ AX q → H1[q]? = H[q]?) → va_S A0 H0 H1 locs1 → H1[q9]? = some ce → ce.vm = .none → s.vm.findClass E = some ce.cls → vx_W p l e R s m args below meth c H1 locs1 (cells + mc) (slots + ms) Q (F0 m pc ls rest) q9)
    (kk : ∀ (u : S) (t : State) (H1 : Heap) (locs1 : List Loc), t.heap = H1 → s.vm.Alike t.vm → post u → B u t → H.size ≤ H1.size → (∀ q : Nat, q < H.size → ¬ A1 q → H1[q]? = H[q]?) → va_S A0 H0 H1 locs1 → W p l e R s m args below meth c H1 locs1 (cells + mc) (slots + ms) Q (F0 m (pc + 3) ls (rest))) : W p l e R s m args below meth c H locs cells slots Q (F0 m pc ls st0) := by
  intro T hT X
  rcases hr T hT X with ⟨v, st₀, t, T', L, h0, X', hL, e1, e2, ⟨⟨u, hv, hp, hb⟩, hF⟩, st⟩ | ⟨q, st₀, t, T', L, E, ce, h0, X', hL, e1, e2, ⟨u, hp, hb, hF⟩, hce, hcv, hcl, st⟩
  · cases hv
    obtain ⟨k1, k2, k3⟩ := vx_keep h0 e1 hS hA hf hL hF
    obtain ⟨t2, a1, b1⟩ := kk u t T'.heap (locs ++ L) e1.symm (by rw [← e2]; exact X'.warmed.alike) hp hb k1 k2 k3 T' rfl X'
    exact ⟨t2, st t2 a1, b1⟩
  · obtain ⟨k1, k2, k3⟩ := vx_keep h0 e1 hS hAX hf hL hF
    obtain ⟨t2, a1, b1⟩ := kx E ce q u t T'.heap (locs ++ L) e1.symm (by rw [← e2]; exact X'.warmed.alike) hp hb k1 k2 k3 (by rw [e1]; exact hce) hcv hcl T' rfl X'
    exact ⟨t2, st.trans a1, b1⟩
/-- caught by the row x of this method's table; the rows ahead don't take it -/
theorem vx_catch {own name : String} {E : String} {ce : Cell} {q : Addr} (hown : s.vm.findClass own = some m.cls) (pre : List ExceptionTableEntry) (x : ExceptionTableEntry) (suf : List ExceptionTableEntry) (hsplit : c.exceptionTable.toList = pre ++ x :: suf)
    (hpass : ∀ z ∈ pre, covers z pc = false ∨ (z.catchType ≠ 0 ∧ ∃ nm : String, (Cond.classLink own z.catchType nm).before args s = true ∧ va_Nc E nm s)) (hx : covers x pc = true) (h0 : x.catchType ≠ 0)
    (hlink : (Cond.classLink own x.catchType name).before args s = true) (hcast : (Cond.castable E name).before args s = true) (hcell : H[q]? = some ce) (hv : ce.vm = .none) (hcl : s.vm.findClass E = some ce.cls)
    (kk : W p l e R s m args below meth c H locs cells slots Q (F0 m x.handlerPc ls [.ref q])) : vx_W p l e R s m args below meth c H locs cells slots Q (F0 m pc ls rest) q := by
  intro T hT X
  have hpl : e.platform.magicAccessors = ({} : Platform).magicAccessors := by rw [X.admits.platform]
  obtain ⟨c3, c4, hc3, hc4, hasg⟩ := Cond.castable_spec hcast
  cases Option.some.inj (hc3.symm.trans hcl)
  obtain ⟨c5, hc5, hcl5⟩ := Cond.classLink_spec hown hlink e.platform hpl
  cases Option.some.inj (hc4.symm.trans hc5)
  obtain ⟨vm', X', st⟩ := X.thenCaughtThrough q (g := F0 m pc ls rest) rfl (Steps.refl _) (by rw [hT]; exact hcell) (by rw [hv]; rfl) (by obtain ⟨k9, h9, -⟩ := Vm.findClass_spec hcl; exact ⟨k9, h9⟩) pre x suf hsplit
    (fun z hz => by
      rcases hpass z hz with h | ⟨hz0, nm, hl1, hn1⟩
      · exact Or.inl h
      · obtain ⟨c6, hc6, hcl6⟩ := Cond.classLink_spec hown hl1 e.platform hpl
        obtain ⟨a8, b8, h1, h2, h3⟩ := hn1
        cases Option.some.inj (h1.symm.trans hcl)
        cases Option.some.inj (h2.symm.trans hc6)
        exact Or.inr ⟨hz0, _, hcl6, h3⟩) hx (Or.inr ⟨h0, c4, hcl5, hasg⟩)
  obtain ⟨t, a1, b1⟩ := kk (T.setVm vm') hT X'
  exact ⟨t, st.trans a1, b1⟩
end Rows
section Ends
variable {p : Program} {l : Launch} {e : Env} {R : Room} {s : State} {m : MethodId} {args : Array Value} {below : List Frame} {meth : Method} {c : Code} {H : Heap} {locs : List Loc} {cells slots : Nat} {Q : State → Prop}
variable {mc ms : Nat} {free : Addr → Prop} {A0 A1 : Nat → Prop} {H0 : Heap} {a : Array Value} {ls : Array Slot} {st0 rest : List Value}
variable {Qc : Array Value → State → Outcome → State → Prop} {XC : String → State → State → Prop}
/-- what a body that may throw owes at its end -/
def vx_MQ (below : List Frame) (Qc : Array Value → State → Outcome → State → Prop) (XC : String → State → State → Prop) (a : Array Value) (s : State) (mc ms : Nat) (free : Addr → Prop) : State → Prop := fun t =>
  ∃ o, t.status = .running ∧ Ended t below o ∧ vx_Q Qc XC mc ms free a s o t
theorem vx_ret {g : JFrame} {mc ms : Nat} (k : W p l e R s m args below meth c H locs cells slots (MQ below Qc args s mc ms free) g) : W p l e R s m args below meth c H locs cells slots (vx_MQ below Qc XC args s mc ms free) g := by
  intro T hT X
  obtain ⟨t, a1, o, b1, b2, b3, b4⟩ := k T hT X
  exact ⟨t, a1, o, b1, b2, Or.inl ⟨b3, b4⟩⟩
/-- not caught here: it goes on to the caller -/
theorem vx_widen {g : JFrame} {q : Addr} {k n : Nat} (h1 : cells ≤ k) (h2 : slots ≤ n) (kk : vx_W p l e R s m args below meth c H locs k n Q g q) : vx_W p l e R s m args below meth c H locs cells slots Q g q := fun T hT X => kk T hT (stand_widen X h1 h2)
theorem vx_out {pc : Nat} {E : String} {ce : Cell} {q : Addr} {mc ms : Nat} (hout : ∀ x ∈ c.exceptionTable.toList, covers x pc = false) (hlocks : meth.locks = false) (hcell : H[q]? = some ce) (hv : ce.vm = .none) (hcl : s.vm.findClass E = some ce.cls)
    (hx : ∀ t : State, t.heap = H → s.vm.Alike t.vm → XC E s t) (hf : ∀ z ∈ locs, free z.base) (hc : cells ≤ mc) (hs : slots ≤ ms) :
    vx_W p l e R s m args below meth c H locs cells slots (vx_MQ below Qc XC args s mc ms free) (F0 m pc ls rest) q := by
  intro T hT X
  obtain ⟨st1, hrun, hend, hW, hsm⟩ := X.leaveThrown q (g := F0 m pc ls rest) rfl rfl rfl hout hlocks
  have hcell9 : (T.setFrames (.throwing q :: below)).heap[q]? = some ce := by
    show T.heap[q]? = some ce
    rw [hT]; exact hcell
  exact ⟨_, st1, .threw q, hrun, hend, Or.inr ⟨q, rfl, E, ce, locs, hx _ hT hW.alike, hcell9, hv, hcl, hW, hsm.mono hc hs, hf⟩⟩
theorem vx_frame {U : State} {k n : Nat} (h : s.sameButNew ({ U with vm := s.vm } : State) locs k n) : s.heap.size ≤ U.heap.size ∧ ∀ q : Nat, q < s.heap.size → (∀ z ∈ locs, z.base ≠ q) → U.heap[q]? = s.heap[q]? := by
  obtain ⟨-, h2, -, -, -, h6⟩ := h
  refine ⟨h2, fun q hq hz => ?_⟩
  obtain ⟨c9, e1, e2, e3, e4⟩ := h6 q _ (Array.getElem?_eq_getElem hq)
  have hs : c9.slots = (s.heap[q]).slots := Array.ext_getElem? fun i => e4 i fun hm => hz _ hm rfl
  have h9 : c9 = s.heap[q] := by
    rw [hs] at e2
    exact e2
  have e5 : U.heap[q]? = some c9 := e1
  rw [e5, h9, Array.getElem?_eq_getElem hq]
/-- the words of a throw but the four that speak of the heap -/
def vx_no (w : Cond) : Bool := decide (w ≠ .isRef (.static Bundle.tN "UNASSIGNED_STACK" Bundle.steD)) && decide (w ≠ .isRef (.static Bundle.tN "SUPPRESSED_SENTINEL" Bundle.listD)) && decide (w ≠ .laysStatic Bundle.tN "UNASSIGNED_STACK" Bundle.steD) && decide (w ≠ .laysStatic Bundle.tN "SUPPRESSED_SENTINEL" Bundle.listD)
def vx_at0 (own : String) (ic : Nat) (X : String) (names : List String) : List Cond := (Bundle.ownAtoms0 own ic X names).filter vx_no
def vx_atS (own : String) (ic : Nat) (X : String) (names : List String) : List Cond := (Bundle.ownAtoms own ic X names).filter vx_no
/-- a word that the tables alone decide, or a good one -/
def vx_ot (w : Cond) : Bool := w.onTables || goodWord w
theorem vx_ot_at {args a' : Array Value} {s U : State} {w : Cond} (hW : s.WarmedH U.vm) (hvm : s.vm = U.vm) (hg : vx_ot w = true) (h : w.before args s = true) : w.before a' U = true := by
  simp only [vx_ot, Bool.or_eq_true] at hg
  rcases hg with hg | hg
  · exact va_tabs hg hvm h
  · exact word_at hW (good_of_word hg) h
/-- a list's words: the good ones out of the method's own list, the others by premises of their own -/
theorem vx_hat {args : Array Value} {s : State} {L B : List Cond} (h1 : ∀ w ∈ L.filter goodWord, w.before args s = true) (h2 : ∀ w ∈ L.filter (fun w => !goodWord w), w ∈ B) (h3 : ∀ w ∈ B, w.before args s = true) : ∀ w ∈ L, w.before args s = true := by
  intro w hw
  by_cases g : goodWord w = true
  · exact h1 w (List.mem_filter.mpr ⟨hw, g⟩)
  · refine h3 w (h2 w (List.mem_filter.mpr ⟨hw, ?_⟩))
    show (!goodWord w) = true
    cases hgw : goodWord w
    · rfl
    · exact absurd hgw g
theorem vx_c {args : Array Value} {s : State} {w : Cond} {B : List Cond} (h : w.before args s = true) (t : ∀ w ∈ B, w.before args s = true) : ∀ w' ∈ w :: B, w'.before args s = true := fun w' h' => (List.mem_cons.mp h').elim (fun e => by rw [e]; exact h) (t w')
theorem vx_n {args : Array Value} {s : State} : ∀ w ∈ ([] : List Cond), w.before args s = true := fun _ h => nomatch h
theorem vx_own {args : Array Value} {s : State} {L : List Cond} (h1 : ∀ w ∈ L.filter vx_no, w.before args s = true)
    (hU : (Cond.isRef (.static Bundle.tN "UNASSIGNED_STACK" Bundle.steD)).before args s = true) (hN : (Cond.isRef (.static Bundle.tN "SUPPRESSED_SENTINEL" Bundle.listD)).before args s = true)
    (lU : (Cond.laysStatic Bundle.tN "UNASSIGNED_STACK" Bundle.steD).before args s = true) (lN : (Cond.laysStatic Bundle.tN "SUPPRESSED_SENTINEL" Bundle.listD).before args s = true) : ∀ w ∈ L, w.before args s = true := by
  intro w hw
  by_cases e1 : w = .isRef (.static Bundle.tN "UNASSIGNED_STACK" Bundle.steD)
  · rw [e1]; exact hU
  · by_cases e2 : w = .isRef (.static Bundle.tN "SUPPRESSED_SENTINEL" Bundle.listD)
    · rw [e2]; exact hN
    · by_cases e3 : w = .laysStatic Bundle.tN "UNASSIGNED_STACK" Bundle.steD
      · rw [e3]; exact lU
      · by_cases e4 : w = .laysStatic Bundle.tN "SUPPRESSED_SENTINEL" Bundle.listD
        · rw [e4]; exact lN
        · exact h1 w (List.mem_filter.mpr ⟨hw, by unfold vx_no; rw [decide_eq_true e1, decide_eq_true e2, decide_eq_true e3, decide_eq_true e4]; rfl⟩)
/-- where a static field lies, its class's statics cell in H -/
def vx_L (C n d : String) (A : Nat → Prop) (U : State) (H : Heap) : Prop := ∃ (c : ClassId) (k : Class) (i : Nat) (f : Field) (a : Nat) (cell : Cell), U.vm.findClass C = some c ∧ U.fieldFound? C n d = some (c, k, i, f) ∧ f.isStatic = true ∧ k.statics = some a ∧ H[a]? = some cell ∧ cell.vm.isStatics = true ∧ cell.cls = c ∧ f.slot < cell.slots.size ∧ k.staticTypes[f.slot]? = some f.type ∧ ¬ A a
theorem vx_L.moved {C n d : String} {A : Nat → Prop} {u U : State} {H : Heap} (hvm : u.vm.Alike U.vm) (h : vx_L C n d A u H) : vx_L C n d A U H := by
  obtain ⟨c, k, i, f, a, cell, h1, h2, h3, h4, h5, h6, h7, h8, h9, h10⟩ := h
  obtain ⟨k', hi', he⟩ := State.fieldFound?_setVm hvm h2
  exact ⟨c, k', i, f, a, cell, by rw [hvm.findClass]; exact h1, hi', h3, by rw [he]; exact h4, h5, h6, h7, h8, by rw [he]; exact h9, h10⟩
theorem vx_L.kept {C n d : String} {A : Nat → Prop} {U : State} {H H1 : Heap} (h : vx_L C n d A U H) (hq : ∀ a : Nat, a < H.size → ¬ A a → H1[a]? = H[a]?) : vx_L C n d A U H1 := by
  obtain ⟨c, k, i, f, a, cell, h1, h2, h3, h4, h5, h6, h7, h8, h9, h10⟩ := h
  exact ⟨c, k, i, f, a, cell, h1, h2, h3, h4, by rw [hq a (Array.getElem?_eq_some_iff.mp h5).1 h10]; exact h5, h6, h7, h8, h9, h10⟩
theorem vx_L.narrow {C n d : String} {A B : Nat → Prop} {U : State} {H : Heap} (h : vx_L C n d A U H) (hAB : ∀ q, B q → A q) : vx_L C n d B U H := by
  obtain ⟨c, k, i, f, a, cell, h1, h2, h3, h4, h5, h6, h7, h8, h9, h10⟩ := h
  exact ⟨c, k, i, f, a, cell, h1, h2, h3, h4, h5, h6, h7, h8, h9, fun z => h10 (hAB _ z)⟩
theorem vx_L.word {C n d : String} {A : Nat → Prop} {s : State} {args : Array Value} (h : vx_L C n d A s s.heap) : (Cond.laysStatic C n d).before args s = true := by
  obtain ⟨c, k, i, f, a, cell, h1, h2, h3, h4, h5, h6, h7, h8, h9, -⟩ := h
  show (Cond.laysStatic C n d).holds args s none s [] = true
  exact Cond.laysStatic_of h1 h2 h3 h4 h5 h6 h7 h8 h9
/-- .. and what it holds: null or some reference -/
def vx_Zq (C n d : String) (A : Nat → Prop) (U : State) (H : Heap) : Prop := va_Zq C n d A U H ∧ vx_L C n d A U H
theorem vx_Zq.moved {C n d : String} {A : Nat → Prop} {u U : State} {H : Heap} (hvm : u.vm.Alike U.vm) (h : vx_Zq C n d A u H) : vx_Zq C n d A U H := ⟨va_Zq.moved hvm h.1, vx_L.moved hvm h.2⟩
theorem vx_Zq.kept {C n d : String} {A : Nat → Prop} {U : State} {H H1 : Heap} (h : vx_Zq C n d A U H) (hq : ∀ a : Nat, a < H.size → ¬ A a → H1[a]? = H[a]?) : vx_Zq C n d A U H1 := ⟨va_Zq.kept h.1 hq, vx_L.kept h.2 hq⟩
theorem vx_Zq.narrow {C n d : String} {A B : Nat → Prop} {U : State} {H : Heap} (h : vx_Zq C n d A U H) (hAB : ∀ q, B q → A q) : vx_Zq C n d B U H := ⟨va_Zq.narrow h.1 hAB, vx_L.narrow h.2 hAB⟩
theorem vx_Zqof {args : Array Value} {s : State} {C n d : String} {A : Nat → Prop} (hl : (Cond.laysStatic C n d).before args s = true) (hini : (Cond.initialized C).before args s = true) (h : (Cond.isRef (.static C n d)).before args s = true) (hA : ∀ a : Nat, a < s.heap.size → ¬ A a) : vx_Zq C n d A s s.heap := by
  refine ⟨va_Zqof hl hini h hA, ?_⟩
  obtain ⟨c, k, i, f, a, cell, h1, h2, h3, h4, h5, h6, h7, h8, h9⟩ := Cond.laysStatic_spec hl
  exact ⟨c, k, i, f, a, cell, h1, h2, h3, h4, h5, h6, h7, h8, h9, hA a (Array.getElem?_eq_some_iff.mp h5).1⟩
theorem vx_isRef {C n d : String} {v : Value} {A : Nat → Prop} {s : State} {args : Array Value} (h : va_Z C n d v A s s.heap) (hv : v.isRef = true) : (Cond.isRef (.static C n d)).before args s = true := by
  obtain ⟨cf, kf, fi, f, a, cell, h1, h2, h3, h4, h5, h6, h7, -⟩ := h
  have he : (Term.static C n d).eval args s none [] s = some v := by
    simp [Term.eval, State.fieldNamed?, h1, h2, h4, h5, h6, h7]
  simp only [Cond.before, Cond.holds, Cond.value, he]
  cases v <;> simp_all [Value.isRef]
theorem vx_isRefq {C n d : String} {A : Nat → Prop} {s : State} {args : Array Value} (h : va_Zq C n d A s s.heap) : (Cond.isRef (.static C n d)).before args s = true := by
  rcases h with h | ⟨t, h⟩
  · exact vx_isRef h rfl
  · exact vx_isRef h rfl
/-- the same frame, seen from here: as if the method were called anew in this heap -/
theorem vx_rebase {T : State} (X : Stand p l e R s m args below meth c T locs cells slots) {R' : Room} (hf : R'.frames ≤ R.frames) (hl : R'.locals ≤ R.locals) (hc : cells + R'.cells ≤ R.cells) (hs : slots + R'.slots ≤ R.slots) :
    Stand p l e R' ((T.setVm s.vm).setFrames (.invoking m args :: below)) m args below meth c T [] 0 0 := by
  have htop : (T.setVm s.vm).topJava?.isSome := X.here.top
  have hF : ((T.setVm s.vm).setFrames (.invoking m args :: below)).frames = .invoking m args :: below := State.frames_setFrames _ (State.cur_lt_of_top htop)
  obtain ⟨g₀, hg0⟩ := Option.isSome_iff_exists.mp htop
  obtain ⟨r, hr⟩ := State.topJava?_eq_some.mp hg0
  have hl9 : e.platform.stackLimits (T.setVm s.vm).me = e.platform.stackLimits s.me := X.limits
  have hb9 : (T.setVm s.vm).me.stackBytes = s.me.stackBytes := X.bytes
  refine ⟨X.admits, X.cas, X.clock, hF, ?_, X.hears, X.method, X.code, X.here, X.tail, X.warmed, ?_, ?_, ?_⟩
  · have h := X.room
    have hU : ((T.setVm s.vm).setFrames (.invoking m args :: below)).localsInUse = s.localsInUse := by
      rw [State.localsInUse_invoking hF (meth := meth) (c := c) X.method X.code, State.localsInUse_invoking X.frames X.method X.code]
    simp only [State.hasRoom, Bool.and_eq_true, decide_eq_true_eq] at h ⊢
    obtain ⟨⟨⟨⟨h1, h2, h3, h4, h5, h6⟩, h7⟩, h8⟩, h9⟩ := h
    rw [X.frames, List.length_cons] at h2 h3
    have q1 := X.heapSize
    have q2 := X.used
    simp only [hF, hU, List.length_cons, State.stackLimits_setFrames, State.stackBytes_setFrames, hl9, hb9]
    refine ⟨⟨⟨⟨by omega, by omega, by omega, by omega, by omega, h6⟩, ?_⟩, ?_⟩, X.book⟩
    · show T.heap.size + R'.cells ≤ e.platform.maxCells
      omega
    · show T.slotsUsed + R'.slots ≤ e.platform.maxSlots
      omega
  · rw [State.stackLimits_setFrames]; rfl
  · rw [State.stackBytes_setFrames]; rfl
  · refine ⟨?_, Nat.le_refl _, Nat.le_refl _, ?_, ?_, fun a c9 h9 => ⟨c9, h9, rfl, rfl, fun _ _ => rfl⟩⟩
    · obtain ⟨t, ht, -⟩ := State.frames_cons hr
      show T.setVm s.vm = { ((T.setVm s.vm).setFrames (.invoking m args :: below)).setFrames (T.setVm s.vm).frames with heap := T.heap, slotsUsed := T.slotsUsed }
      rw [State.setFrames_setFrames, State.setFrames_self ht]
      rfl
    · show T.slotsUsed = T.slotsUsed + ((T.heap.toList.drop T.heap.size).map (·.slots.size)).sum
      rw [List.drop_eq_nil_of_le (Nat.le_of_eq Array.length_toList)]
      rfl
    · show ((T.heap.toList.drop T.heap.size).map (·.slots.size)).sum ≤ 0
      rw [List.drop_eq_nil_of_le (Nat.le_of_eq Array.length_toList)]
      exact Nat.le_refl _
/-- 'throw new E()': new; dup; invokespecial; athrow -/
theorem vx_throw0 {cc : ByteArray} {pc : Nat} (hexec : p.tables.exec = Jvm.exec) (hb : c.code = cc) (hl : l.stackTraces = false) {own cls : String} {names : List String} {ik ic mc ms : Nat} {A : Nat → Prop}
    (hown : s.vm.findClass own = some m.cls) (hcls : Bundle.fit cls = true) (hnames : ∀ n ∈ names, Bundle.fit n = true)
    (hk : (Cond.classLink own ik cls).before args s = true) (hini : (Cond.initialized cls).before args s = true) (hat : ∀ w ∈ vx_at0 own ic cls names, w.before args s = true)
    (hgood : ∀ w ∈ Cond.classLink own ik cls :: Cond.initialized cls :: vx_at0 own ic cls names, vx_ot w = true)
    (hU : vx_Zq Bundle.tN "UNASSIGNED_STACK" Bundle.steD A s s.heap) (hN : vx_Zq Bundle.tN "SUPPRESSED_SENTINEL" Bundle.listD A s s.heap) (hS : va_S A s.heap H locs) (hsize : ls.size = c.maxLocals)
    (d0 : decode cc pc = .ok (.new ik, 3)) (d3 : decode cc (pc + 3) = .ok (.dup, 1)) (d4 : decode cc (pc + 4) = .ok (.invokespecial ic, 3)) (d7 : decode cc (pc + 7) = .ok (.athrow, 1))
    (hout : ∀ x ∈ c.exceptionTable.toList, covers x (pc + 7) = false)
    (hRframes : names.length + 3 < R.frames) (hRlocals : (rest.map fun v => v.category).sum + (13 * (names.length + 1) + 42) ≤ R.locals) (hRcells : cells + 1 ≤ R.cells) (hRslots : slots + 6 ≤ R.slots) (hlocks : meth.locks = false)
    (hx : ∀ t : State, s.vm.Alike t.vm → H.size ≤ t.heap.size → (∀ q : Nat, q < H.size → t.heap[q]? = H[q]?) → XC cls s t)
    (hf : ∀ z ∈ locs, free z.base) (hc : cells + 1 ≤ mc) (hs : slots + 6 ≤ ms) :
    W p l e R s m args below meth c H locs cells slots (vx_MQ below Qc XC args s mc ms free) (F0 m pc ls rest) := by
  intro T hT X
  have htr : e.platform.stackTraces = false := (show e.platform.stackTraces = l.stackTraces by rw [X.admits.platform]).trans hl
  have Y := vx_rebase X (R' := { frames := R.frames, locals := R.locals, cells := 1, slots := 6 }) (Nat.le_refl _) (Nat.le_refl _) hRcells hRslots
  obtain ⟨s', hA⟩ : ∃ z, z = (T.setVm s.vm).setFrames (.invoking m args :: below) := ⟨_, rfl⟩
  rw [← hA] at Y
  have hvm : s'.vm = s.vm := by rw [hA]; rfl
  have hhp : s'.heap = H := by rw [hA]; exact hT
  have hW0 : s.WarmedH s'.vm := by rw [hvm]; exact State.WarmedH.refl s
  have hat' : ∀ w ∈ vx_at0 own ic cls names, w.before args s' = true := fun w hw => vx_ot_at hW0 hvm.symm (hgood w (List.mem_cons_of_mem _ (List.mem_cons_of_mem _ hw))) (hat w hw)
  have hk' : (Cond.classLink own ik cls).before args s' = true := vx_ot_at hW0 hvm.symm (hgood _ List.mem_cons_self) hk
  have hini' : (Cond.initialized cls).before args s' = true := vx_ot_at hW0 hvm.symm (hgood _ (List.mem_cons_of_mem _ List.mem_cons_self)) hini
  have hU' : vx_Zq Bundle.tN "UNASSIGNED_STACK" Bundle.steD A s' s'.heap := by rw [hhp]; exact vx_Zq.moved hW0.alike (hU.kept hS.2.1)
  have hN' : vx_Zq Bundle.tN "SUPPRESSED_SENTINEL" Bundle.listD A s' s'.heap := by rw [hhp]; exact vx_Zq.moved hW0.alike (hN.kept hS.2.1)
  have h : ∀ w ∈ Bundle.ownAtoms0 own ic cls names, w.before args s' = true := vx_own hat' (vx_isRefq hU'.1) (vx_isRefq hN'.1) hU'.2.word hN'.2.word
  have hown' : s'.vm.findClass own = some m.cls := by rw [hvm]; exact hown
  have hins : (Cond.instantiable cls 6).before args s' = true := h _ (by simp [Bundle.ownAtoms0])
  obtain ⟨vm₁, cX, kX, hfX, hkX, -, -, X₁, st1⟩ := Y.newCold hexec (own := own) (C := cls) (index := ik) (n := 6) hown' hk' hins hini'
    (g := F0 m pc ls rest) rfl (by rw [hb]; exact d0) (Nat.le_refl _) (Nat.le_refl _)
  generalize hT1 : (T.setVm vm₁).pushCell { cls := cX, slots := kX.instanceTypes.map defaultValue, vm := .none } = T1 at X₁ st1
  have hcat : (Value.ref T.heap.size).category = 1 := rfl
  have hcellA : T1.heap[T.heap.size]? = some (freshCell cX kX) := by rw [← hT1]; exact State.heap_pushCell_size _ _
  have d3' : decode c.code (pc + 3) = .ok (.dup, 1) := by rw [hb]; exact d3
  obtain ⟨U, hsteps, hrun, hend, hW, hsame, ce, hce, hO⟩ := X₁.ctorThrow0 hexec htr (own := own) (cls := cls) (names := names) (ic := ic) hown' hcls hnames h (fun x hx => nomatch hx) hfX hkX hcellA (by rw [hhp, hT]; exact Nat.le_refl _)
    (g := { method := m, pc := pc + 4, locals := ls, stack := .ref T.heap.size :: .ref T.heap.size :: rest, locked := none }) rfl hsize rfl rfl (rest := rest) rfl
    (by rw [hb]; exact d4) (by rw [hb]; exact d7) hout hRframes (by simp only [List.map_cons, List.sum_cons, hcat]; omega) hlocks
  obtain ⟨f1, f2⟩ := vx_frame hsame
  rw [hhp] at f1 f2
  have hWs : s.WarmedH U.vm := State.WarmedH.trans hW0 hW
  have hcl : s.vm.findClass cls = some ce.cls := by
    have h9 := hO.cls
    rw [hvm] at h9
    exact h9
  have hall : s.sameButNew ({ U with vm := s.vm } : State) locs mc ms := by
    subst hA
    obtain ⟨e1, e2⟩ := hsame
    rw [State.setFrames_setFrames] at e1
    have h2 : (T.setVm s.vm).sameButNew ({ U with vm := s.vm } : State) [] (0 + 1) (0 + 6) := ⟨e1, e2⟩
    have h3 := X.same.trans h2
    rw [List.append_nil] at h3
    exact h3.mono hc hs
  refine ⟨U, ?_, .threw T.heap.size, hrun, hend, Or.inr ⟨T.heap.size, rfl, cls, ce, locs, hx U hWs.alike f1 (fun q hq => f2 q hq (fun z hz => nomatch hz)), hce, hO.vm, hcl, hWs, hall, hf⟩⟩
  refine st1 _ ?_
  show Steps p.tables e below (T1.setTop { method := m, pc := pc + 3, locals := ls, stack := .ref T.heap.size :: rest, locked := none }) _
  jvm_step X₁.here [X₁.here.top, hexec, d3', Value.category]
  exact hsteps
/-- 'throw new E("text")': new; dup; ldc; invokespecial; athrow -/
theorem vx_throwS {cc : ByteArray} {pc : Nat} (hexec : p.tables.exec = Jvm.exec) (hb : c.code = cc) (hl : l.stackTraces = false) {own cls text : String} {names : List String} {ik is ic mc ms sa : Nat} {A : Nat → Prop}
    (hown : s.vm.findClass own = some m.cls) (hcls : Bundle.fit cls = true) (hnames : ∀ n ∈ names, Bundle.fit n = true)
    (hk : (Cond.classLink own ik cls).before args s = true) (hini : (Cond.initialized cls).before args s = true) (hstr : vk_R own is text sa s) (hat : ∀ w ∈ vx_atS own ic cls names, w.before args s = true)
    (hgood : ∀ w ∈ Cond.classLink own ik cls :: Cond.initialized cls :: vx_atS own ic cls names, vx_ot w = true)
    (hU : vx_Zq Bundle.tN "UNASSIGNED_STACK" Bundle.steD A s s.heap) (hN : vx_Zq Bundle.tN "SUPPRESSED_SENTINEL" Bundle.listD A s s.heap) (hS : va_S A s.heap H locs) (hsize : ls.size = c.maxLocals)
    (d0 : decode cc pc = .ok (.new ik, 3)) (d3 : decode cc (pc + 3) = .ok (.dup, 1)) (d4 : decode cc (pc + 4) = .ok (.ldc is, 2)) (d6 : decode cc (pc + 6) = .ok (.invokespecial ic, 3)) (d9 : decode cc (pc + 9) = .ok (.athrow, 1))
    (hout : ∀ x ∈ c.exceptionTable.toList, covers x (pc + 9) = false)
    (hRframes : names.length + 3 < R.frames) (hRlocals : (rest.map fun v => v.category).sum + (13 * (names.length + 1) + 43) ≤ R.locals) (hRcells : cells + 1 ≤ R.cells) (hRslots : slots + 6 ≤ R.slots) (hlocks : meth.locks = false)
    (hx : ∀ t : State, s.vm.Alike t.vm → H.size ≤ t.heap.size → (∀ q : Nat, q < H.size → t.heap[q]? = H[q]?) → XC cls s t)
    (hf : ∀ z ∈ locs, free z.base) (hc : cells + 1 ≤ mc) (hs : slots + 6 ≤ ms) :
    W p l e R s m args below meth c H locs cells slots (vx_MQ below Qc XC args s mc ms free) (F0 m pc ls rest) := by
  intro T hT X
  have htr : e.platform.stackTraces = false := (show e.platform.stackTraces = l.stackTraces by rw [X.admits.platform]).trans hl
  have Y := vx_rebase X (R' := { frames := R.frames, locals := R.locals, cells := 1, slots := 6 }) (Nat.le_refl _) (Nat.le_refl _) hRcells hRslots
  obtain ⟨s', hA⟩ : ∃ z, z = (T.setVm s.vm).setFrames (.invoking m args :: below) := ⟨_, rfl⟩
  rw [← hA] at Y
  have hvm : s'.vm = s.vm := by rw [hA]; rfl
  have hhp : s'.heap = H := by rw [hA]; exact hT
  have hW0 : s.WarmedH s'.vm := by rw [hvm]; exact State.WarmedH.refl s
  have hat' : ∀ w ∈ vx_atS own ic cls names, w.before args s' = true := fun w hw => vx_ot_at hW0 hvm.symm (hgood w (List.mem_cons_of_mem _ (List.mem_cons_of_mem _ hw))) (hat w hw)
  have hk' : (Cond.classLink own ik cls).before args s' = true := vx_ot_at hW0 hvm.symm (hgood _ List.mem_cons_self) hk
  have hini' : (Cond.initialized cls).before args s' = true := vx_ot_at hW0 hvm.symm (hgood _ (List.mem_cons_of_mem _ List.mem_cons_self)) hini
  have hU' : vx_Zq Bundle.tN "UNASSIGNED_STACK" Bundle.steD A s' s'.heap := by rw [hhp]; exact vx_Zq.moved hW0.alike (hU.kept hS.2.1)
  have hN' : vx_Zq Bundle.tN "SUPPRESSED_SENTINEL" Bundle.listD A s' s'.heap := by rw [hhp]; exact vx_Zq.moved hW0.alike (hN.kept hS.2.1)
  have h : ∀ w ∈ Bundle.ownAtoms own ic cls names, w.before args s' = true := vx_own hat' (vx_isRefq hU'.1) (vx_isRefq hN'.1) hU'.2.word hN'.2.word
  have hown' : s'.vm.findClass own = some m.cls := by rw [hvm]; exact hown
  have hins : (Cond.instantiable cls 6).before args s' = true := h _ (by simp [Bundle.ownAtoms])
  obtain ⟨vm₁, cX, kX, hfX, hkX, -, -, X₁, st1⟩ := Y.newCold hexec (own := own) (C := cls) (index := ik) (n := 6) hown' hk' hins hini'
    (g := F0 m pc ls rest) rfl (by rw [hb]; exact d0) (Nat.le_refl _) (Nat.le_refl _)
  generalize hT1 : (T.setVm vm₁).pushCell { cls := cX, slots := kX.instanceTypes.map defaultValue, vm := .none } = T1 at X₁ st1
  have hcat : (Value.ref T.heap.size).category = 1 := rfl
  have hcellA : T1.heap[T.heap.size]? = some (freshCell cX kX) := by rw [← hT1]; exact State.heap_pushCell_size _ _
  have d3' : decode c.code (pc + 3) = .ok (.dup, 1) := by rw [hb]; exact d3
  have d4' : decode c.code (pc + 4) = .ok (.ldc is, 2) := by rw [hb]; exact d4
  have hstr' : vk_R own is text sa s' := vk_R.warm hW0 hstr
  obtain ⟨U, hsteps, hrun, hend, hW, hsame, ce, hce, hO⟩ := X₁.ctorThrowS hexec htr (own := own) (cls := cls) (names := names) (ic := ic) hown' hcls hnames h (fun x hx => nomatch hx) hfX hkX hcellA (by rw [hhp, hT]; exact Nat.le_refl _) (msg := .ref sa) rfl
    (g := { method := m, pc := pc + 6, locals := ls, stack := .ref sa :: .ref T.heap.size :: .ref T.heap.size :: rest, locked := none }) rfl hsize rfl rfl (rest := rest) rfl
    (by rw [hb]; exact d6) (by rw [hb]; exact d9) hout hRframes (by simp only [List.map_cons, List.sum_cons, hcat]; omega) hlocks
  obtain ⟨f1, f2⟩ := vx_frame hsame
  rw [hhp] at f1 f2
  have hWs : s.WarmedH U.vm := State.WarmedH.trans hW0 hW
  have hcl : s.vm.findClass cls = some ce.cls := by
    have h9 := hO.cls
    rw [hvm] at h9
    exact h9
  have hall : s.sameButNew ({ U with vm := s.vm } : State) locs mc ms := by
    subst hA
    obtain ⟨e1, e2⟩ := hsame
    rw [State.setFrames_setFrames] at e1
    have h2 : (T.setVm s.vm).sameButNew ({ U with vm := s.vm } : State) [] (0 + 1) (0 + 6) := ⟨e1, e2⟩
    have h3 := X.same.trans h2
    rw [List.append_nil] at h3
    exact h3.mono hc hs
  refine ⟨U, ?_, .threw T.heap.size, hrun, hend, Or.inr ⟨T.heap.size, rfl, cls, ce, locs, hx U hWs.alike f1 (fun q hq => f2 q hq (fun z hz => nomatch hz)), hce, hO.vm, hcl, hWs, hall, hf⟩⟩
  refine st1 _ ?_
  show Steps p.tables e below (T1.setTop { method := m, pc := pc + 3, locals := ls, stack := .ref T.heap.size :: rest, locked := none }) _
  jvm_step X₁.here [X₁.here.top, hexec, d3', Value.category]
  exact X₁.ldcString hexec (own := own) (text := text) (index := is) (a := sa) hown' hstr'.1 hstr'.2
    (g := { method := m, pc := pc + 4, locals := ls, stack := .ref T.heap.size :: .ref T.heap.size :: rest, locked := none }) rfl d4' _ hsteps
/-- 'throw new E("text")', the text by a wide index -/
theorem vx_throwSW {cc : ByteArray} {pc : Nat} (hexec : p.tables.exec = Jvm.exec) (hb : c.code = cc) (hl : l.stackTraces = false) {own cls text : String} {names : List String} {ik is ic mc ms sa : Nat} {A : Nat → Prop}
    (hown : s.vm.findClass own = some m.cls) (hcls : Bundle.fit cls = true) (hnames : ∀ n ∈ names, Bundle.fit n = true)
    (hk : (Cond.classLink own ik cls).before args s = true) (hini : (Cond.initialized cls).before args s = true) (hstr : vk_R own is text sa s) (hat : ∀ w ∈ vx_atS own ic cls names, w.before args s = true)
    (hgood : ∀ w ∈ Cond.classLink own ik cls :: Cond.initialized cls :: vx_atS own ic cls names, vx_ot w = true)
    (hU : vx_Zq Bundle.tN "UNASSIGNED_STACK" Bundle.steD A s s.heap) (hN : vx_Zq Bundle.tN "SUPPRESSED_SENTINEL" Bundle.listD A s s.heap) (hS : va_S A s.heap H locs) (hsize : ls.size = c.maxLocals)
    (d0 : decode cc pc = .ok (.new ik, 3)) (d3 : decode cc (pc + 3) = .ok (.dup, 1)) (d4 : decode cc (pc + 4) = .ok (.ldc_w is, 3)) (d7 : decode cc (pc + 7) = .ok (.invokespecial ic, 3)) (d10 : decode cc (pc + 10) = .ok (.athrow, 1))
    (hout : ∀ x ∈ c.exceptionTable.toList, covers x (pc + 10) = false)
    (hRframes : names.length + 3 < R.frames) (hRlocals : (rest.map fun v => v.category).sum + (13 * (names.length + 1) + 43) ≤ R.locals) (hRcells : cells + 1 ≤ R.cells) (hRslots : slots + 6 ≤ R.slots) (hlocks : meth.locks = false)
    (hx : ∀ t : State, s.vm.Alike t.vm → H.size ≤ t.heap.size → (∀ q : Nat, q < H.size → t.heap[q]? = H[q]?) → XC cls s t)
    (hf : ∀ z ∈ locs, free z.base) (hc : cells + 1 ≤ mc) (hs : slots + 6 ≤ ms) :
    W p l e R s m args below meth c H locs cells slots (vx_MQ below Qc XC args s mc ms free) (F0 m pc ls rest) := by
  intro T hT X
  have htr : e.platform.stackTraces = false := (show e.platform.stackTraces = l.stackTraces by rw [X.admits.platform]).trans hl
  have Y := vx_rebase X (R' := { frames := R.frames, locals := R.locals, cells := 1, slots := 6 }) (Nat.le_refl _) (Nat.le_refl _) hRcells hRslots
  obtain ⟨s', hA⟩ : ∃ z, z = (T.setVm s.vm).setFrames (.invoking m args :: below) := ⟨_, rfl⟩
  rw [← hA] at Y
  have hvm : s'.vm = s.vm := by rw [hA]; rfl
  have hhp : s'.heap = H := by rw [hA]; exact hT
  have hW0 : s.WarmedH s'.vm := by rw [hvm]; exact State.WarmedH.refl s
  have hat' : ∀ w ∈ vx_atS own ic cls names, w.before args s' = true := fun w hw => vx_ot_at hW0 hvm.symm (hgood w (List.mem_cons_of_mem _ (List.mem_cons_of_mem _ hw))) (hat w hw)
  have hk' : (Cond.classLink own ik cls).before args s' = true := vx_ot_at hW0 hvm.symm (hgood _ List.mem_cons_self) hk
  have hini' : (Cond.initialized cls).before args s' = true := vx_ot_at hW0 hvm.symm (hgood _ (List.mem_cons_of_mem _ List.mem_cons_self)) hini
  have hU' : vx_Zq Bundle.tN "UNASSIGNED_STACK" Bundle.steD A s' s'.heap := by rw [hhp]; exact vx_Zq.moved hW0.alike (hU.kept hS.2.1)
  have hN' : vx_Zq Bundle.tN "SUPPRESSED_SENTINEL" Bundle.listD A s' s'.heap := by rw [hhp]; exact vx_Zq.moved hW0.alike (hN.kept hS.2.1)
  have h : ∀ w ∈ Bundle.ownAtoms own ic cls names, w.before args s' = true := vx_own hat' (vx_isRefq hU'.1) (vx_isRefq hN'.1) hU'.2.word hN'.2.word
  have hown' : s'.vm.findClass own = some m.cls := by rw [hvm]; exact hown
  have hins : (Cond.instantiable cls 6).before args s' = true := h _ (by simp [Bundle.ownAtoms])
  obtain ⟨vm₁, cX, kX, hfX, hkX, -, -, X₁, st1⟩ := Y.newCold hexec (own := own) (C := cls) (index := ik) (n := 6) hown' hk' hins hini'
    (g := F0 m pc ls rest) rfl (by rw [hb]; exact d0) (Nat.le_refl _) (Nat.le_refl _)
  generalize hT1 : (T.setVm vm₁).pushCell { cls := cX, slots := kX.instanceTypes.map defaultValue, vm := .none } = T1 at X₁ st1
  have hcat : (Value.ref T.heap.size).category = 1 := rfl
  have hcellA : T1.heap[T.heap.size]? = some (freshCell cX kX) := by rw [← hT1]; exact State.heap_pushCell_size _ _
  have d3' : decode c.code (pc + 3) = .ok (.dup, 1) := by rw [hb]; exact d3
  have d4' : decode c.code (pc + 4) = .ok (.ldc_w is, 3) := by rw [hb]; exact d4
  have hstr' : vk_R own is text sa s' := vk_R.warm hW0 hstr
  obtain ⟨U, hsteps, hrun, hend, hW, hsame, ce, hce, hO⟩ := X₁.ctorThrowS hexec htr (own := own) (cls := cls) (names := names) (ic := ic) hown' hcls hnames h (fun x hx => nomatch hx) hfX hkX hcellA (by rw [hhp, hT]; exact Nat.le_refl _) (msg := .ref sa) rfl
    (g := { method := m, pc := pc + 7, locals := ls, stack := .ref sa :: .ref T.heap.size :: .ref T.heap.size :: rest, locked := none }) rfl hsize rfl rfl (rest := rest) rfl
    (by rw [hb]; exact d7) (by rw [hb]; exact d10) hout hRframes (by simp only [List.map_cons, List.sum_cons, hcat]; omega) hlocks
  obtain ⟨f1, f2⟩ := vx_frame hsame
  rw [hhp] at f1 f2
  have hWs : s.WarmedH U.vm := State.WarmedH.trans hW0 hW
  have hcl : s.vm.findClass cls = some ce.cls := by
    have h9 := hO.cls
    rw [hvm] at h9
    exact h9
  have hall : s.sameButNew ({ U with vm := s.vm } : State) locs mc ms := by
    subst hA
    obtain ⟨e1, e2⟩ := hsame
    rw [State.setFrames_setFrames] at e1
    have h2 : (T.setVm s.vm).sameButNew ({ U with vm := s.vm } : State) [] (0 + 1) (0 + 6) := ⟨e1, e2⟩
    have h3 := X.same.trans h2
    rw [List.append_nil] at h3
    exact h3.mono hc hs
  refine ⟨U, ?_, .threw T.heap.size, hrun, hend, Or.inr ⟨T.heap.size, rfl, cls, ce, locs, hx U hWs.alike f1 (fun q hq => f2 q hq (fun z hz => nomatch hz)), hce, hO.vm, hcl, hWs, hall, hf⟩⟩
  refine st1 _ ?_
  show Steps p.tables e below (T1.setTop { method := m, pc := pc + 3, locals := ls, stack := .ref T.heap.size :: rest, locked := none }) _
  jvm_step X₁.here [X₁.here.top, hexec, d3', Value.category]
  exact X₁.ldcStringW hexec (own := own) (text := text) (index := is) (a := sa) hown' hstr'.1 hstr'.2
    (g := { method := m, pc := pc + 4, locals := ls, stack := .ref T.heap.size :: .ref T.heap.size :: rest, locked := none }) rfl d4' _ hsteps
end Ends
section Bodies
variable {l : Launch}
theorem vx_ofW {y : MethodName} {ws ws' : List Cond} {rm : Room} {Pc : Array Value → State → Prop} {Qc : Array Value → State → Outcome → State → Prop} {XC : String → State → State → Prop} {mc ms : Nat} {free : Addr → Prop} {cc : ByteArray} {maxL : Nat} {ret : Option FieldType}
    (hy : plainName y.cls = true) (hw : ws = Cond.code y cc maxL ret :: ws')
    (body : ∀ p e s m args below meth c s₁, BodyLoose p l y (headSpec ws rm) cc maxL ret e s m args below meth c s₁ → c.maxLocals = maxL → (∀ x ∈ c.exceptionTable.toList, False) → Pc args s →
      W p l e (headSpec ws rm).room s m args below meth c s.heap [] 0 0 (vx_MQ below Qc XC args s mc ms free) (entryFrame m args maxL)) : vx_Met l y ws rm Pc Qc XC mc ms free := by
  refine MetFree.of_bodyS (code := cc) (maxLocals := maxL) (ret := ret) hy ?_ ?_
  · intro args s m h hn
    obtain ⟨meth, c, h1, h2, h3, h4, h5, h6, -, -⟩ := Cond.code_spec hn (atoms_spec (ws := ws) h _ (by rw [hw]; exact List.mem_cons_self))
    exact ⟨meth, c, h1, h2, h3, h4, h5, h6⟩
  · intro p e s m args below meth c s₁ B hml hP _
    have hh0 : s₁.heap = s.heap := by rw [B.state]; rfl
    have ht : ∀ x ∈ c.exceptionTable.toList, False := by
      obtain ⟨meth9, c9, h1, h2, -, -, -, -, h7, -⟩ := Cond.code_spec B.named (atoms_spec (ws := ws) B.pre _ (by rw [hw]; exact List.mem_cons_self))
      cases Option.some.inj (h1.symm.trans B.method)
      cases Option.some.inj (h2.symm.trans (Stand.of_body B).code)
      intro x hx
      rw [Array.isEmpty_iff.mp h7] at hx
      cases hx
    obtain ⟨t, a1, o, b1, b2, b3⟩ := body p e s m args below meth c s₁ B hml ht hP s₁ hh0 (Stand.of_body B)
    exact ⟨t, o, a1, b1, b2, b3⟩
/-- the table of a body with handlers -/
theorem vx_table {p : Program} {x y : MethodName} {S : Spec} {cc bytes : ByteArray} {maxL maxL' : Nat} {ret ret' : Option FieldType} {e : Env} {s s₁ : State} {m : MethodId} {args : Array Value} {below : List Frame} {meth : Method} {c : Code} {hh : List (Nat × Nat × Nat × Nat)}
    (B : BodyLoose p l y S cc maxL ret e s m args below meth c s₁) (h : (Cond.codeWith y bytes maxL' ret' hh).before args s = true) : c.exceptionTable.toList = tableOf hh := by
  obtain ⟨m9, meth9, c9, hn9, h1, h2, -, -, h6, -⟩ := Cond.codeWith_spec h
  cases Option.some.inj (hn9.symm.trans B.named)
  cases Option.some.inj (h1.symm.trans B.method)
  cases Option.some.inj (h2.symm.trans (Stand.of_body B).code)
  rw [← h6, table_eq]
end Bodies
end VXA
/-! ===== END ===== -/
/-! ===== BEGIN a static call of a method with an exception table ===== -/
section VXS
variable {p : Program} {l : Launch} {e : Env} {R : Room} {s : State} {m : MethodId} {args : Array Value} {below : List Frame} {meth : Method} {c : Code} {T : State} {H : Heap} {locs : List Loc} {cells slots : Nat}
abbrev vx_CSW (R : Room) (s : State) (args : Array Value) (own : String) (index : Nat) (y : MethodName) (bytes : ByteArray) (maxL : Nat) (ret : Option FieldType) (hh : List (Nat × Nat × Nat × Nat)) (ws : List Cond) (rm : Room) (mc ms n : Nat) : Prop :=
  (rm.cells = mc ∧ rm.slots = ms ∧ rm.frames + 1 ≤ R.frames ∧ 8 + (maxL + 11) + rm.locals ≤ R.locals ∧ (∀ w ∈ ws, ∀ (a' : Array Value) (U : State), s.WarmedH U.vm → w.before a' U = true) ∧ Cond.codeWith y bytes maxL ret hh ∈ ws) ∧
  (Cond.codeWith y bytes maxL ret hh).before args s = true ∧ (Cond.initialized y.cls).before args s = true ∧ (y.cls ≠ "java/lang/invoke/MethodHandle" ∧ y.cls ≠ "java/lang/invoke/VarHandle") ∧
  (∀ sig, parseMethodDescriptor y.desc = some sig → n = sig.parameters.length) ∧ (Cond.methodLink own index y).before args s = true ∧ (Cond.static y).before args s = true
theorem vx_cwSW {own : String} {index maxL mc ms : Nat} {y : MethodName} {bytes : ByteArray} {ret : Option FieldType} {hh : List (Nat × Nat × Nat × Nat)} {Ts ws ws' : List Cond} {rm : Room} (n : Nat) (ht : ∀ w ∈ Ts, w.before args s = true) (hT : GoodIn Ts (va_wsS own index y ws)) (hw : ws = Cond.codeWith y bytes maxL ret hh :: ws') (hrc : rm.cells = mc) (hrs : rm.slots = ms)
    (hd : y.cls ≠ "java/lang/invoke/MethodHandle" ∧ y.cls ≠ "java/lang/invoke/VarHandle" ∧ (parseMethodDescriptor y.desc).map (fun d => d.parameters.length) = some n) (hR : rm.frames + 1 ≤ R.frames ∧ 8 + (maxL + 11) + rm.locals ≤ R.locals) :
    vx_CSW R s args own index y bytes maxL ret hh ws rm mc ms n := by
  have ok : ∀ w ∈ va_wsS own index y ws, w.before args s = true := fun w h => ht w (hT w h).1
  have hG : GoodIn Ts ws := fun w h => hT w (by unfold va_wsS; exact List.mem_append_right _ h)
  have hc : Cond.codeWith y bytes maxL ret hh ∈ ws := by rw [hw]; exact List.mem_cons_self
  refine ⟨⟨hrc, hrs, hR.1, hR.2, pay_in ht hG, hc⟩, ht _ (hG _ hc).1, ok _ (by simp [va_wsS]), ⟨hd.1, hd.2.1⟩, fun sig h => ?_, ok _ (by simp [va_wsS]), ok _ (by simp [va_wsS])⟩
  have h2 := hd.2.2
  rw [h] at h2
  exact (Option.some.inj h2).symm
theorem vx_callSW (X : Stand p l e R s m args below meth c T locs cells slots) (hexec : p.tables.exec = Jvm.exec) {own : String} {index : Nat} {y : MethodName} {bytes : ByteArray} {maxL : Nat} {ret : Option FieldType} {hh : List (Nat × Nat × Nat × Nat)}
    (hown : s.vm.findClass own = some m.cls) (hlink : (Cond.methodLink own index y).before args s = true) (hstat : (Cond.static y).before args s = true) (hinit : (Cond.initialized y.cls).before args s = true)
    (hcode : (Cond.codeWith y bytes maxL ret hh).before args s = true) (hy : y.cls ≠ "java/lang/invoke/MethodHandle" ∧ y.cls ≠ "java/lang/invoke/VarHandle")
    {W9 : Nat} {Pre : Pt → Array Value → Prop} {Post : Pt → Array Value → Option Value → Pt → Prop} (hK : Back l R p e below s args y 3 W9 Pre Post)
    {g : JFrame} (hg : g.method = m) (hsize : g.locals.size = c.maxLocals) {argsL rest : List Value} (hlen : ∀ sig, parseMethodDescriptor y.desc = some sig → argsL.length = sig.parameters.length)
    (hstack : g.stack = argsL.reverse ++ rest) (hW : 2 * g.monitorRoom + (rest.map fun v => v.category).sum ≤ W9) (hdg : decode c.code g.pc = .ok (.invokestatic index, 3))
    (hpre : ∀ vm₁, s.WarmedH vm₁ → Pre ⟨T.setVm vm₁, locs, cells, slots⟩ argsL.toArray) :
    ∃ (v : Option Value) (vm₁ : Vm) (B : Pt), s.WarmedH vm₁ ∧ Stand p l e R s m args below meth c B.U B.locs B.cells B.slots ∧ Post ⟨T.setVm vm₁, locs, cells, slots⟩ argsL.toArray v B ∧
      ∀ target, Steps p.tables e below (B.U.setTop { g with pc := g.pc + 3, stack := v.toList ++ rest }) target → Steps p.tables e below (T.setTop g) target := by
  obtain ⟨mk, methM, cM, hnamed, hmethM, -, -, -, -, -, -, hsigM⟩ := Cond.codeWith_spec hcode
  have hstatic : methM.isStatic = true := Cond.static_spec hnamed hmethM hstat
  obtain ⟨kP, hkP, -⟩ := className_of_methodNamed hnamed
  have hinitP : kP.init = .initialized := Cond.initialized_spec (findClass_of_methodNamed hnamed) hkP hinit
  obtain ⟨vm₁, X₁, hstep₁⟩ := X.invokestatic hexec hown hlink hnamed hmethM hstatic hkP hinitP hy (g := g) hg (argsL := argsL) (rest := rest) (hlen _ hsigM) hstack hdg
  obtain ⟨v, B, X', hpost, hsteps⟩ := hK m meth c ⟨T.setVm vm₁, locs, cells, slots⟩ { g with stack := rest } (.invokestatic index) mk argsL.toArray X₁ hg hsize hdg hW (X₁.named hnamed) (hpre vm₁ X₁.warmed)
  exact ⟨v, vm₁, B, X₁.warmed, X', hpost, fun target h => hstep₁ _ fun acts => by rw [doInvoke_state]; exact hsteps.trans h⟩
theorem vx_runSW {y : MethodName} {bytes cc : ByteArray} {maxL nL mc ms n index : Nat} {ret : Option FieldType} {hh : List (Nat × Nat × Nat × Nat)} {ws : List Cond} {rm : Room} {Pc : Array Value → State → Prop} {Qc : Array Value → State → Outcome → State → Prop} {free : Addr → Prop} {Ts : List Cond} {own : String} {As rest : List Value} {g : JFrame}
    (S : CallFix p m c cc nL s args Ts own) (hM : Met l y ws rm Pc Qc mc ms free) (cw : vx_CSW R s args own index y bytes maxL ret hh ws rm mc ms n) (hp : PreS s H Pc As)
    (hg : g.method = m) (hn : As.length = n) (hsize : g.locals.size = nL) (hstack : g.stack = As.reverse ++ rest) (hW : 2 * g.monitorRoom + (rest.map fun v => v.category).sum ≤ 8) (hdg : decode cc g.pc = .ok (.invokestatic index, 3)) (hf : cells + mc ≤ R.cells ∧ slots + ms ≤ R.slots) :
    va_Run p l e R s m args below meth c H locs cells slots mc ms g rest (Qc As.toArray) (free) := by
  obtain ⟨⟨hrc, hrs, hfr, hlo, hws, hcw⟩, hcode, hini, hy, hlen, hl, hstt⟩ := cw
  have hK : Back l R p e below s args y 3 8 (PreOf R mc ms Pc) (PostOf Qc mc ms free) := va_backW (hh := hh) (bytes := bytes) (maxL := maxL) (ret := ret) hM hp.1 hrc hrs hfr hlo hws hcw (fun a' U hW => word_at hW (Or.inl (by first | rfl | simp [Cond.onTables, Cond.keeps, Cond.steady])) hini)
  obtain ⟨hx, hb, hml, ho, -⟩ := S
  intro T hT X
  obtain ⟨v, vm₁, ⟨U', l2, c2, s2⟩, hW₁, X', ⟨g', mk, t, L, e1, e2, hq, h1, hL, h2, h3⟩, st⟩ := vx_callSW X hx (hh := hh) (bytes := bytes) (maxL := maxL) (ret := ret) ho hl hstt hini hcode hy hK hg (hsize.trans hml.symm) (argsL := As) (rest := rest) (fun sig h => hn.trans (hlen sig h)) hstack hW (by rw [hb]; exact hdg)
    (fun vm₁ hW₁ => ⟨hf.1, hf.2, hp.2 (T.setVm vm₁) hT hW₁⟩)
  dsimp only [Pt.U, Pt.locs, Pt.cells, Pt.slots] at X' e1 e2 h1 h2 h3 st
  subst h1; subst h2; subst h3
  exact ⟨v, (T.setVm vm₁).calling g' mk As.toArray, t, U', L, hT, X', hL, e1, e2, hq, st⟩
/-- not caught here, past rows that name other classes: it goes on to the caller -/
theorem vx_outP {p : Program} {l : Launch} {e : Env} {R : Room} {s : State} {m : MethodId} {args : Array Value} {below : List Frame} {meth : Method} {c : Code} {H : Heap} {locs : List Loc} {cells slots : Nat} {free : Addr → Prop} {ls : Array Slot} {rest : List Value} {Qc : Array Value → State → Outcome → State → Prop} {XC : String → State → State → Prop}
    {pc : Nat} {own E : String} {ce : Cell} {q : Addr} {mc ms : Nat} (hown : s.vm.findClass own = some m.cls) (hlocks : meth.locks = false)
    (hpass : ∀ z ∈ c.exceptionTable.toList, covers z pc = false ∨ (z.catchType ≠ 0 ∧ ∃ nm : String, (Cond.classLink own z.catchType nm).before args s = true ∧ va_Nc E nm s)) (hcell : H[q]? = some ce) (hv : ce.vm = .none) (hcl : s.vm.findClass E = some ce.cls)
    (hx : ∀ t : State, t.heap = H → s.vm.Alike t.vm → XC E s t) (hf : ∀ z ∈ locs, free z.base) (hc : cells ≤ mc) (hs : slots ≤ ms) :
    vx_W p l e R s m args below meth c H locs cells slots (vx_MQ below Qc XC args s mc ms free) (F0 m pc ls rest) q := by
  intro T hT X
  have hpl : e.platform.magicAccessors = ({} : Platform).magicAccessors := by rw [X.admits.platform]
  obtain ⟨vm', hW', X', st⟩ := X.outThrough hlocks q (g := F0 m pc ls rest) rfl rfl rfl (cell := ce) (by rw [hT]; exact hcell) (by rw [hv]; rfl)
    (by obtain ⟨k9, h9, -⟩ := Vm.findClass_spec hcl; exact ⟨k9, h9⟩) (fun z hz => by
      rcases hpass z hz with h | ⟨hz0, nm, hl1, hn1⟩
      · exact Or.inl h
      · obtain ⟨c6, hc6, hcl6⟩ := Cond.classLink_spec hown hl1 e.platform hpl
        obtain ⟨a8, b8, h1, h2, h3⟩ := hn1
        cases Option.some.inj (h1.symm.trans hcl)
        cases Option.some.inj (h2.symm.trans hc6)
        exact Or.inr ⟨hz0, _, hcl6, h3⟩)
  obtain ⟨g₀, hfr⟩ := X'.frames_eq
  have hcell9 : ((T.setVm vm').setFrames (.throwing q :: below)).heap[q]? = some ce := by
    show T.heap[q]? = some ce
    rw [hT]; exact hcell
  have hend : Ended ((T.setVm vm').setFrames (.throwing q :: below)) below (.threw q) := State.frames_setFrames _ (State.cur_lt_of_frames hfr)
  refine ⟨(T.setVm vm').setFrames (.throwing q :: below), ?_, .threw q, X'.here.running, hend, Or.inr ⟨q, rfl, E, ce, locs, hx _ hT (X'.ends _).1.alike, hcell9, hv, hcl, (X'.ends _).1, (X'.ends _).2.mono hc hs, hf⟩⟩
  rw [X.pushThrowing_eq]
  exact st
/-- a thing of a world lies in the heap -/
theorem vx_lt {D : va_G} {cl : List vw_C} {ws : va_W} {H1 : Heap} (h : va_P D cl ws H1) {k : Nat} {q : Nat × va_E} (hk : ws[k]? = some q) : q.1 < H1.size := (h k q hk).lt
end VXS
/-! ===== END ===== -/
/-! ===== BEGIN methods with a table of their own: called by a name, returning or throwing ===== -/
section VXH
/-! vx_backW, vx_callVX, vx_callSX, vx_callVW, vx_runVW, vx_runVX, vx_runSX, vx_ofWH follow the same proofs as their sisters above (Free/Laws.lean, Shelf42/LK1.lean); vx_outP calls Shelf42/NT130.lean (outThrough). -/
section
variable {l : Launch} {R : Room} {p : Program} {e : Env} {below : List Frame} {s : State} {sargs : Array Value} {y : MethodName} {len W9 : Nat}
theorem vx_backW {ws : List Cond} {rm : Room} {Pc : Array Value → State → Prop} {Qc : Array Value → State → Outcome → State → Prop} {XC : String → State → State → Prop} {mc ms : Nat} {free : Addr → Prop} {bytes : ByteArray} {maxL : Nat} {ret : Option FieldType} {hh : List (Nat × Nat × Nat × Nat)}
    (hM : vx_Met l y ws rm Pc Qc XC mc ms free) (hblind : FrameBlind Pc) (hrc : rm.cells = mc) (hrs : rm.slots = ms)
    (hframes : rm.frames + 1 ≤ R.frames) (hlocals : W9 + (maxL + 11) + rm.locals ≤ R.locals)
    (hws : ∀ w ∈ ws, ∀ a' U, s.WarmedH U.vm → w.before a' U = true) (hcode : Cond.codeWith y bytes maxL ret hh ∈ ws) (hinit : ∀ a' U, s.WarmedH U.vm → (Cond.initialized y.cls).before a' U = true) :
    vx_Back l R p e below s sargs y len W9 (PreOf R mc ms Pc) (PostOf Qc mc ms free) (vx_Post XC mc ms free) := by
  intro m meth c A g ig mk a X hg hsize hdg hW hn hp
  have h1 : (headSpec ws rm).pre.before a A.U = true := atoms_intro fun w hw => hws w hw _ _ X.warmed
  have h2 : (Cond.codeWith y bytes maxL ret hh).before a A.U = true := hws _ hcode _ _ X.warmed
  have h3 : (Cond.initialized y.cls).before a A.U = true := hinit _ _ X.warmed
  have h4 : A.cells + (headSpec ws rm).room.cells ≤ R.cells := by rw [show (headSpec ws rm).room.cells = mc from hrc]; exact hp.1
  have h5 : A.slots + (headSpec ws rm).room.slots ≤ R.slots := by rw [show (headSpec ws rm).room.slots = ms from hrs]; exact hp.2.1
  have hPc : Pc a (A.U.calling g mk a) := hblind _ _ _ _ hp.2.2
  obtain ⟨U, Ls, c0, s0⟩ := A
  dsimp only [Pt.U, Pt.locs, Pt.cells, Pt.slots] at h1 h2 h3 h4 h5 X hn hPc ⊢
  obtain ⟨m9, methY, cY, hn9, hmY, hcY, -, hlY, -⟩ := Cond.codeWith_spec h2
  cases Option.some.inj (hn9.symm.trans hn)
  obtain ⟨kY, hkY, -⟩ := className_of_methodNamed hn
  have hinitY : kY.init = .initialized := Cond.initialized_spec (findClass_of_methodNamed hn) hkY h3
  have h : At U g.method c below := by rw [hg]; exact X.here
  have hlocals9 : W9 + (maxL + 11) + (headSpec ws rm).room.locals ≤ R.locals := hlocals
  have happ : (headSpec ws rm).appliesLoose y e.platform (U.calling g mk a) = true :=
    Spec.appliesLoose_calling (g := g) h hdg hn hkY hinitY
      (X.room_calling (g := g) (R' := (headSpec ws rm).room) hsize hmY hcY hframes (by rw [hlY]; omega) h4 h5) h1
  obtain ⟨mid, hmid⟩ := h.above
  have hfr : (U.setTop g).frames = (.java g :: mid) ++ below := by rw [State.frames_setTop' g h.top, hmid]; rfl
  obtain ⟨o, s₂, hsteps, -, hend, hq⟩ := Steps.callFree hM p X.admits X.cas X.clock (acts := []) hfr happ hPc trivial
  have hq' : vx_Q Qc XC mc ms free a (U.calling g mk a) o s₂ := hq
  rw [State.frames_setTop' g h.top] at hend
  obtain ⟨g₀, hg0⟩ := Option.isSome_iff_exists.mp h.top
  obtain ⟨r, hr⟩ := State.topJava?_eq_some.mp hg0
  have hr' : (({ U with heap := s₂.heap, slotsUsed := s₂.slotsUsed } : State).setVm s₂.vm).frames = .java g₀ :: r := hr
  rcases hq' with ⟨hqc, L, hfe, hL⟩ | ⟨q, rfl, E, ce, L, hx, hce, hcv, hcl, hW₂, hsm, hL⟩
  · obtain ⟨⟨v, rfl⟩, hW₂, e2, q2, q3, q4, q5, q6⟩ := id hfe
    have e3 : s₂ = ({ (U.calling g mk a).setFrames s₂.frames with heap := s₂.heap, slotsUsed := s₂.slotsUsed } : State).setVm s₂.vm := by
      have : s₂ = ({ s₂ with vm := (U.calling g mk a).vm } : State).setVm s₂.vm := rfl
      rw [e2] at this
      exact this
    obtain ⟨c₂, i₂, len₂, hc₂, hd₂, hf₂⟩ := hend
    have hW' : U.WarmedH s₂.vm := hW₂
    have hcc : c₂ = c := by
      have h1 : s₂.code? g.method = U.code? g.method := by
        rw [State.code?_eq, State.code?_eq, hW'.alike.method?]
      exact Option.some.inj (hc₂.symm.trans (h1.trans h.code))
    subst hcc
    have hlen : len₂ = len := by rw [hdg] at hd₂; cases hd₂; rfl
    subst hlen
    have hs₂ : s₂ = (({ U with heap := s₂.heap, slotsUsed := s₂.slotsUsed } : State).setVm s₂.vm).setTop { g with pc := g.pc + len₂, stack := v.toList ++ g.stack } := by
      refine e3.trans ?_
      rw [hf₂, State.calling_eq h.top, State.setFrames_setFrames, State.setTop_of_frames _ hr', hr]
      rfl
    have hsame : U.sameButNew ({ U with heap := s₂.heap, slotsUsed := s₂.slotsUsed } : State) L mc ms := by
      refine ⟨?_, q2, q3, q4, q5, q6⟩
      obtain ⟨t, ht, -⟩ := State.frames_cons hr
      show ({ U with heap := s₂.heap, slotsUsed := s₂.slotsUsed } : State) = { U.setFrames U.frames with heap := s₂.heap, slotsUsed := s₂.slotsUsed }
      rw [State.setFrames_self ht]
    subst hg
    refine Or.inl ⟨v, ⟨(({ U with heap := s₂.heap, slotsUsed := s₂.slotsUsed } : State).setVm s₂.vm), Ls ++ L, c0 + mc, s0 + ms⟩,
      ⟨X.admits, X.cas, X.clock, X.frames, X.room, X.hears, X.method, X.code, (X.here.setHeapUsed s₂.heap s₂.slotsUsed).setVm hW'.alike, X.tail, State.WarmedH.trans X.warmed hW', X.limits, X.bytes, X.same.trans (hsame.setVm s.vm)⟩,
      ⟨g, mk, s₂, L, rfl, rfl, hqc, rfl, hL, rfl, rfl⟩, ?_⟩
    show Steps p.tables e below _ ((({ U with heap := s₂.heap, slotsUsed := s₂.slotsUsed } : State).setVm s₂.vm).setTop { g with pc := g.pc + len₂, stack := v.toList ++ g.stack })
    rw [← hs₂]
    exact hsteps
  · obtain ⟨e2, q2, q3, q4, q5, q6⟩ := id hsm
    have e3 : s₂ = ({ (U.calling g mk a).setFrames s₂.frames with heap := s₂.heap, slotsUsed := s₂.slotsUsed } : State).setVm s₂.vm := by
      have : s₂ = ({ s₂ with vm := (U.calling g mk a).vm } : State).setVm s₂.vm := rfl
      rw [e2] at this
      exact this
    have hf₂ : s₂.frames = .throwing q :: .java g :: U.frames.tail := hend
    have hW' : U.WarmedH s₂.vm := hW₂
    have hs₂ : s₂ = ((({ U with heap := s₂.heap, slotsUsed := s₂.slotsUsed } : State).setVm s₂.vm).setTop g).pushFrame (.throwing q) := by
      refine e3.trans ?_
      rw [hf₂, State.calling_eq h.top, State.setFrames_setFrames, State.pushFrame, State.frames_setTop _ hr', State.setTop_of_frames _ hr', State.setFrames_setFrames, hr]
      rfl
    have hsame : U.sameButNew ({ U with heap := s₂.heap, slotsUsed := s₂.slotsUsed } : State) L mc ms := by
      refine ⟨?_, q2, q3, q4, q5, q6⟩
      obtain ⟨t, ht, -⟩ := State.frames_cons hr
      show ({ U with heap := s₂.heap, slotsUsed := s₂.slotsUsed } : State) = { U.setFrames U.frames with heap := s₂.heap, slotsUsed := s₂.slotsUsed }
      rw [State.setFrames_self ht]
    subst hg
    refine Or.inr ⟨q, ⟨(({ U with heap := s₂.heap, slotsUsed := s₂.slotsUsed } : State).setVm s₂.vm), Ls ++ L, c0 + mc, s0 + ms⟩,
      ⟨X.admits, X.cas, X.clock, X.frames, X.room, X.hears, X.method, X.code, (X.here.setHeapUsed s₂.heap s₂.slotsUsed).setVm hW'.alike, X.tail, State.WarmedH.trans X.warmed hW', X.limits, X.bytes, X.same.trans (hsame.setVm s.vm)⟩,
      ⟨g, mk, s₂, L, E, ce, rfl, rfl, hx, hce, hcv, hcl, rfl, hL, rfl, rfl⟩, ?_⟩
    show Steps p.tables e below _ (((({ U with heap := s₂.heap, slotsUsed := s₂.slotsUsed } : State).setVm s₂.vm).setTop g).pushFrame (.throwing q))
    rw [← hs₂]
    exact hsteps
end
variable {p : Program} {l : Launch} {e : Env} {R : Room} {s : State} {m : MethodId} {args : Array Value} {below : List Frame} {meth : Method} {c : Code} {T : State} {H : Heap} {locs : List Loc} {cells slots : Nat}
theorem vx_callVX (X : Stand p l e R s m args below meth c T locs cells slots) (hexec : p.tables.exec = Jvm.exec) {own C : String} {index : Nat} {y : MethodName} {bytes : ByteArray} {maxL : Nat} {ret : Option FieldType} {hh : List (Nat × Nat × Nat × Nat)}
    (hown : s.vm.findClass own = some m.cls) (hlink : (Cond.methodLink own index y).before args s = true) (hinst : (Cond.instanceMethod y).before args s = true) (hsel : (Cond.selects C y y).before args s = true)
    (hcode : (Cond.codeWith y bytes maxL ret hh).before args s = true) (hy : y.cls ≠ "java/lang/invoke/MethodHandle" ∧ y.cls ≠ "java/lang/invoke/VarHandle")
    {W9 : Nat} {Pre : Pt → Array Value → Prop} {Post : Pt → Array Value → Option Value → Pt → Prop} {PostX : Pt → Array Value → Addr → Pt → Prop} (hK : vx_Back l R p e below s args y 3 W9 Pre Post PostX)
    {b : Addr} {cellB : Cell} (hcell : T.heap[b]? = some cellB) (hobj : cellB.vm.isStatics = false) (hcls : s.vm.findClass C = some cellB.cls)
    {g : JFrame} (hg : g.method = m) (hsize : g.locals.size = c.maxLocals) {argsL rest : List Value} (hlen : ∀ sig, parseMethodDescriptor y.desc = some sig → argsL.length = sig.parameters.length)
    (hstack : g.stack = argsL.reverse ++ .ref b :: rest) (hW : 2 * g.monitorRoom + (rest.map fun v => v.category).sum ≤ W9) (hdg : decode c.code g.pc = .ok (.invokevirtual index, 3))
    (hpre : ∀ vm₁, s.WarmedH vm₁ → Pre ⟨T.setVm vm₁, locs, cells, slots⟩ (Value.ref b :: argsL).toArray) :
    (∃ (v : Option Value) (vm₁ : Vm) (B : Pt), s.WarmedH vm₁ ∧ Stand p l e R s m args below meth c B.U B.locs B.cells B.slots ∧ Post ⟨T.setVm vm₁, locs, cells, slots⟩ (Value.ref b :: argsL).toArray v B ∧
      ∀ target, Steps p.tables e below (B.U.setTop { g with pc := g.pc + 3, stack := v.toList ++ rest }) target → Steps p.tables e below (T.setTop g) target) ∨
    (∃ (q : Addr) (vm₁ : Vm) (B : Pt), s.WarmedH vm₁ ∧ Stand p l e R s m args below meth c B.U B.locs B.cells B.slots ∧ PostX ⟨T.setVm vm₁, locs, cells, slots⟩ (Value.ref b :: argsL).toArray q B ∧
      Steps p.tables e below (T.setTop g) ((B.U.setTop { g with stack := rest }).pushFrame (.throwing q))) := by
  obtain ⟨mk, methM, hnamed, hmethM, hstM, habM⟩ := Cond.instanceMethod_spec hinst
  obtain ⟨m8, methM', cM, hn8, hmethM', -, -, -, -, -, -, hsigM⟩ := Cond.codeWith_spec hcode
  cases Option.some.inj (hn8.symm.trans hnamed)
  cases hmethM.symm.trans hmethM'
  obtain ⟨c2, r2, m2, q1, q2, q3, q4, kP, hkP, hkPi⟩ := Cond.selects_spec hsel
  cases hcls.symm.trans q1
  cases (State.methodFound?_of_named hnamed hy).symm.trans q2
  cases hnamed.symm.trans q3
  have hselP : selectMethod e.platform s.vm cellB.cls mk = .method mk := by rw [Launch.admits_selectMethod X.admits]; exact q4
  obtain ⟨vm₁, X₁, hstep₁⟩ := X.invokevirtual hexec hown hlink hnamed hmethM hstM hkP hkPi hy (a := b) (cell := cellB) hcell
    (fun z h => by rw [h] at hobj; cases hobj) hselP hmethM habM hkP hkPi (g := g) hg (argsL := argsL) (rest := rest) (hlen _ hsigM) hstack hdg
  rcases hK m meth c ⟨T.setVm vm₁, locs, cells, slots⟩ { g with stack := rest } (.invokevirtual index) mk (Value.ref b :: argsL).toArray X₁ hg hsize hdg hW (X₁.named hnamed) (hpre vm₁ X₁.warmed) with ⟨v, B, X', hpost, hsteps⟩ | ⟨q, B, X', hpost, hsteps⟩
  · exact Or.inl ⟨v, vm₁, B, X₁.warmed, X', hpost, fun target h => hstep₁ _ fun acts => by rw [doInvoke_state]; exact hsteps.trans h⟩
  · exact Or.inr ⟨q, vm₁, B, X₁.warmed, X', hpost, hstep₁ _ fun acts => by rw [doInvoke_state]; exact hsteps⟩
theorem vx_callSX (X : Stand p l e R s m args below meth c T locs cells slots) (hexec : p.tables.exec = Jvm.exec) {own : String} {index : Nat} {y : MethodName} {bytes : ByteArray} {maxL : Nat} {ret : Option FieldType} {hh : List (Nat × Nat × Nat × Nat)}
    (hown : s.vm.findClass own = some m.cls) (hlink : (Cond.methodLink own index y).before args s = true) (hstat : (Cond.static y).before args s = true) (hinit : (Cond.initialized y.cls).before args s = true)
    (hcode : (Cond.codeWith y bytes maxL ret hh).before args s = true) (hy : y.cls ≠ "java/lang/invoke/MethodHandle" ∧ y.cls ≠ "java/lang/invoke/VarHandle")
    {W9 : Nat} {Pre : Pt → Array Value → Prop} {Post : Pt → Array Value → Option Value → Pt → Prop} {PostX : Pt → Array Value → Addr → Pt → Prop} (hK : vx_Back l R p e below s args y 3 W9 Pre Post PostX)
    {g : JFrame} (hg : g.method = m) (hsize : g.locals.size = c.maxLocals) {argsL rest : List Value} (hlen : ∀ sig, parseMethodDescriptor y.desc = some sig → argsL.length = sig.parameters.length)
    (hstack : g.stack = argsL.reverse ++ rest) (hW : 2 * g.monitorRoom + (rest.map fun v => v.category).sum ≤ W9) (hdg : decode c.code g.pc = .ok (.invokestatic index, 3))
    (hpre : ∀ vm₁, s.WarmedH vm₁ → Pre ⟨T.setVm vm₁, locs, cells, slots⟩ argsL.toArray) :
    (∃ (v : Option Value) (vm₁ : Vm) (B : Pt), s.WarmedH vm₁ ∧ Stand p l e R s m args below meth c B.U B.locs B.cells B.slots ∧ Post ⟨T.setVm vm₁, locs, cells, slots⟩ argsL.toArray v B ∧
      ∀ target, Steps p.tables e below (B.U.setTop { g with pc := g.pc + 3, stack := v.toList ++ rest }) target → Steps p.tables e below (T.setTop g) target) ∨
    (∃ (q : Addr) (vm₁ : Vm) (B : Pt), s.WarmedH vm₁ ∧ Stand p l e R s m args below meth c B.U B.locs B.cells B.slots ∧ PostX ⟨T.setVm vm₁, locs, cells, slots⟩ argsL.toArray q B ∧
      Steps p.tables e below (T.setTop g) ((B.U.setTop { g with stack := rest }).pushFrame (.throwing q))) := by
  obtain ⟨mk, methM, cM, hnamed, hmethM, -, -, -, -, -, -, hsigM⟩ := Cond.codeWith_spec hcode
  have hstatic : methM.isStatic = true := Cond.static_spec hnamed hmethM hstat
  obtain ⟨kP, hkP, -⟩ := className_of_methodNamed hnamed
  have hinitP : kP.init = .initialized := Cond.initialized_spec (findClass_of_methodNamed hnamed) hkP hinit
  obtain ⟨vm₁, X₁, hstep₁⟩ := X.invokestatic hexec hown hlink hnamed hmethM hstatic hkP hinitP hy (g := g) hg (argsL := argsL) (rest := rest) (hlen _ hsigM) hstack hdg
  rcases hK m meth c ⟨T.setVm vm₁, locs, cells, slots⟩ { g with stack := rest } (.invokestatic index) mk argsL.toArray X₁ hg hsize hdg hW (X₁.named hnamed) (hpre vm₁ X₁.warmed) with ⟨v, B, X', hpost, hsteps⟩ | ⟨q, B, X', hpost, hsteps⟩
  · exact Or.inl ⟨v, vm₁, B, X₁.warmed, X', hpost, fun target h => hstep₁ _ fun acts => by rw [doInvoke_state]; exact hsteps.trans h⟩
  · exact Or.inr ⟨q, vm₁, B, X₁.warmed, X', hpost, hstep₁ _ fun acts => by rw [doInvoke_state]; exact hsteps⟩
theorem vx_callVW (X : Stand p l e R s m args below meth c T locs cells slots) (hexec : p.tables.exec = Jvm.exec) {own C : String} {index : Nat} {y : MethodName} {bytes : ByteArray} {maxL : Nat} {ret : Option FieldType} {hh : List (Nat × Nat × Nat × Nat)}
    (hown : s.vm.findClass own = some m.cls) (hlink : (Cond.methodLink own index y).before args s = true) (hinst : (Cond.instanceMethod y).before args s = true) (hsel : (Cond.selects C y y).before args s = true)
    (hcode : (Cond.codeWith y bytes maxL ret hh).before args s = true) (hy : y.cls ≠ "java/lang/invoke/MethodHandle" ∧ y.cls ≠ "java/lang/invoke/VarHandle")
    {W9 : Nat} {Pre : Pt → Array Value → Prop} {Post : Pt → Array Value → Option Value → Pt → Prop} (hK : Back l R p e below s args y 3 W9 Pre Post)
    {b : Addr} {cellB : Cell} (hcell : T.heap[b]? = some cellB) (hobj : cellB.vm.isStatics = false) (hcls : s.vm.findClass C = some cellB.cls)
    {g : JFrame} (hg : g.method = m) (hsize : g.locals.size = c.maxLocals) {argsL rest : List Value} (hlen : ∀ sig, parseMethodDescriptor y.desc = some sig → argsL.length = sig.parameters.length)
    (hstack : g.stack = argsL.reverse ++ .ref b :: rest) (hW : 2 * g.monitorRoom + (rest.map fun v => v.category).sum ≤ W9) (hdg : decode c.code g.pc = .ok (.invokevirtual index, 3))
    (hpre : ∀ vm₁, s.WarmedH vm₁ → Pre ⟨T.setVm vm₁, locs, cells, slots⟩ (Value.ref b :: argsL).toArray) :
    ∃ (v : Option Value) (vm₁ : Vm) (B : Pt), s.WarmedH vm₁ ∧ Stand p l e R s m args below meth c B.U B.locs B.cells B.slots ∧ Post ⟨T.setVm vm₁, locs, cells, slots⟩ (Value.ref b :: argsL).toArray v B ∧
      ∀ target, Steps p.tables e below (B.U.setTop { g with pc := g.pc + 3, stack := v.toList ++ rest }) target → Steps p.tables e below (T.setTop g) target := by
  obtain ⟨mk, methM, hnamed, hmethM, hstM, habM⟩ := Cond.instanceMethod_spec hinst
  obtain ⟨m8, methM', cM, hn8, hmethM', -, -, -, -, -, -, hsigM⟩ := Cond.codeWith_spec hcode
  cases Option.some.inj (hn8.symm.trans hnamed)
  cases hmethM.symm.trans hmethM'
  obtain ⟨c2, r2, m2, q1, q2, q3, q4, kP, hkP, hkPi⟩ := Cond.selects_spec hsel
  cases hcls.symm.trans q1
  cases (State.methodFound?_of_named hnamed hy).symm.trans q2
  cases hnamed.symm.trans q3
  have hselP : selectMethod e.platform s.vm cellB.cls mk = .method mk := by rw [Launch.admits_selectMethod X.admits]; exact q4
  obtain ⟨vm₁, X₁, hstep₁⟩ := X.invokevirtual hexec hown hlink hnamed hmethM hstM hkP hkPi hy (a := b) (cell := cellB) hcell
    (fun z h => by rw [h] at hobj; cases hobj) hselP hmethM habM hkP hkPi (g := g) hg (argsL := argsL) (rest := rest) (hlen _ hsigM) hstack hdg
  obtain ⟨v, B, X', hpost, hsteps⟩ := hK m meth c ⟨T.setVm vm₁, locs, cells, slots⟩ { g with stack := rest } (.invokevirtual index) mk (Value.ref b :: argsL).toArray X₁ hg hsize hdg hW (X₁.named hnamed) (hpre vm₁ X₁.warmed)
  exact ⟨v, vm₁, B, X₁.warmed, X', hpost, fun target h => hstep₁ _ fun acts => by rw [doInvoke_state]; exact hsteps.trans h⟩
abbrev vx_CVW (R : Room) (s : State) (args : Array Value) (own C : String) (index : Nat) (y : MethodName) (bytes : ByteArray) (maxL : Nat) (ret : Option FieldType) (hh : List (Nat × Nat × Nat × Nat)) (ws : List Cond) (rm : Room) (mc ms n : Nat) : Prop :=
  (rm.cells = mc ∧ rm.slots = ms ∧ rm.frames + 1 ≤ R.frames ∧ 8 + (maxL + 11) + rm.locals ≤ R.locals ∧ (∀ w ∈ ws, ∀ (a' : Array Value) (U : State), s.WarmedH U.vm → w.before a' U = true) ∧ Cond.codeWith y bytes maxL ret hh ∈ ws) ∧
  (Cond.codeWith y bytes maxL ret hh).before args s = true ∧ (Cond.initialized y.cls).before args s = true ∧ (y.cls ≠ "java/lang/invoke/MethodHandle" ∧ y.cls ≠ "java/lang/invoke/VarHandle") ∧
  (∀ sig, parseMethodDescriptor y.desc = some sig → n = sig.parameters.length) ∧ (Cond.methodLink own index y).before args s = true ∧ (Cond.instanceMethod y).before args s = true ∧ (Cond.selects C y y).before args s = true
theorem vx_cwVW {own C : String} {index maxL mc ms : Nat} {y : MethodName} {bytes : ByteArray} {ret : Option FieldType} {hh : List (Nat × Nat × Nat × Nat)} {Ts ws ws' : List Cond} {rm : Room} (n : Nat) (ht : ∀ w ∈ Ts, w.before args s = true) (hT : GoodIn Ts (wsV own index C y ws)) (hw : ws = Cond.codeWith y bytes maxL ret hh :: ws') (hrc : rm.cells = mc) (hrs : rm.slots = ms)
    (hd : y.cls = C ∧ y.cls ≠ "java/lang/invoke/MethodHandle" ∧ y.cls ≠ "java/lang/invoke/VarHandle" ∧ (parseMethodDescriptor y.desc).map (fun d => d.parameters.length) = some n) (hR : rm.frames + 1 ≤ R.frames ∧ 8 + (maxL + 11) + rm.locals ≤ R.locals) :
    vx_CVW R s args own C index y bytes maxL ret hh ws rm mc ms n := by
  obtain ⟨hC, hd⟩ := hd
  subst hC
  have ok : ∀ w ∈ wsV own index y.cls y ws, w.before args s = true := fun w h => ht w (hT w h).1
  have hG : GoodIn Ts ws := fun w h => hT w (by unfold wsV; exact List.mem_append_right _ h)
  have hc : Cond.codeWith y bytes maxL ret hh ∈ ws := by rw [hw]; exact List.mem_cons_self
  refine ⟨⟨hrc, hrs, hR.1, hR.2, pay_in ht hG, hc⟩, ht _ (hG _ hc).1, ok _ (by simp [wsV]), ⟨hd.1, hd.2.1⟩, fun sig h => ?_, ok _ (by simp [wsV]), ok _ (by simp [wsV]), ok _ (by simp [wsV])⟩
  have h2 := hd.2.2
  rw [h] at h2
  exact (Option.some.inj h2).symm
theorem vx_runVW {y : MethodName} {bytes cc : ByteArray} {maxL nL mc ms n index : Nat} {ret : Option FieldType} {hh : List (Nat × Nat × Nat × Nat)} {ws : List Cond} {rm : Room} {Pc : Array Value → State → Prop} {Qc : Array Value → State → Outcome → State → Prop} {free : Addr → Prop} {Ts : List Cond} {own C : String} {b : Addr} {As rest : List Value} {g : JFrame}
    (S : CallFix p m c cc nL s args Ts own) (hM : Met l y ws rm Pc Qc mc ms free) (cw : vx_CVW R s args own C index y bytes maxL ret hh ws rm mc ms n) (hp : PreV s H C b Pc As)
    (hg : g.method = m) (hn : As.length = n) (hsize : g.locals.size = nL) (hstack : g.stack = As.reverse ++ .ref b :: rest) (hW : 2 * g.monitorRoom + (rest.map fun v => v.category).sum ≤ 8) (hdg : decode cc g.pc = .ok (.invokevirtual index, 3)) (hf : cells + mc ≤ R.cells ∧ slots + ms ≤ R.slots) :
    va_Run p l e R s m args below meth c H locs cells slots mc ms g rest (Qc (Value.ref b :: As).toArray) free := by
  obtain ⟨⟨hrc, hrs, hfr, hlo, hws, hcw⟩, hcode, hini, hy, hlen, hl, hin, hse⟩ := cw
  have hK : Back l R p e below s args y 3 8 (PreOf R mc ms Pc) (PostOf Qc mc ms free) := va_backW (hh := hh) (bytes := bytes) (maxL := maxL) (ret := ret) hM hp.1 hrc hrs hfr hlo hws hcw (fun a' U hW => word_at hW (Or.inl (by first | rfl | simp [Cond.onTables, Cond.keeps, Cond.steady])) hini)
  obtain ⟨hx, hb, hml, ho, -⟩ := S
  obtain ⟨-, ⟨cellB, hcB, hoB, hclB⟩, hPc⟩ := hp
  intro T hT X
  obtain ⟨v, vm₁, ⟨U', l2, c2, s2⟩, hW₁, X', ⟨g', mk, t, L, e1, e2, hq, h1, hL, h2, h3⟩, st⟩ := vx_callVW X hx (C := C) (hh := hh) (bytes := bytes) (maxL := maxL) (ret := ret) ho hl hin hse hcode hy hK (by rw [hT]; exact hcB) hoB hclB hg (hsize.trans hml.symm) (argsL := As) (rest := rest) (fun sig h => hn.trans (hlen sig h)) hstack hW (by rw [hb]; exact hdg)
    (fun vm₁ hW₁ => ⟨hf.1, hf.2, hPc (T.setVm vm₁) hT hW₁⟩)
  dsimp only [Pt.U, Pt.locs, Pt.cells, Pt.slots] at X' e1 e2 h1 h2 h3 st
  subst h1; subst h2; subst h3
  exact ⟨v, (T.setVm vm₁).calling g' mk (Value.ref b :: As).toArray, t, U', L, hT, X', hL, e1, e2, hq, st⟩
section
variable {y : MethodName} {bytes cc : ByteArray} {maxL nL mc ms n index : Nat} {ret : Option FieldType} {ws : List Cond} {rm : Room} {Pc : Array Value → State → Prop} {Qc : Array Value → State → Outcome → State → Prop} {XC : String → State → State → Prop} {free : Addr → Prop} {Ts : List Cond} {own C : String} {b : Addr} {As rest : List Value} {g : JFrame}
theorem vx_runVX {hh : List (Nat × Nat × Nat × Nat)} (S : CallFix p m c cc nL s args Ts own) (hM : vx_Met l y ws rm Pc Qc XC mc ms free) (cw : vx_CVW R s args own C index y bytes maxL ret hh ws rm mc ms n) (hp : PreV s H C b Pc As)
    (hg : g.method = m) (hn : As.length = n) (hsize : g.locals.size = nL) (hstack : g.stack = As.reverse ++ .ref b :: rest) (hW : 2 * g.monitorRoom + (rest.map fun v => v.category).sum ≤ 8) (hdg : decode cc g.pc = .ok (.invokevirtual index, 3)) (hf : cells + mc ≤ R.cells ∧ slots + ms ≤ R.slots) :
    vx_Run p l e R s m args below meth c H locs cells slots mc ms g rest (Qc (Value.ref b :: As).toArray) XC free := by
  obtain ⟨⟨hrc, hrs, hfr, hlo, hws, hcw⟩, hcode, hini, hy, hlen, hl, hin, hse⟩ := cw
  have hK : vx_Back l R p e below s args y 3 8 (PreOf R mc ms Pc) (PostOf Qc mc ms free) (vx_Post XC mc ms free) := vx_backW (hh := hh) (bytes := bytes) (maxL := maxL) (ret := ret) hM hp.1 hrc hrs hfr hlo hws hcw (fun a' U hW => word_at hW (Or.inl (by first | rfl | simp [Cond.onTables, Cond.keeps, Cond.steady])) hini)
  obtain ⟨hx, hb, hml, ho, -⟩ := S
  obtain ⟨-, ⟨cellB, hcB, hoB, hclB⟩, hPc⟩ := hp
  intro T hT X
  rcases vx_callVX X hx (C := C) (hh := hh) (bytes := bytes) (maxL := maxL) (ret := ret) ho hl hin hse hcode hy hK (by rw [hT]; exact hcB) hoB hclB hg (hsize.trans hml.symm) (argsL := As) (rest := rest) (fun sig h => hn.trans (hlen sig h)) hstack hW (by rw [hb]; exact hdg)
    (fun vm₁ hW₁ => ⟨hf.1, hf.2, hPc (T.setVm vm₁) hT hW₁⟩) with ⟨v, vm₁, ⟨U', l2, c2, s2⟩, hW₁, X', ⟨g', mk, t, L, e1, e2, hq, h1, hL, h2, h3⟩, st⟩ | ⟨q, vm₁, ⟨U', l2, c2, s2⟩, hW₁, X', ⟨g', mk, t, L, E, ce, e1, e2, hq, hce, hcv, hcl, h1, hL, h2, h3⟩, st⟩
  · dsimp only [Pt.U, Pt.locs, Pt.cells, Pt.slots] at X' e1 e2 h1 h2 h3 st
    subst h1; subst h2; subst h3
    exact Or.inl ⟨v, (T.setVm vm₁).calling g' mk (Value.ref b :: As).toArray, t, U', L, hT, X', hL, e1, e2, hq, st⟩
  · dsimp only [Pt.U, Pt.locs, Pt.cells, Pt.slots] at X' e1 e2 h1 h2 h3 st hcl
    subst h1; subst h2; subst h3
    exact Or.inr ⟨q, (T.setVm vm₁).calling g' mk (Value.ref b :: As).toArray, t, U', L, E, ce, hT, X', hL, e1, e2, hq, hce, hcv, vx_cls hW₁ hcl, st⟩
theorem vx_runSX {hh : List (Nat × Nat × Nat × Nat)} (S : CallFix p m c cc nL s args Ts own) (hM : vx_Met l y ws rm Pc Qc XC mc ms free) (cw : vx_CSW R s args own index y bytes maxL ret hh ws rm mc ms n) (hp : PreS s H Pc As)
    (hg : g.method = m) (hn : As.length = n) (hsize : g.locals.size = nL) (hstack : g.stack = As.reverse ++ rest) (hW : 2 * g.monitorRoom + (rest.map fun v => v.category).sum ≤ 8) (hdg : decode cc g.pc = .ok (.invokestatic index, 3)) (hf : cells + mc ≤ R.cells ∧ slots + ms ≤ R.slots) :
    vx_Run p l e R s m args below meth c H locs cells slots mc ms g rest (Qc As.toArray) XC free := by
  obtain ⟨⟨hrc, hrs, hfr, hlo, hws, hcw⟩, hcode, hini, hy, hlen, hl, hstt⟩ := cw
  have hK : vx_Back l R p e below s args y 3 8 (PreOf R mc ms Pc) (PostOf Qc mc ms free) (vx_Post XC mc ms free) := vx_backW (hh := hh) (bytes := bytes) (maxL := maxL) (ret := ret) hM hp.1 hrc hrs hfr hlo hws hcw (fun a' U hW => word_at hW (Or.inl (by first | rfl | simp [Cond.onTables, Cond.keeps, Cond.steady])) hini)
  obtain ⟨hx, hb, hml, ho, -⟩ := S
  intro T hT X
  rcases vx_callSX X hx (hh := hh) (bytes := bytes) (maxL := maxL) (ret := ret) ho hl hstt hini hcode hy hK hg (hsize.trans hml.symm) (argsL := As) (rest := rest) (fun sig h => hn.trans (hlen sig h)) hstack hW (by rw [hb]; exact hdg)
    (fun vm₁ hW₁ => ⟨hf.1, hf.2, hp.2 (T.setVm vm₁) hT hW₁⟩) with ⟨v, vm₁, ⟨U', l2, c2, s2⟩, hW₁, X', ⟨g', mk, t, L, e1, e2, hq, h1, hL, h2, h3⟩, st⟩ | ⟨q, vm₁, ⟨U', l2, c2, s2⟩, hW₁, X', ⟨g', mk, t, L, E, ce, e1, e2, hq, hce, hcv, hcl, h1, hL, h2, h3⟩, st⟩
  · dsimp only [Pt.U, Pt.locs, Pt.cells, Pt.slots] at X' e1 e2 h1 h2 h3 st
    subst h1; subst h2; subst h3
    exact Or.inl ⟨v, (T.setVm vm₁).calling g' mk As.toArray, t, U', L, hT, X', hL, e1, e2, hq, st⟩
  · dsimp only [Pt.U, Pt.locs, Pt.cells, Pt.slots] at X' e1 e2 h1 h2 h3 st hcl
    subst h1; subst h2; subst h3
    exact Or.inr ⟨q, (T.setVm vm₁).calling g' mk As.toArray, t, U', L, E, ce, hT, X', hL, e1, e2, hq, hce, hcv, vx_cls hW₁ hcl, st⟩
end
end VXH
theorem vx_ofWH {l : Launch} {y : MethodName} {ws ws' : List Cond} {rm : Room} {Pc : Array Value → State → Prop} {Qc : Array Value → State → Outcome → State → Prop} {XC : String → State → State → Prop} {mc ms : Nat} {free : Addr → Prop} {cc : ByteArray} {maxL : Nat} {ret : Option FieldType} {hh : List (Nat × Nat × Nat × Nat)}
    (hy : plainName y.cls = true) (hw : ws = Cond.codeWith y cc maxL ret hh :: ws')
    (body : ∀ p e s m args below meth c s₁, BodyLoose p l y (headSpec ws rm) cc maxL ret e s m args below meth c s₁ → c.maxLocals = maxL → Pc args s →
      W p l e (headSpec ws rm).room s m args below meth c s.heap [] 0 0 (vx_MQ below Qc XC args s mc ms free) (entryFrame m args maxL)) : vx_Met l y ws rm Pc Qc XC mc ms free := by
  refine MetFree.of_bodyS (code := cc) (maxLocals := maxL) (ret := ret) hy ?_ ?_
  · intro args s m h hn
    obtain ⟨m9, meth, c, hn9, h1, h2, h3, h4, -, h5, h6, -⟩ := Cond.codeWith_spec (atoms_spec (ws := ws) h _ (by rw [hw]; exact List.mem_cons_self))
    cases hn.symm.trans hn9
    exact ⟨meth, c, h1, h2, h3, h4, h5, h6⟩
  · intro p e s m args below meth c s₁ B hml hP _
    have hh0 : s₁.heap = s.heap := by rw [B.state]; rfl
    obtain ⟨t, a1, o, b1, b2, b3⟩ := body p e s m args below meth c s₁ B hml hP s₁ hh0 (Stand.of_body B)
    exact ⟨t, o, a1, b1, b2, b3⟩
/-! ===== END ===== -/
end
section
/-! ===== BEGIN printed: names, fields, word lists, decode rows ===== -/
def RX0 : String := "FountainCode$Drop"
def TX0 : u_T := fun k => match k with
  | 0 => ("FountainCode$Drop", "row", "[I", true)
  | 1 => ("FountainCode$Drop", "generator", "J", false)
  | 2 => ("FountainCode$Drop", "size", "I", false)
  | _ => ("FountainCode$Drop", "blockSet", "J", false)
def tyX0 : Nat → FieldType := fun k => match k with
  | 0 => .array .int
  | 1 => .long
  | 2 => .int
  | _ => .long
abbrev wsX00 : List Cond := u_ws RX0 TX0 4
theorem nmX0 : ∀ a, a < 4 → ∀ b, b < 4 → a ≠ b → (TX0 a).2.1 ≠ (TX0 b).2.1 := by decide +kernel
theorem tyX0_ok : ∀ k, k < 4 → parseFieldDescriptor (TX0 k).2.2.1 = some (tyX0 k) := by decide +kernel
abbrev cX0_init : ByteArray := prog_2_method_1_code
def yX0_init : MethodName := ⟨RX0, "<init>", "()V"⟩
abbrev cX0_draw : ByteArray := prog_2_method_2_code
def yX0_draw : MethodName := ⟨RX0, "draw", "(ILFountainCode$Weights;I)V"⟩
abbrev cX0_size : ByteArray := prog_2_method_3_code
def yX0_size : MethodName := ⟨RX0, "size", "()I"⟩
abbrev cX0_blockSet : ByteArray := prog_2_method_4_code
def yX0_blockSet : MethodName := ⟨RX0, "blockSet", "()J"⟩
abbrev cX0_blockInPlace : ByteArray := prog_2_method_5_code
def yX0_blockInPlace : MethodName := ⟨RX0, "blockInPlace", "(I)I"⟩
abbrev cX0_numberBelow : ByteArray := prog_2_method_6_code
def yX0_numberBelow : MethodName := ⟨RX0, "numberBelow", "(I)I"⟩
abbrev cX0_lineUp : ByteArray := prog_2_method_7_code
def yX0_lineUp : MethodName := ⟨RX0, "lineUp", "(I)V"⟩
abbrev cX0_swap : ByteArray := prog_2_method_8_code
def yX0_swap : MethodName := ⟨RX0, "swap", "(II)V"⟩
def RX1 : String := "FountainCode$Elimination"
def TX1 : u_T := fun k => match k with
  | 0 => ("FountainCode$Elimination", "rows", "[J", true)
  | 1 => ("FountainCode$Elimination", "values", "[I", true)
  | _ => ("FountainCode$Elimination", "rowCount", "I", false)
def tyX1 : Nat → FieldType := fun k => match k with
  | 0 => .array .long
  | 1 => .array .int
  | _ => .int
abbrev wsX10 : List Cond := u_ws RX1 TX1 3
theorem nmX1 : ∀ a, a < 3 → ∀ b, b < 3 → a ≠ b → (TX1 a).2.1 ≠ (TX1 b).2.1 := by decide +kernel
theorem tyX1_ok : ∀ k, k < 3 → parseFieldDescriptor (TX1 k).2.2.1 = some (tyX1 k) := by decide +kernel
abbrev cX1_init : ByteArray := prog_3_method_1_code
def yX1_init : MethodName := ⟨RX1, "<init>", "()V"⟩
abbrev cX1_clear : ByteArray := prog_3_method_2_code
def yX1_clear : MethodName := ⟨RX1, "clear", "()V"⟩
abbrev cX1_rowCount : ByteArray := prog_3_method_3_code
def yX1_rowCount : MethodName := ⟨RX1, "rowCount", "()I"⟩
abbrev cX1_remainder : ByteArray := prog_3_method_4_code
def yX1_remainder : MethodName := ⟨RX1, "remainder", "(J)J"⟩
abbrev cX1_knownValue : ByteArray := prog_3_method_5_code
def yX1_knownValue : MethodName := ⟨RX1, "knownValue", "(J)I"⟩
abbrev cX1_contradicts : ByteArray := prog_3_method_6_code
def yX1_contradicts : MethodName := ⟨RX1, "contradicts", "(JI)Z"⟩
abbrev cX1_fixes : ByteArray := prog_3_method_7_code
def yX1_fixes : MethodName := ⟨RX1, "fixes", "(I)Z"⟩
abbrev cX1_countLeaving : ByteArray := prog_3_method_8_code
def yX1_countLeaving : MethodName := ⟨RX1, "countLeaving", "(JI)I"⟩
abbrev cX1_addEquation : ByteArray := prog_3_method_9_code
def yX1_addEquation : MethodName := ⟨RX1, "addEquation", "(JI)V"⟩
abbrev cX1_remainderOfBlock : ByteArray := prog_3_method_10_code
def yX1_remainderOfBlock : MethodName := ⟨RX1, "remainderOfBlock", "(I)J"⟩
def RX2 : String := "FountainCode$Peeler"
def TX2 : u_T := fun k => match k with
  | 0 => ("FountainCode$Peeler", "equationSets", "[J", true)
  | 1 => ("FountainCode$Peeler", "equationCount", "I", false)
  | 2 => ("FountainCode$Peeler", "peelOrder", "[I", true)
  | 3 => ("FountainCode$Peeler", "peelEquations", "[I", true)
  | 4 => ("FountainCode$Peeler", "peeledCount", "I", false)
  | _ => ("FountainCode$Peeler", "peeledSet", "J", false)
def tyX2 : Nat → FieldType := fun k => match k with
  | 0 => .array .long
  | 1 => .int
  | 2 => .array .int
  | 3 => .array .int
  | 4 => .int
  | _ => .long
abbrev wsX20 : List Cond := u_ws RX2 TX2 6
theorem nmX2 : ∀ a, a < 6 → ∀ b, b < 6 → a ≠ b → (TX2 a).2.1 ≠ (TX2 b).2.1 := by decide +kernel
theorem tyX2_ok : ∀ k, k < 6 → parseFieldDescriptor (TX2 k).2.2.1 = some (tyX2 k) := by decide +kernel
abbrev cX2_init : ByteArray := prog_4_method_1_code
def yX2_init : MethodName := ⟨RX2, "<init>", "()V"⟩
abbrev cX2_clear : ByteArray := prog_4_method_2_code
def yX2_clear : MethodName := ⟨RX2, "clear", "()V"⟩
abbrev cX2_addEquation : ByteArray := prog_4_method_3_code
def yX2_addEquation : MethodName := ⟨RX2, "addEquation", "(J)V"⟩
abbrev cX2_peelOn : ByteArray := prog_4_method_4_code
def yX2_peelOn : MethodName := ⟨RX2, "peelOn", "()I"⟩
abbrev cX2_equationCount : ByteArray := prog_4_method_5_code
def yX2_equationCount : MethodName := ⟨RX2, "equationCount", "()I"⟩
abbrev cX2_peeledCount : ByteArray := prog_4_method_6_code
def yX2_peeledCount : MethodName := ⟨RX2, "peeledCount", "()I"⟩
abbrev cX2_peeledInPlace : ByteArray := prog_4_method_7_code
def yX2_peeledInPlace : MethodName := ⟨RX2, "peeledInPlace", "(I)I"⟩
abbrev cX2_equationThatPeeled : ByteArray := prog_4_method_8_code
def yX2_equationThatPeeled : MethodName := ⟨RX2, "equationThatPeeled", "(I)I"⟩
abbrev cX2_lowestReady : ByteArray := prog_4_method_9_code
def yX2_lowestReady : MethodName := ⟨RX2, "lowestReady", "()I"⟩
abbrev cX2_peelWith : ByteArray := prog_4_method_10_code
def yX2_peelWith : MethodName := ⟨RX2, "peelWith", "(I)V"⟩
def RX3 : String := "FountainCode$Sender"
def TX3 : u_T := fun k => match k with
  | 0 => ("FountainCode$Sender", "sourceValues", "[I", true)
  | 1 => ("FountainCode$Sender", "sources", "I", false)
  | _ => ("FountainCode$Sender", "parities", "I", false)
def tyX3 : Nat → FieldType := fun k => match k with
  | 0 => .array .int
  | 1 => .int
  | _ => .int
abbrev wsX30 : List Cond := u_ws RX3 TX3 3
theorem nmX3 : ∀ a, a < 3 → ∀ b, b < 3 → a ≠ b → (TX3 a).2.1 ≠ (TX3 b).2.1 := by decide +kernel
theorem tyX3_ok : ∀ k, k < 3 → parseFieldDescriptor (TX3 k).2.2.1 = some (tyX3 k) := by decide +kernel
abbrev cX3_init : ByteArray := prog_5_method_1_code
def yX3_init : MethodName := ⟨RX3, "<init>", "()V"⟩
abbrev cX3_begin : ByteArray := prog_5_method_2_code
def yX3_begin : MethodName := ⟨RX3, "begin", "(II)V"⟩
abbrev cX3_sourceCount : ByteArray := prog_5_method_3_code
def yX3_sourceCount : MethodName := ⟨RX3, "sourceCount", "()I"⟩
abbrev cX3_parityCount : ByteArray := prog_5_method_4_code
def yX3_parityCount : MethodName := ⟨RX3, "parityCount", "()I"⟩
abbrev cX3_blockCount : ByteArray := prog_5_method_5_code
def yX3_blockCount : MethodName := ⟨RX3, "blockCount", "()I"⟩
abbrev cX3_change : ByteArray := prog_5_method_6_code
def yX3_change : MethodName := ⟨RX3, "change", "(II)V"⟩
abbrev cX3_coveredBy : ByteArray := prog_5_method_7_code
def yX3_coveredBy : MethodName := ⟨RX3, "coveredBy", "(I)J"⟩
abbrev cX3_valueOfBlock : ByteArray := prog_5_method_8_code
def yX3_valueOfBlock : MethodName := ⟨RX3, "valueOfBlock", "(I)I"⟩
abbrev cX3_valueOfSet : ByteArray := prog_5_method_9_code
def yX3_valueOfSet : MethodName := ⟨RX3, "valueOfSet", "(J)I"⟩
abbrev cX3_valueOfSources : ByteArray := prog_5_method_10_code
def yX3_valueOfSources : MethodName := ⟨RX3, "valueOfSources", "(J)I"⟩
def RX4 : String := "FountainCode$Weights"
def TX4 : u_T := fun k => match k with
  | _ => ("FountainCode$Weights", "list", "[I", true)
def tyX4 : Nat → FieldType := fun k => match k with
  | _ => .array .int
abbrev wsX40 : List Cond := u_ws RX4 TX4 1
theorem nmX4 : ∀ a, a < 1 → ∀ b, b < 1 → a ≠ b → (TX4 a).2.1 ≠ (TX4 b).2.1 := by decide +kernel
theorem tyX4_ok : ∀ k, k < 1 → parseFieldDescriptor (TX4 k).2.2.1 = some (tyX4 k) := by decide +kernel
abbrev cX4_init : ByteArray := prog_6_method_1_code
def yX4_init : MethodName := ⟨RX4, "<init>", "()V"⟩
abbrev cX4_sum : ByteArray := prog_6_method_2_code
def yX4_sum : MethodName := ⟨RX4, "sum", "()I"⟩
abbrev cX4_weightOf : ByteArray := prog_6_method_3_code
def yX4_weightOf : MethodName := ⟨RX4, "weightOf", "(I)I"⟩
abbrev cX4_change : ByteArray := prog_6_method_4_code
def yX4_change : MethodName := ⟨RX4, "change", "(II)V"⟩
abbrev cX4_degreeFor : ByteArray := prog_6_method_5_code
def yX4_degreeFor : MethodName := ⟨RX4, "degreeFor", "(I)I"⟩
def RX5 : String := "FountainCode"
def TX5 : u_T := fun k => match k with
  | 0 => ("FountainCode", "weights", "LFountainCode$Weights;", true)
  | 1 => ("FountainCode", "sender", "LFountainCode$Sender;", true)
  | 2 => ("FountainCode", "peeler", "LFountainCode$Peeler;", true)
  | 3 => ("FountainCode", "elimination", "LFountainCode$Elimination;", true)
  | _ => ("FountainCode", "scratchDrop", "LFountainCode$Drop;", true)
def tyX5 : Nat → FieldType := fun k => match k with
  | 0 => .object "FountainCode$Weights"
  | 1 => .object "FountainCode$Sender"
  | 2 => .object "FountainCode$Peeler"
  | 3 => .object "FountainCode$Elimination"
  | _ => .object "FountainCode$Drop"
abbrev wsX50 : List Cond := u_ws RX5 TX5 5
theorem nmX5 : ∀ a, a < 5 → ∀ b, b < 5 → a ≠ b → (TX5 a).2.1 ≠ (TX5 b).2.1 := by decide +kernel
theorem tyX5_ok : ∀ k, k < 5 → parseFieldDescriptor (TX5 k).2.2.1 = some (tyX5 k) := by decide +kernel
abbrev cX5_init : ByteArray := prog_1_method_1_code
def yX5_init : MethodName := ⟨RX5, "<init>", "()V"⟩
abbrev cX5_start : ByteArray := prog_1_method_2_code
def yX5_start : MethodName := ⟨RX5, "start", "(II)I"⟩
abbrev cX5_setWeight : ByteArray := prog_1_method_3_code
def yX5_setWeight : MethodName := ⟨RX5, "setWeight", "(II)I"⟩
abbrev cX5_setBlock : ByteArray := prog_1_method_4_code
def yX5_setBlock : MethodName := ⟨RX5, "setBlock", "(II)I"⟩
abbrev cX5_blocks : ByteArray := prog_1_method_5_code
def yX5_blocks : MethodName := ⟨RX5, "blocks", "()I"⟩
abbrev cX5_blockAt : ByteArray := prog_1_method_6_code
def yX5_blockAt : MethodName := ⟨RX5, "blockAt", "(I)I"⟩
abbrev cX5_degree : ByteArray := prog_1_method_7_code
def yX5_degree : MethodName := ⟨RX5, "degree", "(I)I"⟩
abbrev cX5_blockOf : ByteArray := prog_1_method_8_code
def yX5_blockOf : MethodName := ⟨RX5, "blockOf", "(II)I"⟩
abbrev cX5_valueOf : ByteArray := prog_1_method_9_code
def yX5_valueOf : MethodName := ⟨RX5, "valueOf", "(I)I"⟩
abbrev cX5_receive : ByteArray := prog_1_method_10_code
def yX5_receive : MethodName := ⟨RX5, "receive", "(II)I"⟩
abbrev cX5_receiveAll : ByteArray := prog_1_method_11_code
def yX5_receiveAll : MethodName := ⟨RX5, "receiveAll", "(II)I"⟩
abbrev cX5_equations : ByteArray := prog_1_method_12_code
def yX5_equations : MethodName := ⟨RX5, "equations", "()I"⟩
abbrev cX5_rank : ByteArray := prog_1_method_13_code
def yX5_rank : MethodName := ⟨RX5, "rank", "()I"⟩
abbrev cX5_peeled : ByteArray := prog_1_method_14_code
def yX5_peeled : MethodName := ⟨RX5, "peeled", "()I"⟩
abbrev cX5_peeledAt : ByteArray := prog_1_method_15_code
def yX5_peeledAt : MethodName := ⟨RX5, "peeledAt", "(I)I"⟩
abbrev cX5_peeledBy : ByteArray := prog_1_method_16_code
def yX5_peeledBy : MethodName := ⟨RX5, "peeledBy", "(I)I"⟩
abbrev cX5_determined : ByteArray := prog_1_method_17_code
def yX5_determined : MethodName := ⟨RX5, "determined", "()I"⟩
abbrev cX5_isDetermined : ByteArray := prog_1_method_18_code
def yX5_isDetermined : MethodName := ⟨RX5, "isDetermined", "(I)Z"⟩
abbrev cX5_recovered : ByteArray := prog_1_method_19_code
def yX5_recovered : MethodName := ⟨RX5, "recovered", "(I)I"⟩
abbrev cX5_wouldHelp : ByteArray := prog_1_method_20_code
def yX5_wouldHelp : MethodName := ⟨RX5, "wouldHelp", "(I)Z"⟩
abbrev cX5_wouldDetermine : ByteArray := prog_1_method_21_code
def yX5_wouldDetermine : MethodName := ⟨RX5, "wouldDetermine", "(I)I"⟩
abbrev cX5_nextHelpful : ByteArray := prog_1_method_22_code
def yX5_nextHelpful : MethodName := ⟨RX5, "nextHelpful", "(I)I"⟩
abbrev cX5_missing : ByteArray := prog_1_method_23_code
def yX5_missing : MethodName := ⟨RX5, "missing", "()I"⟩
abbrev cX5_beginTransfer : ByteArray := prog_1_method_24_code
def yX5_beginTransfer : MethodName := ⟨RX5, "beginTransfer", "(II)I"⟩
abbrev cX5_isBlock : ByteArray := prog_1_method_25_code
def yX5_isBlock : MethodName := ⟨RX5, "isBlock", "(I)Z"⟩
abbrev cX5_drawn : ByteArray := prog_1_method_26_code
def yX5_drawn : MethodName := ⟨RX5, "drawn", "(I)LFountainCode$Drop;"⟩
abbrev cX5_canTake : ByteArray := prog_1_method_27_code
def yX5_canTake : MethodName := ⟨RX5, "canTake", "(JI)Z"⟩
abbrev cX5_take : ByteArray := prog_1_method_28_code
def yX5_take : MethodName := ⟨RX5, "take", "(JI)I"⟩
abbrev cX5_addEquation : ByteArray := prog_1_method_29_code
def yX5_addEquation : MethodName := ⟨RX5, "addEquation", "(JI)V"⟩
abbrev cX5_setOf : ByteArray := prog_1_method_30_code
def yX5_setOf : MethodName := ⟨RX5, "setOf", "(I)J"⟩
abbrev cX5_holds : ByteArray := prog_1_method_31_code
def yX5_holds : MethodName := ⟨RX5, "holds", "(JI)Z"⟩
abbrev cX5_lowestOf : ByteArray := prog_1_method_32_code
def yX5_lowestOf : MethodName := ⟨RX5, "lowestOf", "(J)I"⟩
def RX6 : String := "FountainCodeModel"
def TX6 : u_T := fun k => match k with
  | 0 => ("FountainCodeModel", "refusal", "I", false)
  | 1 => ("FountainCodeModel", "weights", "[I", true)
  | 2 => ("FountainCodeModel", "sources", "I", false)
  | 3 => ("FountainCodeModel", "blocks", "I", false)
  | 4 => ("FountainCodeModel", "values", "[I", true)
  | 5 => ("FountainCodeModel", "many", "I", false)
  | 6 => ("FountainCodeModel", "drops", "I", false)
  | 7 => ("FountainCodeModel", "masks", "[J", true)
  | 8 => ("FountainCodeModel", "numbers", "[I", true)
  | 9 => ("FountainCodeModel", "peeled", "I", false)
  | 10 => ("FountainCodeModel", "peeledMask", "J", false)
  | 11 => ("FountainCodeModel", "order", "[I", true)
  | 12 => ("FountainCodeModel", "by", "[I", true)
  | 13 => ("FountainCodeModel", "rows", "[J", true)
  | 14 => ("FountainCodeModel", "rowNumbers", "[I", true)
  | 15 => ("FountainCodeModel", "rowsKept", "[J", true)
  | 16 => ("FountainCodeModel", "rowNumbersKept", "[I", true)
  | 17 => ("FountainCodeModel", "reduced", "J", false)
  | 18 => ("FountainCodeModel", "reducedNumber", "I", false)
  | 19 => ("FountainCodeModel", "generator", "J", false)
  | 20 => ("FountainCodeModel", "drawnMany", "I", false)
  | _ => ("FountainCodeModel", "drawn", "[I", true)
def tyX6 : Nat → FieldType := fun k => match k with
  | 0 => .int
  | 1 => .array .int
  | 2 => .int
  | 3 => .int
  | 4 => .array .int
  | 5 => .int
  | 6 => .int
  | 7 => .array .long
  | 8 => .array .int
  | 9 => .int
  | 10 => .long
  | 11 => .array .int
  | 12 => .array .int
  | 13 => .array .long
  | 14 => .array .int
  | 15 => .array .long
  | 16 => .array .int
  | 17 => .long
  | 18 => .int
  | 19 => .long
  | 20 => .int
  | _ => .array .int
abbrev wsX60 : List Cond := u_ws RX6 TX6 22
theorem nmX6 : ∀ a, a < 22 → ∀ b, b < 22 → a ≠ b → (TX6 a).2.1 ≠ (TX6 b).2.1 := by decide +kernel
theorem tyX6_ok : ∀ k, k < 22 → parseFieldDescriptor (TX6 k).2.2.1 = some (tyX6 k) := by decide +kernel
abbrev cX6_init : ByteArray := prog_8_method_1_code
def yX6_init : MethodName := ⟨RX6, "<init>", "()V"⟩
abbrev cX6_thrown : ByteArray := prog_8_method_2_code
def yX6_thrown : MethodName := ⟨RX6, "thrown", "()I"⟩
abbrev cX6_refused : ByteArray := prog_8_method_3_code
def yX6_refused : MethodName := ⟨RX6, "refused", "(I)Z"⟩
abbrev cX6_told : ByteArray := prog_8_method_4_code
def yX6_told : MethodName := ⟨RX6, "told", "(I)I"⟩
abbrev cX6_within : ByteArray := prog_8_method_5_code
def yX6_within : MethodName := ⟨RX6, "within", "(III)Z"⟩
abbrev cX6_isBlock : ByteArray := prog_8_method_6_code
def yX6_isBlock : MethodName := ⟨RX6, "isBlock", "(I)Z"⟩
abbrev cX6_noBlock : ByteArray := prog_8_method_7_code
def yX6_noBlock : MethodName := ⟨RX6, "noBlock", "(I)Z"⟩
abbrev cX6_clear : ByteArray := prog_8_method_8_code
def yX6_clear : MethodName := ⟨RX6, "clear", "()V"⟩
abbrev cX6_covers : ByteArray := prog_8_method_9_code
def yX6_covers : MethodName := ⟨RX6, "covers", "(II)Z"⟩
abbrev cX6_valueAt : ByteArray := prog_8_method_10_code
def yX6_valueAt : MethodName := ⟨RX6, "valueAt", "(I)I"⟩
abbrev cX6_draw : ByteArray := prog_8_method_11_code
def yX6_draw : MethodName := ⟨RX6, "draw", "(I)I"⟩
abbrev cX6_drawDrop : ByteArray := prog_8_method_12_code
def yX6_drawDrop : MethodName := ⟨RX6, "drawDrop", "(I)V"⟩
abbrev cX6_maskOf : ByteArray := prog_8_method_13_code
def yX6_maskOf : MethodName := ⟨RX6, "maskOf", "(I)J"⟩
abbrev cX6_numberOf : ByteArray := prog_8_method_14_code
def yX6_numberOf : MethodName := ⟨RX6, "numberOf", "(I)I"⟩
abbrev cX6_reduce : ByteArray := prog_8_method_15_code
def yX6_reduce : MethodName := ⟨RX6, "reduce", "(JI)V"⟩
abbrev cX6_layRow : ByteArray := prog_8_method_16_code
def yX6_layRow : MethodName := ⟨RX6, "layRow", "()V"⟩
abbrev cX6_addEquation : ByteArray := prog_8_method_17_code
def yX6_addEquation : MethodName := ⟨RX6, "addEquation", "(JI)V"⟩
abbrev cX6_peel : ByteArray := prog_8_method_18_code
def yX6_peel : MethodName := ⟨RX6, "peel", "()I"⟩
abbrev cX6_rankOf : ByteArray := prog_8_method_19_code
def yX6_rankOf : MethodName := ⟨RX6, "rankOf", "()I"⟩
abbrev cX6_determinedMany : ByteArray := prog_8_method_20_code
def yX6_determinedMany : MethodName := ⟨RX6, "determinedMany", "()I"⟩
abbrev cX6_start : ByteArray := prog_8_method_21_code
def yX6_start : MethodName := ⟨RX6, "start", "(II)I"⟩
abbrev cX6_setWeight : ByteArray := prog_8_method_22_code
def yX6_setWeight : MethodName := ⟨RX6, "setWeight", "(II)I"⟩
abbrev cX6_setBlock : ByteArray := prog_8_method_23_code
def yX6_setBlock : MethodName := ⟨RX6, "setBlock", "(II)I"⟩
abbrev cX6_blocks : ByteArray := prog_8_method_24_code
def yX6_blocks : MethodName := ⟨RX6, "blocks", "()I"⟩
abbrev cX6_blockAt : ByteArray := prog_8_method_25_code
def yX6_blockAt : MethodName := ⟨RX6, "blockAt", "(I)I"⟩
abbrev cX6_degree : ByteArray := prog_8_method_26_code
def yX6_degree : MethodName := ⟨RX6, "degree", "(I)I"⟩
abbrev cX6_blockOf : ByteArray := prog_8_method_27_code
def yX6_blockOf : MethodName := ⟨RX6, "blockOf", "(II)I"⟩
abbrev cX6_valueOf : ByteArray := prog_8_method_28_code
def yX6_valueOf : MethodName := ⟨RX6, "valueOf", "(I)I"⟩
abbrev cX6_isRefused : ByteArray := prog_8_method_29_code
def yX6_isRefused : MethodName := ⟨RX6, "isRefused", "(II)Z"⟩
abbrev cX6_take : ByteArray := prog_8_method_30_code
def yX6_take : MethodName := ⟨RX6, "take", "(II)I"⟩
abbrev cX6_receive : ByteArray := prog_8_method_31_code
def yX6_receive : MethodName := ⟨RX6, "receive", "(II)I"⟩
abbrev cX6_receiveAll : ByteArray := prog_8_method_32_code
def yX6_receiveAll : MethodName := ⟨RX6, "receiveAll", "(II)I"⟩
abbrev cX6_equations : ByteArray := prog_8_method_33_code
def yX6_equations : MethodName := ⟨RX6, "equations", "()I"⟩
abbrev cX6_rank : ByteArray := prog_8_method_34_code
def yX6_rank : MethodName := ⟨RX6, "rank", "()I"⟩
abbrev cX6_peeled : ByteArray := prog_8_method_35_code
def yX6_peeled : MethodName := ⟨RX6, "peeled", "()I"⟩
abbrev cX6_peeledAt : ByteArray := prog_8_method_36_code
def yX6_peeledAt : MethodName := ⟨RX6, "peeledAt", "(I)I"⟩
abbrev cX6_peeledBy : ByteArray := prog_8_method_37_code
def yX6_peeledBy : MethodName := ⟨RX6, "peeledBy", "(I)I"⟩
abbrev cX6_determined : ByteArray := prog_8_method_38_code
def yX6_determined : MethodName := ⟨RX6, "determined", "()I"⟩
abbrev cX6_isKnown : ByteArray := prog_8_method_39_code
def yX6_isKnown : MethodName := ⟨RX6, "isKnown", "(I)Z"⟩
abbrev cX6_isDetermined : ByteArray := prog_8_method_40_code
def yX6_isDetermined : MethodName := ⟨RX6, "isDetermined", "(I)Z"⟩
abbrev cX6_recovered : ByteArray := prog_8_method_41_code
def yX6_recovered : MethodName := ⟨RX6, "recovered", "(I)I"⟩
abbrev cX6_helps : ByteArray := prog_8_method_42_code
def yX6_helps : MethodName := ⟨RX6, "helps", "(I)Z"⟩
abbrev cX6_wouldHelp : ByteArray := prog_8_method_43_code
def yX6_wouldHelp : MethodName := ⟨RX6, "wouldHelp", "(I)Z"⟩
abbrev cX6_wouldDetermine : ByteArray := prog_8_method_44_code
def yX6_wouldDetermine : MethodName := ⟨RX6, "wouldDetermine", "(I)I"⟩
abbrev cX6_nextHelpful : ByteArray := prog_8_method_45_code
def yX6_nextHelpful : MethodName := ⟨RX6, "nextHelpful", "(I)I"⟩
abbrev cX6_missing : ByteArray := prog_8_method_46_code
def yX6_missing : MethodName := ⟨RX6, "missing", "()I"⟩
def RJx145de : String := "java/io/Serializable"
def TJx145de : u_T := fun k => match k with
  | _ => ("", "", "", false)
def tyJx145de : Nat → FieldType := fun k => match k with
  | _ => .int
abbrev wsJx145de0 : List Cond := u_ws RJx145de TJx145de 0
theorem nmJx145de : ∀ a, a < 0 → ∀ b, b < 0 → a ≠ b → (TJx145de a).2.1 ≠ (TJx145de b).2.1 := by decide +kernel
theorem tyJx145de_ok : ∀ k, k < 0 → parseFieldDescriptor (TJx145de k).2.2.1 = some (tyJx145de k) := by decide +kernel
def RJx8e188 : String := "java/lang/Cloneable"
def TJx8e188 : u_T := fun k => match k with
  | _ => ("", "", "", false)
def tyJx8e188 : Nat → FieldType := fun k => match k with
  | _ => .int
abbrev wsJx8e1880 : List Cond := u_ws RJx8e188 TJx8e188 0
theorem nmJx8e188 : ∀ a, a < 0 → ∀ b, b < 0 → a ≠ b → (TJx8e188 a).2.1 ≠ (TJx8e188 b).2.1 := by decide +kernel
theorem tyJx8e188_ok : ∀ k, k < 0 → parseFieldDescriptor (TJx8e188 k).2.2.1 = some (tyJx8e188 k) := by decide +kernel
def RJ13 : String := "java/lang/Long"
def TJ13 : u_T := fun k => match k with
  | _ => ("", "", "", false)
def tyJ13 : Nat → FieldType := fun k => match k with
  | _ => .int
abbrev wsJ130 : List Cond := u_ws RJ13 TJ13 0
theorem nmJ13 : ∀ a, a < 0 → ∀ b, b < 0 → a ≠ b → (TJ13 a).2.1 ≠ (TJ13 b).2.1 := by decide +kernel
theorem tyJ13_ok : ∀ k, k < 0 → parseFieldDescriptor (TJ13 k).2.2.1 = some (tyJ13 k) := by decide +kernel
abbrev cJ13_bitCount_95d88 : ByteArray := prog_14_method_50_code
def yJ13_bitCount_95d88 : MethodName := ⟨RJ13, "bitCount", "(J)I"⟩
def RJ9 : String := "java/lang/Math"
def TJ9 : u_T := fun k => match k with
  | _ => ("", "", "", false)
def tyJ9 : Nat → FieldType := fun k => match k with
  | _ => .int
abbrev wsJ90 : List Cond := u_ws RJ9 TJ9 0
theorem nmJ9 : ∀ a, a < 0 → ∀ b, b < 0 → a ≠ b → (TJ9 a).2.1 ≠ (TJ9 b).2.1 := by decide +kernel
theorem tyJ9_ok : ∀ k, k < 0 → parseFieldDescriptor (TJ9 k).2.2.1 = some (tyJ9 k) := by decide +kernel
abbrev cJ9_min_7cf53 : ByteArray := prog_15_method_69_code
def yJ9_min_7cf53 : MethodName := ⟨RJ9, "min", "(II)I"⟩
def RJ0 : String := "java/lang/String"
def TJ0 : u_T := fun k => match k with
  | _ => ("", "", "", false)
def tyJ0 : Nat → FieldType := fun k => match k with
  | _ => .int
abbrev wsJ00 : List Cond := u_ws RJ0 TJ0 0
theorem nmJ0 : ∀ a, a < 0 → ∀ b, b < 0 → a ≠ b → (TJ0 a).2.1 ≠ (TJ0 b).2.1 := by decide +kernel
theorem tyJ0_ok : ∀ k, k < 0 → parseFieldDescriptor (TJ0 k).2.2.1 = some (tyJ0 k) := by decide +kernel
def RJ7 : String := "java/util/Arrays"
def TJ7 : u_T := fun k => match k with
  | _ => ("", "", "", false)
def tyJ7 : Nat → FieldType := fun k => match k with
  | _ => .int
abbrev wsJ70 : List Cond := u_ws RJ7 TJ7 0
theorem nmJ7 : ∀ a, a < 0 → ∀ b, b < 0 → a ≠ b → (TJ7 a).2.1 ≠ (TJ7 b).2.1 := by decide +kernel
theorem tyJ7_ok : ∀ k, k < 0 → parseFieldDescriptor (TJ7 k).2.2.1 = some (tyJ7 k) := by decide +kernel
abbrev cJ7_fill_d0a16 : ByteArray := prog_19_method_101_code
def yJ7_fill_d0a16 : MethodName := ⟨RJ7, "fill", "([JJ)V"⟩
abbrev cJ7_fill_53178 : ByteArray := prog_19_method_103_code
def yJ7_fill_53178 : MethodName := ⟨RJ7, "fill", "([II)V"⟩
def RL : String := "FountainCodeLaw"
abbrev cL_start : ByteArray := method_3_code
def yL_start : MethodName := ⟨RL, "start", "(LFountainCode;II[J)I"⟩
abbrev cL_setWeight : ByteArray := method_4_code
def yL_setWeight : MethodName := ⟨RL, "setWeight", "(LFountainCode;II[J)I"⟩
abbrev cL_setBlock : ByteArray := method_5_code
def yL_setBlock : MethodName := ⟨RL, "setBlock", "(LFountainCode;II[J)I"⟩
abbrev cL_blockAt : ByteArray := method_6_code
def yL_blockAt : MethodName := ⟨RL, "blockAt", "(LFountainCode;I[J)I"⟩
abbrev cL_blockOf : ByteArray := method_7_code
def yL_blockOf : MethodName := ⟨RL, "blockOf", "(LFountainCode;II[J)I"⟩
abbrev cL_receive : ByteArray := method_8_code
def yL_receive : MethodName := ⟨RL, "receive", "(LFountainCode;II[J)I"⟩
abbrev cL_receiveAll : ByteArray := method_9_code
def yL_receiveAll : MethodName := ⟨RL, "receiveAll", "(LFountainCode;II[J)I"⟩
abbrev cL_peeledAt : ByteArray := method_10_code
def yL_peeledAt : MethodName := ⟨RL, "peeledAt", "(LFountainCode;I[J)I"⟩
abbrev cL_peeledBy : ByteArray := method_11_code
def yL_peeledBy : MethodName := ⟨RL, "peeledBy", "(LFountainCode;I[J)I"⟩
abbrev cL_isDetermined : ByteArray := method_12_code
def yL_isDetermined : MethodName := ⟨RL, "isDetermined", "(LFountainCode;I[J)I"⟩
abbrev cL_recovered : ByteArray := method_13_code
def yL_recovered : MethodName := ⟨RL, "recovered", "(LFountainCode;I[J)I"⟩
abbrev cL_law : ByteArray := code
def yL_law : MethodName := ⟨RL, "law", "([I)Z"⟩
def wsX0_init : List Cond := .code yX0_init cX0_init 1 none :: ([.methodLink RX0 3 objectInit, .instanceMethod objectInit, .code objectInit ⟨#[0xb1]⟩ 1 none, .arrayClass .int, .fieldLink RX0 9 "FountainCode$Drop" "row" "[I"] ++ wsX00)
def wsX4_sum : List Cond := .code yX4_sum cX4_sum 3 (some .int) :: ([.fieldLink RX4 20 "FountainCode$Weights" "list" "[I"] ++ wsX40)
def wsX0_numberBelow : List Cond := .code yX0_numberBelow cX0_numberBelow 2 (some .int) :: ([.fieldLink RX0 15 "FountainCode$Drop" "generator" "J", .constantLong RX0 57 (6364136223846793005), .constantLong RX0 59 (1442695040888963407)] ++ wsX00)
def wsX4_degreeFor : List Cond := .code yX4_degreeFor cX4_degreeFor 4 (some .int) :: ([.fieldLink RX4 20 "FountainCode$Weights" "list" "[I"] ++ wsX40)
def wsX0_lineUp : List Cond := .code yX0_lineUp cX0_lineUp 3 none :: ([.fieldLink RX0 9 "FountainCode$Drop" "row" "[I"] ++ wsX00)
def wsX0_swap : List Cond := .code yX0_swap cX0_swap 4 none :: ([.fieldLink RX0 9 "FountainCode$Drop" "row" "[I"] ++ wsX00)
def wsX5_setOf : List Cond := .code yX5_setOf cX5_setOf 1 (some .long) :: ([])
def wsX0_draw_r1 : List Cond := [Cond.fieldLink RX0 15 "FountainCode$Drop" "generator" "J", Cond.methodLink RX0 32 Lib.Math.min.name, Cond.static Lib.Math.min.name, Cond.initialized "java/lang/Math", Cond.code Lib.Math.min.name Lib.Math.min.code 2 (some .int), Cond.fieldLink RX0 38 "FountainCode$Drop" "size" "I", Cond.fieldLink RX0 46 "FountainCode$Drop" "blockSet" "J", Cond.fieldLink RX0 9 "FountainCode$Drop" "row" "[I", Cond.methodLink RX0 19 yX4_sum, Cond.instanceMethod yX4_sum, Cond.selects RX4 yX4_sum yX4_sum, Cond.initialized RX4, Cond.code yX4_sum cX4_sum 3 (some .int), Cond.fieldLink RX4 20 "FountainCode$Weights" "list" "[I", Cond.methodLink RX0 25 yX0_numberBelow, Cond.instanceMethod yX0_numberBelow, Cond.selects RX0 yX0_numberBelow yX0_numberBelow, Cond.initialized RX0, Cond.code yX0_numberBelow cX0_numberBelow 2 (some .int), Cond.constantLong RX0 57 (6364136223846793005), Cond.constantLong RX0 59 (1442695040888963407), Cond.methodLink RX0 29 yX4_degreeFor, Cond.instanceMethod yX4_degreeFor, Cond.selects RX4 yX4_degreeFor yX4_degreeFor]
def wsX0_draw_r2 : List Cond := [Cond.code yX4_degreeFor cX4_degreeFor 4 (some .int), Cond.methodLink RX0 42 yX0_lineUp, Cond.instanceMethod yX0_lineUp, Cond.selects RX0 yX0_lineUp yX0_lineUp, Cond.code yX0_lineUp cX0_lineUp 3 none, Cond.methodLink RX0 49 yX0_swap, Cond.instanceMethod yX0_swap, Cond.selects RX0 yX0_swap yX0_swap, Cond.code yX0_swap cX0_swap 4 none, Cond.static yX5_setOf, Cond.initialized RX5, Cond.code yX5_setOf cX5_setOf 1 (some .long)]
def wsX0_draw : List Cond := .code yX0_draw cX0_draw 5 none :: ((wsX0_draw_r1 ++ wsX0_draw_r2) ++ wsX00 ++ wsX40)
def wsX0_size : List Cond := .code yX0_size cX0_size 1 (some .int) :: ([.fieldLink RX0 38 "FountainCode$Drop" "size" "I"] ++ wsX00)
def wsX0_blockSet : List Cond := .code yX0_blockSet cX0_blockSet 1 (some .long) :: ([.fieldLink RX0 46 "FountainCode$Drop" "blockSet" "J"] ++ wsX00)
def wsX0_blockInPlace : List Cond := .code yX0_blockInPlace cX0_blockInPlace 2 (some .int) :: ([.fieldLink RX0 9 "FountainCode$Drop" "row" "[I"] ++ wsX00)
def wsX1_init : List Cond := .code yX1_init cX1_init 1 none :: ([.methodLink RX1 3 objectInit, .instanceMethod objectInit, .code objectInit ⟨#[0xb1]⟩ 1 none, .arrayClass .long, .fieldLink RX1 9 "FountainCode$Elimination" "rows" "[J", .arrayClass .int, .fieldLink RX1 15 "FountainCode$Elimination" "values" "[I"] ++ wsX10)
def wsJ7_fill_d0a16 : List Cond := .code yJ7_fill_d0a16 cJ7_fill_d0a16 5 none :: ([])
def wsJ7_fill_53178 : List Cond := .code yJ7_fill_53178 cJ7_fill_53178 4 none :: ([])
def wsX1_clear : List Cond := .code yX1_clear cX1_clear 1 none :: ([.fieldLink RX1 19 "FountainCode$Elimination" "rowCount" "I", .fieldLink RX1 9 "FountainCode$Elimination" "rows" "[J", .fieldLink RX1 15 "FountainCode$Elimination" "values" "[I", .methodLink RX1 23 yJ7_fill_d0a16, .static yJ7_fill_d0a16, .initialized RJ7, .code yJ7_fill_d0a16 cJ7_fill_d0a16 5 none, .methodLink RX1 29 yJ7_fill_53178, .static yJ7_fill_53178, .code yJ7_fill_53178 cJ7_fill_53178 4 none] ++ wsX10)
def wsX1_rowCount : List Cond := .code yX1_rowCount cX1_rowCount 1 (some .int) :: ([.fieldLink RX1 19 "FountainCode$Elimination" "rowCount" "I"] ++ wsX10)
def wsX5_holds : List Cond := .code yX5_holds cX5_holds 3 (some .boolean) :: ([.methodLink RX5 150 yX5_setOf, .static yX5_setOf, .initialized RX5, .code yX5_setOf cX5_setOf 1 (some .long)])
def wsX1_remainder : List Cond := .code yX1_remainder cX1_remainder 6 (some .long) :: ([.fieldLink RX1 9 "FountainCode$Elimination" "rows" "[J", .static yX5_holds, .initialized RX5, .code yX5_holds cX5_holds 3 (some .boolean), .methodLink RX5 150 yX5_setOf, .static yX5_setOf, .code yX5_setOf cX5_setOf 1 (some .long)] ++ wsX10)
def wsX1_knownValue : List Cond := .code yX1_knownValue cX1_knownValue 5 (some .int) :: ([.fieldLink RX1 15 "FountainCode$Elimination" "values" "[I", .static yX5_holds, .initialized RX5, .code yX5_holds cX5_holds 3 (some .boolean), .methodLink RX5 150 yX5_setOf, .static yX5_setOf, .code yX5_setOf cX5_setOf 1 (some .long)] ++ wsX10)
def wsX1_contradicts : List Cond := .code yX1_contradicts cX1_contradicts 4 (some .boolean) :: ([.methodLink RX1 36 yX1_remainder, .instanceMethod yX1_remainder, .selects RX1 yX1_remainder yX1_remainder, .initialized RX1, .code yX1_remainder cX1_remainder 6 (some .long), .fieldLink RX1 9 "FountainCode$Elimination" "rows" "[J", .static yX5_holds, .initialized RX5, .code yX5_holds cX5_holds 3 (some .boolean), .methodLink RX5 150 yX5_setOf, .static yX5_setOf, .code yX5_setOf cX5_setOf 1 (some .long), .methodLink RX1 40 yX1_knownValue, .instanceMethod yX1_knownValue, .selects RX1 yX1_knownValue yX1_knownValue, .code yX1_knownValue cX1_knownValue 5 (some .int), .fieldLink RX1 15 "FountainCode$Elimination" "values" "[I"] ++ wsX10)
def wsX1_remainderOfBlock : List Cond := .code yX1_remainderOfBlock cX1_remainderOfBlock 4 (some .long) :: ([.fieldLink RX1 9 "FountainCode$Elimination" "rows" "[J", .static yX5_setOf, .initialized RX5, .code yX5_setOf cX5_setOf 1 (some .long)] ++ wsX10)
def wsX1_fixes : List Cond := .code yX1_fixes cX1_fixes 2 (some .boolean) :: ([.methodLink RX1 44 yX1_remainderOfBlock, .instanceMethod yX1_remainderOfBlock, .selects RX1 yX1_remainderOfBlock yX1_remainderOfBlock, .initialized RX1, .code yX1_remainderOfBlock cX1_remainderOfBlock 4 (some .long), .fieldLink RX1 9 "FountainCode$Elimination" "rows" "[J", .static yX5_setOf, .initialized RX5, .code yX5_setOf cX5_setOf 1 (some .long)] ++ wsX10)
def wsX1_countLeaving : List Cond := .code yX1_countLeaving cX1_countLeaving 6 (some .int) :: ([.methodLink RX1 44 yX1_remainderOfBlock, .instanceMethod yX1_remainderOfBlock, .selects RX1 yX1_remainderOfBlock yX1_remainderOfBlock, .initialized RX1, .code yX1_remainderOfBlock cX1_remainderOfBlock 4 (some .long), .fieldLink RX1 9 "FountainCode$Elimination" "rows" "[J", .static yX5_setOf, .initialized RX5, .code yX5_setOf cX5_setOf 1 (some .long)] ++ wsX10)
def wsJ13_bitCount_95d88 : List Cond := .code yJ13_bitCount_95d88 cJ13_bitCount_95d88 2 (some .int) :: ([.constantLong RJ13 314 (6148914691236517205), .constantLong RJ13 316 (3689348814741910323), .constantLong RJ13 318 (1085102592571150095)])
def wsX5_lowestOf : List Cond := .code yX5_lowestOf cX5_lowestOf 2 (some .int) :: ([.methodLink RX5 198 yJ13_bitCount_95d88, .static yJ13_bitCount_95d88, .initialized RJ13, .code yJ13_bitCount_95d88 cJ13_bitCount_95d88 2 (some .int), .constantLong RJ13 314 (6148914691236517205), .constantLong RJ13 316 (3689348814741910323), .constantLong RJ13 318 (1085102592571150095)])
def wsX1_addEquation_r1 : List Cond := [Cond.fieldLink RX1 9 "FountainCode$Elimination" "rows" "[J", Cond.fieldLink RX1 15 "FountainCode$Elimination" "values" "[I", Cond.fieldLink RX1 19 "FountainCode$Elimination" "rowCount" "I", Cond.methodLink RX1 36 yX1_remainder, Cond.instanceMethod yX1_remainder, Cond.selects RX1 yX1_remainder yX1_remainder, Cond.initialized RX1, Cond.code yX1_remainder cX1_remainder 6 (some .long), Cond.static yX5_holds, Cond.initialized RX5, Cond.code yX5_holds cX5_holds 3 (some .boolean), Cond.methodLink RX5 150 yX5_setOf, Cond.static yX5_setOf, Cond.code yX5_setOf cX5_setOf 1 (some .long), Cond.static yX5_lowestOf, Cond.code yX5_lowestOf cX5_lowestOf 2 (some .int), Cond.methodLink RX5 198 yJ13_bitCount_95d88, Cond.static yJ13_bitCount_95d88, Cond.initialized RJ13, Cond.code yJ13_bitCount_95d88 cJ13_bitCount_95d88 2 (some .int), Cond.constantLong RJ13 314 (6148914691236517205), Cond.constantLong RJ13 316 (3689348814741910323), Cond.constantLong RJ13 318 (1085102592571150095), Cond.methodLink RX1 40 yX1_knownValue]
def wsX1_addEquation_r2 : List Cond := [Cond.instanceMethod yX1_knownValue, Cond.selects RX1 yX1_knownValue yX1_knownValue, Cond.code yX1_knownValue cX1_knownValue 5 (some .int)]
def wsX1_addEquation : List Cond := .code yX1_addEquation cX1_addEquation 9 none :: ((wsX1_addEquation_r1 ++ wsX1_addEquation_r2) ++ wsX10)
def wsX2_init : List Cond := .code yX2_init cX2_init 1 none :: ([.methodLink RX2 3 objectInit, .instanceMethod objectInit, .code objectInit ⟨#[0xb1]⟩ 1 none, .arrayClass .long, .fieldLink RX2 9 "FountainCode$Peeler" "equationSets" "[J", .arrayClass .int, .fieldLink RX2 15 "FountainCode$Peeler" "peelOrder" "[I", .fieldLink RX2 19 "FountainCode$Peeler" "peelEquations" "[I"] ++ wsX20)
def wsX2_clear : List Cond := .code yX2_clear cX2_clear 1 none :: ([.fieldLink RX2 22 "FountainCode$Peeler" "equationCount" "I", .fieldLink RX2 26 "FountainCode$Peeler" "peeledCount" "I", .fieldLink RX2 29 "FountainCode$Peeler" "peeledSet" "J", .fieldLink RX2 19 "FountainCode$Peeler" "peelEquations" "[I", .methodLink RX2 33 yJ7_fill_53178, .static yJ7_fill_53178, .initialized RJ7, .code yJ7_fill_53178 cJ7_fill_53178 4 none] ++ wsX20)
def wsX2_addEquation : List Cond := .code yX2_addEquation cX2_addEquation 3 none :: ([.fieldLink RX2 22 "FountainCode$Peeler" "equationCount" "I", .fieldLink RX2 9 "FountainCode$Peeler" "equationSets" "[J"] ++ wsX20)
def wsX2_lowestReady : List Cond := .code yX2_lowestReady cX2_lowestReady 2 (some .int) :: ([.fieldLink RX2 22 "FountainCode$Peeler" "equationCount" "I", .fieldLink RX2 9 "FountainCode$Peeler" "equationSets" "[J", .fieldLink RX2 29 "FountainCode$Peeler" "peeledSet" "J", .constantLong RX2 47 (-1), .methodLink RX2 49 yJ13_bitCount_95d88, .static yJ13_bitCount_95d88, .initialized RJ13, .code yJ13_bitCount_95d88 cJ13_bitCount_95d88 2 (some .int), .constantLong RJ13 314 (6148914691236517205), .constantLong RJ13 316 (3689348814741910323), .constantLong RJ13 318 (1085102592571150095)] ++ wsX20)
def wsX2_peelWith : List Cond := .code yX2_peelWith cX2_peelWith 3 none :: ([.fieldLink RX2 9 "FountainCode$Peeler" "equationSets" "[J", .fieldLink RX2 29 "FountainCode$Peeler" "peeledSet" "J", .constantLong RX2 47 (-1), .fieldLink RX2 26 "FountainCode$Peeler" "peeledCount" "I", .fieldLink RX2 15 "FountainCode$Peeler" "peelOrder" "[I", .fieldLink RX2 19 "FountainCode$Peeler" "peelEquations" "[I", .static yX5_lowestOf, .initialized RX5, .code yX5_lowestOf cX5_lowestOf 2 (some .int), .methodLink RX5 198 yJ13_bitCount_95d88, .static yJ13_bitCount_95d88, .initialized RJ13, .code yJ13_bitCount_95d88 cJ13_bitCount_95d88 2 (some .int), .constantLong RJ13 314 (6148914691236517205), .constantLong RJ13 316 (3689348814741910323), .constantLong RJ13 318 (1085102592571150095), .static yX5_setOf, .code yX5_setOf cX5_setOf 1 (some .long)] ++ wsX20)
def wsX2_peelOn_r1 : List Cond := [Cond.fieldLink RX2 26 "FountainCode$Peeler" "peeledCount" "I", Cond.methodLink RX2 39 yX2_lowestReady, Cond.instanceMethod yX2_lowestReady, Cond.selects RX2 yX2_lowestReady yX2_lowestReady, Cond.initialized RX2, Cond.code yX2_lowestReady cX2_lowestReady 2 (some .int), Cond.fieldLink RX2 22 "FountainCode$Peeler" "equationCount" "I", Cond.fieldLink RX2 9 "FountainCode$Peeler" "equationSets" "[J", Cond.fieldLink RX2 29 "FountainCode$Peeler" "peeledSet" "J", Cond.constantLong RX2 47 (-1), Cond.methodLink RX2 49 yJ13_bitCount_95d88, Cond.static yJ13_bitCount_95d88, Cond.initialized RJ13, Cond.code yJ13_bitCount_95d88 cJ13_bitCount_95d88 2 (some .int), Cond.constantLong RJ13 314 (6148914691236517205), Cond.constantLong RJ13 316 (3689348814741910323), Cond.constantLong RJ13 318 (1085102592571150095), Cond.methodLink RX2 43 yX2_peelWith, Cond.instanceMethod yX2_peelWith, Cond.selects RX2 yX2_peelWith yX2_peelWith, Cond.code yX2_peelWith cX2_peelWith 3 none, Cond.fieldLink RX2 15 "FountainCode$Peeler" "peelOrder" "[I", Cond.fieldLink RX2 19 "FountainCode$Peeler" "peelEquations" "[I", Cond.static yX5_lowestOf]
def wsX2_peelOn_r2 : List Cond := [Cond.initialized RX5, Cond.code yX5_lowestOf cX5_lowestOf 2 (some .int), Cond.methodLink RX5 198 yJ13_bitCount_95d88, Cond.static yX5_setOf, Cond.code yX5_setOf cX5_setOf 1 (some .long)]
def wsX2_peelOn : List Cond := .code yX2_peelOn cX2_peelOn 4 (some .int) :: ((wsX2_peelOn_r1 ++ wsX2_peelOn_r2) ++ wsX20)
def wsX2_equationCount : List Cond := .code yX2_equationCount cX2_equationCount 1 (some .int) :: ([.fieldLink RX2 22 "FountainCode$Peeler" "equationCount" "I"] ++ wsX20)
def wsX2_peeledCount : List Cond := .code yX2_peeledCount cX2_peeledCount 1 (some .int) :: ([.fieldLink RX2 26 "FountainCode$Peeler" "peeledCount" "I"] ++ wsX20)
def wsX2_peeledInPlace : List Cond := .code yX2_peeledInPlace cX2_peeledInPlace 2 (some .int) :: ([.fieldLink RX2 15 "FountainCode$Peeler" "peelOrder" "[I"] ++ wsX20)
def wsX2_equationThatPeeled : List Cond := .code yX2_equationThatPeeled cX2_equationThatPeeled 2 (some .int) :: ([.fieldLink RX2 19 "FountainCode$Peeler" "peelEquations" "[I"] ++ wsX20)
def wsX3_init : List Cond := .code yX3_init cX3_init 1 none :: ([.methodLink RX3 3 objectInit, .instanceMethod objectInit, .code objectInit ⟨#[0xb1]⟩ 1 none, .arrayClass .int, .fieldLink RX3 9 "FountainCode$Sender" "sourceValues" "[I"] ++ wsX30)
def wsX3_begin : List Cond := .code yX3_begin cX3_begin 3 none :: ([.fieldLink RX3 15 "FountainCode$Sender" "sources" "I", .fieldLink RX3 19 "FountainCode$Sender" "parities" "I", .fieldLink RX3 9 "FountainCode$Sender" "sourceValues" "[I", .methodLink RX3 22 yJ7_fill_53178, .static yJ7_fill_53178, .initialized RJ7, .code yJ7_fill_53178 cJ7_fill_53178 4 none] ++ wsX30)
def wsX3_sourceCount : List Cond := .code yX3_sourceCount cX3_sourceCount 1 (some .int) :: ([.fieldLink RX3 15 "FountainCode$Sender" "sources" "I"] ++ wsX30)
def wsX3_parityCount : List Cond := .code yX3_parityCount cX3_parityCount 1 (some .int) :: ([.fieldLink RX3 19 "FountainCode$Sender" "parities" "I"] ++ wsX30)
def wsX3_blockCount : List Cond := .code yX3_blockCount cX3_blockCount 1 (some .int) :: ([.fieldLink RX3 15 "FountainCode$Sender" "sources" "I", .fieldLink RX3 19 "FountainCode$Sender" "parities" "I"] ++ wsX30)
def wsX3_change : List Cond := .code yX3_change cX3_change 3 none :: ([.fieldLink RX3 9 "FountainCode$Sender" "sourceValues" "[I"] ++ wsX30)
def wsX3_coveredBy : List Cond := .code yX3_coveredBy cX3_coveredBy 5 (some .long) :: ([.fieldLink RX3 15 "FountainCode$Sender" "sources" "I", .static yX5_setOf, .initialized RX5, .code yX5_setOf cX5_setOf 1 (some .long)] ++ wsX30)
def wsX3_valueOfSources : List Cond := .code yX3_valueOfSources cX3_valueOfSources 5 (some .int) :: ([.fieldLink RX3 15 "FountainCode$Sender" "sources" "I", .fieldLink RX3 9 "FountainCode$Sender" "sourceValues" "[I", .static yX5_holds, .initialized RX5, .code yX5_holds cX5_holds 3 (some .boolean), .methodLink RX5 150 yX5_setOf, .static yX5_setOf, .code yX5_setOf cX5_setOf 1 (some .long)] ++ wsX30)
def wsX3_valueOfBlock : List Cond := .code yX3_valueOfBlock cX3_valueOfBlock 2 (some .int) :: ([.fieldLink RX3 15 "FountainCode$Sender" "sources" "I", .methodLink RX3 32 yX3_coveredBy, .instanceMethod yX3_coveredBy, .selects RX3 yX3_coveredBy yX3_coveredBy, .initialized RX3, .code yX3_coveredBy cX3_coveredBy 5 (some .long), .static yX5_setOf, .initialized RX5, .code yX5_setOf cX5_setOf 1 (some .long), .methodLink RX3 35 yX3_valueOfSources, .instanceMethod yX3_valueOfSources, .selects RX3 yX3_valueOfSources yX3_valueOfSources, .code yX3_valueOfSources cX3_valueOfSources 5 (some .int), .fieldLink RX3 9 "FountainCode$Sender" "sourceValues" "[I", .static yX5_holds, .code yX5_holds cX5_holds 3 (some .boolean), .methodLink RX5 150 yX5_setOf] ++ wsX30)
def wsX3_valueOfSet_r1 : List Cond := [Cond.fieldLink RX3 15 "FountainCode$Sender" "sources" "I", Cond.methodLink RX3 35 yX3_valueOfSources, Cond.instanceMethod yX3_valueOfSources, Cond.selects RX3 yX3_valueOfSources yX3_valueOfSources, Cond.initialized RX3, Cond.code yX3_valueOfSources cX3_valueOfSources 5 (some .int), Cond.fieldLink RX3 9 "FountainCode$Sender" "sourceValues" "[I", Cond.static yX5_holds, Cond.initialized RX5, Cond.code yX5_holds cX5_holds 3 (some .boolean), Cond.methodLink RX5 150 yX5_setOf, Cond.static yX5_setOf, Cond.code yX5_setOf cX5_setOf 1 (some .long), Cond.methodLink RX3 39 yX3_blockCount, Cond.instanceMethod yX3_blockCount, Cond.selects RX3 yX3_blockCount yX3_blockCount, Cond.code yX3_blockCount cX3_blockCount 1 (some .int), Cond.fieldLink RX3 19 "FountainCode$Sender" "parities" "I", Cond.methodLink RX3 47 yX3_valueOfBlock, Cond.instanceMethod yX3_valueOfBlock, Cond.selects RX3 yX3_valueOfBlock yX3_valueOfBlock, Cond.code yX3_valueOfBlock cX3_valueOfBlock 2 (some .int), Cond.methodLink RX3 32 yX3_coveredBy, Cond.instanceMethod yX3_coveredBy]
def wsX3_valueOfSet_r2 : List Cond := [Cond.selects RX3 yX3_coveredBy yX3_coveredBy, Cond.code yX3_coveredBy cX3_coveredBy 5 (some .long)]
def wsX3_valueOfSet : List Cond := .code yX3_valueOfSet cX3_valueOfSet 5 (some .int) :: ((wsX3_valueOfSet_r1 ++ wsX3_valueOfSet_r2) ++ wsX30)
def wsX4_init : List Cond := .code yX4_init cX4_init 1 none :: ([.methodLink RX4 3 objectInit, .instanceMethod objectInit, .code objectInit ⟨#[0xb1]⟩ 1 none, .fieldLink RX4 9 "FountainCode$Weights" "FIRST_WEIGHTS" "[I", .methodLink RX4 15 ⟨"[I", "clone", "()Ljava/lang/Object;"⟩, .sameMethod "[I" "java/lang/Object" "clone" "()Ljava/lang/Object;", .native ⟨"java/lang/Object", "clone", "()Ljava/lang/Object;"⟩, .instanceMethod ⟨"java/lang/Object", "clone", "()Ljava/lang/Object;"⟩, .selects "[I" ⟨"[I", "clone", "()Ljava/lang/Object;"⟩ ⟨"java/lang/Object", "clone", "()Ljava/lang/Object;"⟩, .classLink RX4 16 "[I", .fieldLink RX4 20 "FountainCode$Weights" "list" "[I"] ++ wsX40)
def wsX4_weightOf : List Cond := .code yX4_weightOf cX4_weightOf 3 (some .int) :: ([.fieldLink RX4 20 "FountainCode$Weights" "list" "[I"] ++ wsX40)
def wsX4_change : List Cond := .code yX4_change cX4_change 4 none :: ([.fieldLink RX4 20 "FountainCode$Weights" "list" "[I"] ++ wsX40)
def wsX5_addEquation_r1 : List Cond := [Cond.fieldLink RX5 26 "FountainCode" "peeler" "LFountainCode$Peeler;", Cond.fieldLink RX5 33 "FountainCode" "elimination" "LFountainCode$Elimination;", Cond.methodLink RX5 194 yX2_addEquation, Cond.instanceMethod yX2_addEquation, Cond.selects RX2 yX2_addEquation yX2_addEquation, Cond.initialized RX2, Cond.code yX2_addEquation cX2_addEquation 3 none, Cond.fieldLink RX2 22 "FountainCode$Peeler" "equationCount" "I", Cond.fieldLink RX2 9 "FountainCode$Peeler" "equationSets" "[J", Cond.methodLink RX5 197 yX1_addEquation, Cond.instanceMethod yX1_addEquation, Cond.selects RX1 yX1_addEquation yX1_addEquation, Cond.initialized RX1, Cond.code yX1_addEquation cX1_addEquation 9 none, Cond.fieldLink RX1 9 "FountainCode$Elimination" "rows" "[J", Cond.fieldLink RX1 15 "FountainCode$Elimination" "values" "[I", Cond.fieldLink RX1 19 "FountainCode$Elimination" "rowCount" "I", Cond.methodLink RX1 36 yX1_remainder, Cond.instanceMethod yX1_remainder, Cond.selects RX1 yX1_remainder yX1_remainder, Cond.code yX1_remainder cX1_remainder 6 (some .long), Cond.static yX5_holds, Cond.initialized RX5, Cond.code yX5_holds cX5_holds 3 (some .boolean)]
def wsX5_addEquation_r2 : List Cond := [Cond.methodLink RX5 150 yX5_setOf, Cond.static yX5_setOf, Cond.code yX5_setOf cX5_setOf 1 (some .long), Cond.static yX5_lowestOf, Cond.code yX5_lowestOf cX5_lowestOf 2 (some .int), Cond.methodLink RX5 198 yJ13_bitCount_95d88, Cond.static yJ13_bitCount_95d88, Cond.initialized RJ13, Cond.code yJ13_bitCount_95d88 cJ13_bitCount_95d88 2 (some .int), Cond.constantLong RJ13 314 (6148914691236517205), Cond.constantLong RJ13 316 (3689348814741910323), Cond.constantLong RJ13 318 (1085102592571150095), Cond.methodLink RX1 40 yX1_knownValue, Cond.instanceMethod yX1_knownValue, Cond.selects RX1 yX1_knownValue yX1_knownValue, Cond.code yX1_knownValue cX1_knownValue 5 (some .int)]
def wsX5_addEquation : List Cond := .code yX5_addEquation cX5_addEquation 4 none :: ((wsX5_addEquation_r1 ++ wsX5_addEquation_r2) ++ wsX50 ++ wsX20 ++ wsX10)
def wsX5_beginTransfer_r1 : List Cond := [Cond.fieldLink RX5 19 "FountainCode" "sender" "LFountainCode$Sender;", Cond.fieldLink RX5 26 "FountainCode" "peeler" "LFountainCode$Peeler;", Cond.fieldLink RX5 33 "FountainCode" "elimination" "LFountainCode$Elimination;", Cond.methodLink RX5 167 yX3_begin, Cond.instanceMethod yX3_begin, Cond.selects RX3 yX3_begin yX3_begin, Cond.initialized RX3, Cond.code yX3_begin cX3_begin 3 none, Cond.fieldLink RX3 15 "FountainCode$Sender" "sources" "I", Cond.fieldLink RX3 19 "FountainCode$Sender" "parities" "I", Cond.fieldLink RX3 9 "FountainCode$Sender" "sourceValues" "[I", Cond.methodLink RX3 22 yJ7_fill_53178, Cond.static yJ7_fill_53178, Cond.initialized RJ7, Cond.code yJ7_fill_53178 cJ7_fill_53178 4 none, Cond.methodLink RX5 170 yX2_clear, Cond.instanceMethod yX2_clear, Cond.selects RX2 yX2_clear yX2_clear, Cond.initialized RX2, Cond.code yX2_clear cX2_clear 1 none, Cond.fieldLink RX2 22 "FountainCode$Peeler" "equationCount" "I", Cond.fieldLink RX2 26 "FountainCode$Peeler" "peeledCount" "I", Cond.fieldLink RX2 29 "FountainCode$Peeler" "peeledSet" "J", Cond.fieldLink RX2 19 "FountainCode$Peeler" "peelEquations" "[I"]
def wsX5_beginTransfer_r2 : List Cond := [Cond.methodLink RX2 33 yJ7_fill_53178, Cond.methodLink RX5 173 yX1_clear, Cond.instanceMethod yX1_clear, Cond.selects RX1 yX1_clear yX1_clear, Cond.initialized RX1, Cond.code yX1_clear cX1_clear 1 none, Cond.fieldLink RX1 19 "FountainCode$Elimination" "rowCount" "I", Cond.fieldLink RX1 9 "FountainCode$Elimination" "rows" "[J", Cond.fieldLink RX1 15 "FountainCode$Elimination" "values" "[I", Cond.methodLink RX1 23 yJ7_fill_d0a16, Cond.static yJ7_fill_d0a16, Cond.code yJ7_fill_d0a16 cJ7_fill_d0a16 5 none, Cond.methodLink RX1 29 yJ7_fill_53178, Cond.methodLink RX5 150 yX5_setOf, Cond.static yX5_setOf, Cond.initialized RX5, Cond.code yX5_setOf cX5_setOf 1 (some .long), Cond.methodLink RX5 174 yX3_coveredBy, Cond.instanceMethod yX3_coveredBy, Cond.selects RX3 yX3_coveredBy yX3_coveredBy, Cond.code yX3_coveredBy cX3_coveredBy 5 (some .long), Cond.methodLink RX5 177 yX5_addEquation, Cond.instanceMethod yX5_addEquation, Cond.selects RX5 yX5_addEquation yX5_addEquation]
def wsX5_beginTransfer_r3 : List Cond := [Cond.code yX5_addEquation cX5_addEquation 4 none, Cond.methodLink RX5 194 yX2_addEquation, Cond.instanceMethod yX2_addEquation, Cond.selects RX2 yX2_addEquation yX2_addEquation, Cond.code yX2_addEquation cX2_addEquation 3 none, Cond.fieldLink RX2 9 "FountainCode$Peeler" "equationSets" "[J", Cond.methodLink RX5 197 yX1_addEquation, Cond.instanceMethod yX1_addEquation, Cond.selects RX1 yX1_addEquation yX1_addEquation, Cond.code yX1_addEquation cX1_addEquation 9 none, Cond.methodLink RX1 36 yX1_remainder, Cond.instanceMethod yX1_remainder, Cond.selects RX1 yX1_remainder yX1_remainder, Cond.code yX1_remainder cX1_remainder 6 (some .long), Cond.static yX5_holds, Cond.code yX5_holds cX5_holds 3 (some .boolean), Cond.static yX5_lowestOf, Cond.code yX5_lowestOf cX5_lowestOf 2 (some .int), Cond.methodLink RX5 198 yJ13_bitCount_95d88, Cond.static yJ13_bitCount_95d88, Cond.initialized RJ13, Cond.code yJ13_bitCount_95d88 cJ13_bitCount_95d88 2 (some .int), Cond.constantLong RJ13 314 (6148914691236517205), Cond.constantLong RJ13 316 (3689348814741910323)]
def wsX5_beginTransfer_r4 : List Cond := [Cond.constantLong RJ13 318 (1085102592571150095), Cond.methodLink RX1 40 yX1_knownValue, Cond.instanceMethod yX1_knownValue, Cond.selects RX1 yX1_knownValue yX1_knownValue, Cond.code yX1_knownValue cX1_knownValue 5 (some .int), Cond.methodLink RX5 181 yX2_peelOn, Cond.instanceMethod yX2_peelOn, Cond.selects RX2 yX2_peelOn yX2_peelOn, Cond.code yX2_peelOn cX2_peelOn 4 (some .int), Cond.methodLink RX2 39 yX2_lowestReady, Cond.instanceMethod yX2_lowestReady, Cond.selects RX2 yX2_lowestReady yX2_lowestReady, Cond.code yX2_lowestReady cX2_lowestReady 2 (some .int), Cond.constantLong RX2 47 (-1), Cond.methodLink RX2 49 yJ13_bitCount_95d88, Cond.methodLink RX2 43 yX2_peelWith, Cond.instanceMethod yX2_peelWith, Cond.selects RX2 yX2_peelWith yX2_peelWith, Cond.code yX2_peelWith cX2_peelWith 3 none, Cond.fieldLink RX2 15 "FountainCode$Peeler" "peelOrder" "[I"]
def wsX5_beginTransfer : List Cond := .code yX5_beginTransfer cX5_beginTransfer 4 (some .int) :: ((wsX5_beginTransfer_r1 ++ (wsX5_beginTransfer_r2 ++ (wsX5_beginTransfer_r3 ++ wsX5_beginTransfer_r4))) ++ wsX50 ++ wsX30 ++ wsX20 ++ wsX10)
def wsX5_init_r1 : List Cond := [Cond.methodLink RX5 3 objectInit, Cond.instanceMethod objectInit, Cond.code objectInit ⟨#[0xb1]⟩ 1 none, Cond.classLink RX5 9 RX4, Cond.instantiable RX4 1, Cond.initialized RX4, Cond.fieldLink RX5 12 "FountainCode" "weights" "LFountainCode$Weights;", Cond.classLink RX5 16 RX3, Cond.instantiable RX3 3, Cond.initialized RX3, Cond.fieldLink RX5 19 "FountainCode" "sender" "LFountainCode$Sender;", Cond.classLink RX5 23 RX2, Cond.instantiable RX2 6, Cond.initialized RX2, Cond.fieldLink RX5 26 "FountainCode" "peeler" "LFountainCode$Peeler;", Cond.classLink RX5 30 RX1, Cond.instantiable RX1 3, Cond.initialized RX1, Cond.fieldLink RX5 33 "FountainCode" "elimination" "LFountainCode$Elimination;", Cond.classLink RX5 37 RX0, Cond.instantiable RX0 4, Cond.initialized RX0, Cond.fieldLink RX5 40 "FountainCode" "scratchDrop" "LFountainCode$Drop;", Cond.instanceMethod yX4_init]
def wsX5_init_r2 : List Cond := [Cond.code yX4_init cX4_init 1 none, Cond.methodLink RX4 3 objectInit, Cond.fieldLink RX4 9 "FountainCode$Weights" "FIRST_WEIGHTS" "[I", Cond.methodLink RX4 15 ⟨"[I", "clone", "()Ljava/lang/Object;"⟩, Cond.sameMethod "[I" "java/lang/Object" "clone" "()Ljava/lang/Object;", Cond.native ⟨"java/lang/Object", "clone", "()Ljava/lang/Object;"⟩, Cond.instanceMethod ⟨"java/lang/Object", "clone", "()Ljava/lang/Object;"⟩, Cond.selects "[I" ⟨"[I", "clone", "()Ljava/lang/Object;"⟩ ⟨"java/lang/Object", "clone", "()Ljava/lang/Object;"⟩, Cond.classLink RX4 16 "[I", Cond.fieldLink RX4 20 "FountainCode$Weights" "list" "[I", Cond.instanceMethod yX3_init, Cond.code yX3_init cX3_init 1 none, Cond.methodLink RX3 3 objectInit, Cond.arrayClass .int, Cond.fieldLink RX3 9 "FountainCode$Sender" "sourceValues" "[I", Cond.instanceMethod yX2_init, Cond.code yX2_init cX2_init 1 none, Cond.methodLink RX2 3 objectInit, Cond.arrayClass .long, Cond.fieldLink RX2 9 "FountainCode$Peeler" "equationSets" "[J", Cond.fieldLink RX2 15 "FountainCode$Peeler" "peelOrder" "[I", Cond.fieldLink RX2 19 "FountainCode$Peeler" "peelEquations" "[I", Cond.instanceMethod yX1_init, Cond.code yX1_init cX1_init 1 none]
def wsX5_init_r3 : List Cond := [Cond.methodLink RX1 3 objectInit, Cond.fieldLink RX1 9 "FountainCode$Elimination" "rows" "[J", Cond.fieldLink RX1 15 "FountainCode$Elimination" "values" "[I", Cond.instanceMethod yX0_init, Cond.code yX0_init cX0_init 1 none, Cond.methodLink RX0 3 objectInit, Cond.fieldLink RX0 9 "FountainCode$Drop" "row" "[I", Cond.methodLink RX5 44 yX5_beginTransfer, Cond.instanceMethod yX5_beginTransfer, Cond.selects RX5 yX5_beginTransfer yX5_beginTransfer, Cond.initialized RX5, Cond.code yX5_beginTransfer cX5_beginTransfer 4 (some .int), Cond.methodLink RX5 167 yX3_begin, Cond.instanceMethod yX3_begin, Cond.selects RX3 yX3_begin yX3_begin, Cond.code yX3_begin cX3_begin 3 none, Cond.fieldLink RX3 15 "FountainCode$Sender" "sources" "I", Cond.fieldLink RX3 19 "FountainCode$Sender" "parities" "I", Cond.methodLink RX3 22 yJ7_fill_53178, Cond.static yJ7_fill_53178, Cond.initialized RJ7, Cond.code yJ7_fill_53178 cJ7_fill_53178 4 none, Cond.methodLink RX5 170 yX2_clear, Cond.instanceMethod yX2_clear]
def wsX5_init_r4 : List Cond := [Cond.selects RX2 yX2_clear yX2_clear, Cond.code yX2_clear cX2_clear 1 none, Cond.fieldLink RX2 22 "FountainCode$Peeler" "equationCount" "I", Cond.fieldLink RX2 26 "FountainCode$Peeler" "peeledCount" "I", Cond.fieldLink RX2 29 "FountainCode$Peeler" "peeledSet" "J", Cond.methodLink RX2 33 yJ7_fill_53178, Cond.methodLink RX5 173 yX1_clear, Cond.instanceMethod yX1_clear, Cond.selects RX1 yX1_clear yX1_clear, Cond.code yX1_clear cX1_clear 1 none, Cond.fieldLink RX1 19 "FountainCode$Elimination" "rowCount" "I", Cond.methodLink RX1 23 yJ7_fill_d0a16, Cond.static yJ7_fill_d0a16, Cond.code yJ7_fill_d0a16 cJ7_fill_d0a16 5 none, Cond.methodLink RX1 29 yJ7_fill_53178, Cond.methodLink RX5 150 yX5_setOf, Cond.static yX5_setOf, Cond.code yX5_setOf cX5_setOf 1 (some .long), Cond.methodLink RX5 174 yX3_coveredBy, Cond.instanceMethod yX3_coveredBy, Cond.selects RX3 yX3_coveredBy yX3_coveredBy, Cond.code yX3_coveredBy cX3_coveredBy 5 (some .long), Cond.methodLink RX5 177 yX5_addEquation, Cond.instanceMethod yX5_addEquation]
def wsX5_init_r5 : List Cond := [Cond.selects RX5 yX5_addEquation yX5_addEquation, Cond.code yX5_addEquation cX5_addEquation 4 none, Cond.methodLink RX5 194 yX2_addEquation, Cond.instanceMethod yX2_addEquation, Cond.selects RX2 yX2_addEquation yX2_addEquation, Cond.code yX2_addEquation cX2_addEquation 3 none, Cond.methodLink RX5 197 yX1_addEquation, Cond.instanceMethod yX1_addEquation, Cond.selects RX1 yX1_addEquation yX1_addEquation, Cond.code yX1_addEquation cX1_addEquation 9 none, Cond.methodLink RX1 36 yX1_remainder, Cond.instanceMethod yX1_remainder, Cond.selects RX1 yX1_remainder yX1_remainder, Cond.code yX1_remainder cX1_remainder 6 (some .long), Cond.static yX5_holds, Cond.code yX5_holds cX5_holds 3 (some .boolean), Cond.static yX5_lowestOf, Cond.code yX5_lowestOf cX5_lowestOf 2 (some .int), Cond.methodLink RX5 198 yJ13_bitCount_95d88, Cond.static yJ13_bitCount_95d88, Cond.initialized RJ13, Cond.code yJ13_bitCount_95d88 cJ13_bitCount_95d88 2 (some .int), Cond.constantLong RJ13 314 (6148914691236517205), Cond.constantLong RJ13 316 (3689348814741910323)]
def wsX5_init_r6 : List Cond := [Cond.constantLong RJ13 318 (1085102592571150095), Cond.methodLink RX1 40 yX1_knownValue, Cond.instanceMethod yX1_knownValue, Cond.selects RX1 yX1_knownValue yX1_knownValue, Cond.code yX1_knownValue cX1_knownValue 5 (some .int), Cond.methodLink RX5 181 yX2_peelOn, Cond.instanceMethod yX2_peelOn, Cond.selects RX2 yX2_peelOn yX2_peelOn, Cond.code yX2_peelOn cX2_peelOn 4 (some .int), Cond.methodLink RX2 39 yX2_lowestReady, Cond.instanceMethod yX2_lowestReady, Cond.selects RX2 yX2_lowestReady yX2_lowestReady, Cond.code yX2_lowestReady cX2_lowestReady 2 (some .int), Cond.constantLong RX2 47 (-1), Cond.methodLink RX2 49 yJ13_bitCount_95d88, Cond.methodLink RX2 43 yX2_peelWith, Cond.instanceMethod yX2_peelWith, Cond.selects RX2 yX2_peelWith yX2_peelWith, Cond.code yX2_peelWith cX2_peelWith 3 none]
def wsX5_init : List Cond := .code yX5_init cX5_init 1 none :: ((wsX5_init_r1 ++ (wsX5_init_r2 ++ (wsX5_init_r3 ++ (wsX5_init_r4 ++ (wsX5_init_r5 ++ wsX5_init_r6))))) ++ wsX40 ++ wsX50 ++ wsX30 ++ wsX20 ++ wsX10 ++ wsX00)
def wsX5_start_r1 : List Cond := [Cond.classLink RX5 48 "java/lang/IllegalArgumentException", Cond.initialized "java/lang/IllegalArgumentException", Cond.methodLink RX5 44 yX5_beginTransfer, Cond.instanceMethod yX5_beginTransfer, Cond.selects RX5 yX5_beginTransfer yX5_beginTransfer, Cond.initialized RX5, Cond.code yX5_beginTransfer cX5_beginTransfer 4 (some .int), Cond.fieldLink RX5 19 "FountainCode" "sender" "LFountainCode$Sender;", Cond.fieldLink RX5 26 "FountainCode" "peeler" "LFountainCode$Peeler;", Cond.fieldLink RX5 33 "FountainCode" "elimination" "LFountainCode$Elimination;", Cond.methodLink RX5 167 yX3_begin, Cond.instanceMethod yX3_begin, Cond.selects RX3 yX3_begin yX3_begin, Cond.initialized RX3, Cond.code yX3_begin cX3_begin 3 none, Cond.fieldLink RX3 15 "FountainCode$Sender" "sources" "I", Cond.fieldLink RX3 19 "FountainCode$Sender" "parities" "I", Cond.fieldLink RX3 9 "FountainCode$Sender" "sourceValues" "[I", Cond.methodLink RX3 22 yJ7_fill_53178, Cond.static yJ7_fill_53178, Cond.initialized RJ7, Cond.code yJ7_fill_53178 cJ7_fill_53178 4 none, Cond.methodLink RX5 170 yX2_clear, Cond.instanceMethod yX2_clear]
def wsX5_start_r2 : List Cond := [Cond.selects RX2 yX2_clear yX2_clear, Cond.initialized RX2, Cond.code yX2_clear cX2_clear 1 none, Cond.fieldLink RX2 22 "FountainCode$Peeler" "equationCount" "I", Cond.fieldLink RX2 26 "FountainCode$Peeler" "peeledCount" "I", Cond.fieldLink RX2 29 "FountainCode$Peeler" "peeledSet" "J", Cond.fieldLink RX2 19 "FountainCode$Peeler" "peelEquations" "[I", Cond.methodLink RX2 33 yJ7_fill_53178, Cond.methodLink RX5 173 yX1_clear, Cond.instanceMethod yX1_clear, Cond.selects RX1 yX1_clear yX1_clear, Cond.initialized RX1, Cond.code yX1_clear cX1_clear 1 none, Cond.fieldLink RX1 19 "FountainCode$Elimination" "rowCount" "I", Cond.fieldLink RX1 9 "FountainCode$Elimination" "rows" "[J", Cond.fieldLink RX1 15 "FountainCode$Elimination" "values" "[I", Cond.methodLink RX1 23 yJ7_fill_d0a16, Cond.static yJ7_fill_d0a16, Cond.code yJ7_fill_d0a16 cJ7_fill_d0a16 5 none, Cond.methodLink RX1 29 yJ7_fill_53178, Cond.methodLink RX5 150 yX5_setOf, Cond.static yX5_setOf, Cond.code yX5_setOf cX5_setOf 1 (some .long), Cond.methodLink RX5 174 yX3_coveredBy]
def wsX5_start_r3 : List Cond := [Cond.instanceMethod yX3_coveredBy, Cond.selects RX3 yX3_coveredBy yX3_coveredBy, Cond.code yX3_coveredBy cX3_coveredBy 5 (some .long), Cond.methodLink RX5 177 yX5_addEquation, Cond.instanceMethod yX5_addEquation, Cond.selects RX5 yX5_addEquation yX5_addEquation, Cond.code yX5_addEquation cX5_addEquation 4 none, Cond.methodLink RX5 194 yX2_addEquation, Cond.instanceMethod yX2_addEquation, Cond.selects RX2 yX2_addEquation yX2_addEquation, Cond.code yX2_addEquation cX2_addEquation 3 none, Cond.fieldLink RX2 9 "FountainCode$Peeler" "equationSets" "[J", Cond.methodLink RX5 197 yX1_addEquation, Cond.instanceMethod yX1_addEquation, Cond.selects RX1 yX1_addEquation yX1_addEquation, Cond.code yX1_addEquation cX1_addEquation 9 none, Cond.methodLink RX1 36 yX1_remainder, Cond.instanceMethod yX1_remainder, Cond.selects RX1 yX1_remainder yX1_remainder, Cond.code yX1_remainder cX1_remainder 6 (some .long), Cond.static yX5_holds, Cond.code yX5_holds cX5_holds 3 (some .boolean), Cond.static yX5_lowestOf, Cond.code yX5_lowestOf cX5_lowestOf 2 (some .int)]
def wsX5_start_r4 : List Cond := [Cond.methodLink RX5 198 yJ13_bitCount_95d88, Cond.static yJ13_bitCount_95d88, Cond.initialized RJ13, Cond.code yJ13_bitCount_95d88 cJ13_bitCount_95d88 2 (some .int), Cond.constantLong RJ13 314 (6148914691236517205), Cond.constantLong RJ13 316 (3689348814741910323), Cond.constantLong RJ13 318 (1085102592571150095), Cond.methodLink RX1 40 yX1_knownValue, Cond.instanceMethod yX1_knownValue, Cond.selects RX1 yX1_knownValue yX1_knownValue, Cond.code yX1_knownValue cX1_knownValue 5 (some .int), Cond.methodLink RX5 181 yX2_peelOn, Cond.instanceMethod yX2_peelOn, Cond.selects RX2 yX2_peelOn yX2_peelOn, Cond.code yX2_peelOn cX2_peelOn 4 (some .int), Cond.methodLink RX2 39 yX2_lowestReady, Cond.instanceMethod yX2_lowestReady, Cond.selects RX2 yX2_lowestReady yX2_lowestReady, Cond.code yX2_lowestReady cX2_lowestReady 2 (some .int), Cond.constantLong RX2 47 (-1), Cond.methodLink RX2 49 yJ13_bitCount_95d88, Cond.methodLink RX2 43 yX2_peelWith, Cond.instanceMethod yX2_peelWith, Cond.selects RX2 yX2_peelWith yX2_peelWith]
def wsX5_start_r5 : List Cond := [Cond.code yX2_peelWith cX2_peelWith 3 none, Cond.fieldLink RX2 15 "FountainCode$Peeler" "peelOrder" "[I"]
def wsX5_start : List Cond := .code yX5_start cX5_start 3 (some .int) :: ((wsX5_start_r1 ++ (wsX5_start_r2 ++ (wsX5_start_r3 ++ (wsX5_start_r4 ++ wsX5_start_r5)))) ++ wsX50 ++ wsX30 ++ wsX20 ++ wsX10 ++ (vx_atS RX5 52 "java/lang/IllegalArgumentException" ["java/lang/RuntimeException", "java/lang/Exception"]).filter goodWord)
def wsX5_setWeight : List Cond := .code yX5_setWeight cX5_setWeight 4 (some .int) :: ([.classLink RX5 48 "java/lang/IllegalArgumentException", .initialized "java/lang/IllegalArgumentException", .classLink RX5 65 "java/lang/IllegalStateException", .initialized "java/lang/IllegalStateException", .fieldLink RX5 12 "FountainCode" "weights" "LFountainCode$Weights;", .methodLink RX5 57 yX4_weightOf, .instanceMethod yX4_weightOf, .selects RX4 yX4_weightOf yX4_weightOf, .initialized RX4, .code yX4_weightOf cX4_weightOf 3 (some .int), .fieldLink RX4 20 "FountainCode$Weights" "list" "[I", .methodLink RX5 61 yX4_sum, .instanceMethod yX4_sum, .selects RX4 yX4_sum yX4_sum, .code yX4_sum cX4_sum 3 (some .int), .methodLink RX5 70 yX4_change, .instanceMethod yX4_change, .selects RX4 yX4_change yX4_change, .code yX4_change cX4_change 4 none] ++ wsX50 ++ wsX40 ++ (vx_atS RX5 52 "java/lang/IllegalArgumentException" ["java/lang/RuntimeException", "java/lang/Exception"]).filter goodWord ++ (vx_atS RX5 69 "java/lang/IllegalStateException" ["java/lang/RuntimeException", "java/lang/Exception"]).filter goodWord)
def wsX5_setBlock_r1 : List Cond := [Cond.classLink RX5 77 "java/lang/IndexOutOfBoundsException", Cond.initialized "java/lang/IndexOutOfBoundsException", Cond.fieldLink RX5 19 "FountainCode" "sender" "LFountainCode$Sender;", Cond.methodLink RX5 74 yX3_sourceCount, Cond.instanceMethod yX3_sourceCount, Cond.selects RX3 yX3_sourceCount yX3_sourceCount, Cond.initialized RX3, Cond.code yX3_sourceCount cX3_sourceCount 1 (some .int), Cond.fieldLink RX3 15 "FountainCode$Sender" "sources" "I", Cond.methodLink RX5 82 yX3_valueOfBlock, Cond.instanceMethod yX3_valueOfBlock, Cond.selects RX3 yX3_valueOfBlock yX3_valueOfBlock, Cond.code yX3_valueOfBlock cX3_valueOfBlock 2 (some .int), Cond.methodLink RX3 32 yX3_coveredBy, Cond.instanceMethod yX3_coveredBy, Cond.selects RX3 yX3_coveredBy yX3_coveredBy, Cond.code yX3_coveredBy cX3_coveredBy 5 (some .long), Cond.static yX5_setOf, Cond.initialized RX5, Cond.code yX5_setOf cX5_setOf 1 (some .long), Cond.methodLink RX3 35 yX3_valueOfSources, Cond.instanceMethod yX3_valueOfSources, Cond.selects RX3 yX3_valueOfSources yX3_valueOfSources, Cond.code yX3_valueOfSources cX3_valueOfSources 5 (some .int)]
def wsX5_setBlock_r2 : List Cond := [Cond.fieldLink RX3 9 "FountainCode$Sender" "sourceValues" "[I", Cond.static yX5_holds, Cond.code yX5_holds cX5_holds 3 (some .boolean), Cond.methodLink RX5 150 yX5_setOf, Cond.methodLink RX5 85 yX3_change, Cond.instanceMethod yX3_change, Cond.selects RX3 yX3_change yX3_change, Cond.code yX3_change cX3_change 3 none]
def wsX5_setBlock : List Cond := .code yX5_setBlock cX5_setBlock 4 (some .int) :: ((wsX5_setBlock_r1 ++ wsX5_setBlock_r2) ++ wsX50 ++ wsX30 ++ (vx_atS RX5 81 "java/lang/IndexOutOfBoundsException" ["java/lang/RuntimeException", "java/lang/Exception"]).filter goodWord)
def wsX5_blocks : List Cond := .code yX5_blocks cX5_blocks 1 (some .int) :: ([.fieldLink RX5 19 "FountainCode" "sender" "LFountainCode$Sender;", .methodLink RX5 86 yX3_blockCount, .instanceMethod yX3_blockCount, .selects RX3 yX3_blockCount yX3_blockCount, .initialized RX3, .code yX3_blockCount cX3_blockCount 1 (some .int), .fieldLink RX3 15 "FountainCode$Sender" "sources" "I", .fieldLink RX3 19 "FountainCode$Sender" "parities" "I"] ++ wsX50 ++ wsX30)
def wsX5_isBlock : List Cond := .code yX5_isBlock cX5_isBlock 2 (some .boolean) :: ([.fieldLink RX5 19 "FountainCode" "sender" "LFountainCode$Sender;", .methodLink RX5 86 yX3_blockCount, .instanceMethod yX3_blockCount, .selects RX3 yX3_blockCount yX3_blockCount, .initialized RX3, .code yX3_blockCount cX3_blockCount 1 (some .int), .fieldLink RX3 15 "FountainCode$Sender" "sources" "I", .fieldLink RX3 19 "FountainCode$Sender" "parities" "I"] ++ wsX50 ++ wsX30)
def wsX5_blockAt_r1 : List Cond := [Cond.classLink RX5 77 "java/lang/IndexOutOfBoundsException", Cond.initialized "java/lang/IndexOutOfBoundsException", Cond.fieldLink RX5 19 "FountainCode" "sender" "LFountainCode$Sender;", Cond.methodLink RX5 89 yX5_isBlock, Cond.instanceMethod yX5_isBlock, Cond.selects RX5 yX5_isBlock yX5_isBlock, Cond.initialized RX5, Cond.code yX5_isBlock cX5_isBlock 2 (some .boolean), Cond.methodLink RX5 86 yX3_blockCount, Cond.instanceMethod yX3_blockCount, Cond.selects RX3 yX3_blockCount yX3_blockCount, Cond.initialized RX3, Cond.code yX3_blockCount cX3_blockCount 1 (some .int), Cond.fieldLink RX3 15 "FountainCode$Sender" "sources" "I", Cond.fieldLink RX3 19 "FountainCode$Sender" "parities" "I", Cond.methodLink RX5 82 yX3_valueOfBlock, Cond.instanceMethod yX3_valueOfBlock, Cond.selects RX3 yX3_valueOfBlock yX3_valueOfBlock, Cond.code yX3_valueOfBlock cX3_valueOfBlock 2 (some .int), Cond.methodLink RX3 32 yX3_coveredBy, Cond.instanceMethod yX3_coveredBy, Cond.selects RX3 yX3_coveredBy yX3_coveredBy, Cond.code yX3_coveredBy cX3_coveredBy 5 (some .long), Cond.static yX5_setOf]
def wsX5_blockAt_r2 : List Cond := [Cond.code yX5_setOf cX5_setOf 1 (some .long), Cond.methodLink RX3 35 yX3_valueOfSources, Cond.instanceMethod yX3_valueOfSources, Cond.selects RX3 yX3_valueOfSources yX3_valueOfSources, Cond.code yX3_valueOfSources cX3_valueOfSources 5 (some .int), Cond.fieldLink RX3 9 "FountainCode$Sender" "sourceValues" "[I", Cond.static yX5_holds, Cond.code yX5_holds cX5_holds 3 (some .boolean), Cond.methodLink RX5 150 yX5_setOf]
def wsX5_blockAt : List Cond := .code yX5_blockAt cX5_blockAt 2 (some .int) :: ((wsX5_blockAt_r1 ++ wsX5_blockAt_r2) ++ wsX50 ++ wsX30 ++ (vx_atS RX5 81 "java/lang/IndexOutOfBoundsException" ["java/lang/RuntimeException", "java/lang/Exception"]).filter goodWord)
def wsX5_drawn_r1 : List Cond := [Cond.fieldLink RX5 40 "FountainCode" "scratchDrop" "LFountainCode$Drop;", Cond.fieldLink RX5 12 "FountainCode" "weights" "LFountainCode$Weights;", Cond.fieldLink RX5 19 "FountainCode" "sender" "LFountainCode$Sender;", Cond.methodLink RX5 86 yX3_blockCount, Cond.instanceMethod yX3_blockCount, Cond.selects RX3 yX3_blockCount yX3_blockCount, Cond.initialized RX3, Cond.code yX3_blockCount cX3_blockCount 1 (some .int), Cond.fieldLink RX3 15 "FountainCode$Sender" "sources" "I", Cond.fieldLink RX3 19 "FountainCode$Sender" "parities" "I", Cond.methodLink RX5 184 yX0_draw, Cond.instanceMethod yX0_draw, Cond.selects RX0 yX0_draw yX0_draw, Cond.initialized RX0, Cond.code yX0_draw cX0_draw 5 none, Cond.fieldLink RX0 15 "FountainCode$Drop" "generator" "J", Cond.methodLink RX0 32 Lib.Math.min.name, Cond.static Lib.Math.min.name, Cond.initialized "java/lang/Math", Cond.code Lib.Math.min.name Lib.Math.min.code 2 (some .int), Cond.fieldLink RX0 38 "FountainCode$Drop" "size" "I", Cond.fieldLink RX0 46 "FountainCode$Drop" "blockSet" "J", Cond.fieldLink RX0 9 "FountainCode$Drop" "row" "[I", Cond.methodLink RX0 19 yX4_sum]
def wsX5_drawn_r2 : List Cond := [Cond.instanceMethod yX4_sum, Cond.selects RX4 yX4_sum yX4_sum, Cond.initialized RX4, Cond.code yX4_sum cX4_sum 3 (some .int), Cond.fieldLink RX4 20 "FountainCode$Weights" "list" "[I", Cond.methodLink RX0 25 yX0_numberBelow, Cond.instanceMethod yX0_numberBelow, Cond.selects RX0 yX0_numberBelow yX0_numberBelow, Cond.code yX0_numberBelow cX0_numberBelow 2 (some .int), Cond.constantLong RX0 57 (6364136223846793005), Cond.constantLong RX0 59 (1442695040888963407), Cond.methodLink RX0 29 yX4_degreeFor, Cond.instanceMethod yX4_degreeFor, Cond.selects RX4 yX4_degreeFor yX4_degreeFor, Cond.code yX4_degreeFor cX4_degreeFor 4 (some .int), Cond.methodLink RX0 42 yX0_lineUp, Cond.instanceMethod yX0_lineUp, Cond.selects RX0 yX0_lineUp yX0_lineUp, Cond.code yX0_lineUp cX0_lineUp 3 none, Cond.methodLink RX0 49 yX0_swap, Cond.instanceMethod yX0_swap, Cond.selects RX0 yX0_swap yX0_swap, Cond.code yX0_swap cX0_swap 4 none, Cond.static yX5_setOf]
def wsX5_drawn_r3 : List Cond := [Cond.initialized RX5, Cond.code yX5_setOf cX5_setOf 1 (some .long)]
def wsX5_drawn : List Cond := .code yX5_drawn cX5_drawn 2 (some (.object "FountainCode$Drop")) :: ((wsX5_drawn_r1 ++ (wsX5_drawn_r2 ++ wsX5_drawn_r3)) ++ wsX50 ++ wsX30 ++ wsX00 ++ wsX40)
def wsX5_degree_r1 : List Cond := [Cond.methodLink RX5 95 yX5_drawn, Cond.instanceMethod yX5_drawn, Cond.selects RX5 yX5_drawn yX5_drawn, Cond.initialized RX5, Cond.code yX5_drawn cX5_drawn 2 (some (.object "FountainCode$Drop")), Cond.fieldLink RX5 40 "FountainCode" "scratchDrop" "LFountainCode$Drop;", Cond.fieldLink RX5 12 "FountainCode" "weights" "LFountainCode$Weights;", Cond.fieldLink RX5 19 "FountainCode" "sender" "LFountainCode$Sender;", Cond.methodLink RX5 86 yX3_blockCount, Cond.instanceMethod yX3_blockCount, Cond.selects RX3 yX3_blockCount yX3_blockCount, Cond.initialized RX3, Cond.code yX3_blockCount cX3_blockCount 1 (some .int), Cond.fieldLink RX3 15 "FountainCode$Sender" "sources" "I", Cond.fieldLink RX3 19 "FountainCode$Sender" "parities" "I", Cond.methodLink RX5 184 yX0_draw, Cond.instanceMethod yX0_draw, Cond.selects RX0 yX0_draw yX0_draw, Cond.initialized RX0, Cond.code yX0_draw cX0_draw 5 none, Cond.fieldLink RX0 15 "FountainCode$Drop" "generator" "J", Cond.methodLink RX0 32 Lib.Math.min.name, Cond.static Lib.Math.min.name, Cond.initialized "java/lang/Math"]
def wsX5_degree_r2 : List Cond := [Cond.code Lib.Math.min.name Lib.Math.min.code 2 (some .int), Cond.fieldLink RX0 38 "FountainCode$Drop" "size" "I", Cond.fieldLink RX0 46 "FountainCode$Drop" "blockSet" "J", Cond.fieldLink RX0 9 "FountainCode$Drop" "row" "[I", Cond.methodLink RX0 19 yX4_sum, Cond.instanceMethod yX4_sum, Cond.selects RX4 yX4_sum yX4_sum, Cond.initialized RX4, Cond.code yX4_sum cX4_sum 3 (some .int), Cond.fieldLink RX4 20 "FountainCode$Weights" "list" "[I", Cond.methodLink RX0 25 yX0_numberBelow, Cond.instanceMethod yX0_numberBelow, Cond.selects RX0 yX0_numberBelow yX0_numberBelow, Cond.code yX0_numberBelow cX0_numberBelow 2 (some .int), Cond.constantLong RX0 57 (6364136223846793005), Cond.constantLong RX0 59 (1442695040888963407), Cond.methodLink RX0 29 yX4_degreeFor, Cond.instanceMethod yX4_degreeFor, Cond.selects RX4 yX4_degreeFor yX4_degreeFor, Cond.code yX4_degreeFor cX4_degreeFor 4 (some .int), Cond.methodLink RX0 42 yX0_lineUp, Cond.instanceMethod yX0_lineUp, Cond.selects RX0 yX0_lineUp yX0_lineUp, Cond.code yX0_lineUp cX0_lineUp 3 none]
def wsX5_degree_r3 : List Cond := [Cond.methodLink RX0 49 yX0_swap, Cond.instanceMethod yX0_swap, Cond.selects RX0 yX0_swap yX0_swap, Cond.code yX0_swap cX0_swap 4 none, Cond.static yX5_setOf, Cond.code yX5_setOf cX5_setOf 1 (some .long), Cond.methodLink RX5 99 yX0_size, Cond.instanceMethod yX0_size, Cond.selects RX0 yX0_size yX0_size, Cond.code yX0_size cX0_size 1 (some .int)]
def wsX5_degree : List Cond := .code yX5_degree cX5_degree 2 (some .int) :: ((wsX5_degree_r1 ++ (wsX5_degree_r2 ++ wsX5_degree_r3)) ++ wsX50 ++ wsX30 ++ wsX00 ++ wsX40)
def wsX5_blockOf_r1 : List Cond := [Cond.classLink RX5 77 "java/lang/IndexOutOfBoundsException", Cond.initialized "java/lang/IndexOutOfBoundsException", Cond.methodLink RX5 95 yX5_drawn, Cond.instanceMethod yX5_drawn, Cond.selects RX5 yX5_drawn yX5_drawn, Cond.initialized RX5, Cond.code yX5_drawn cX5_drawn 2 (some (.object "FountainCode$Drop")), Cond.fieldLink RX5 40 "FountainCode" "scratchDrop" "LFountainCode$Drop;", Cond.fieldLink RX5 12 "FountainCode" "weights" "LFountainCode$Weights;", Cond.fieldLink RX5 19 "FountainCode" "sender" "LFountainCode$Sender;", Cond.methodLink RX5 86 yX3_blockCount, Cond.instanceMethod yX3_blockCount, Cond.selects RX3 yX3_blockCount yX3_blockCount, Cond.initialized RX3, Cond.code yX3_blockCount cX3_blockCount 1 (some .int), Cond.fieldLink RX3 15 "FountainCode$Sender" "sources" "I", Cond.fieldLink RX3 19 "FountainCode$Sender" "parities" "I", Cond.methodLink RX5 184 yX0_draw, Cond.instanceMethod yX0_draw, Cond.selects RX0 yX0_draw yX0_draw, Cond.initialized RX0, Cond.code yX0_draw cX0_draw 5 none, Cond.fieldLink RX0 15 "FountainCode$Drop" "generator" "J", Cond.methodLink RX0 32 Lib.Math.min.name]
def wsX5_blockOf_r2 : List Cond := [Cond.static Lib.Math.min.name, Cond.initialized "java/lang/Math", Cond.code Lib.Math.min.name Lib.Math.min.code 2 (some .int), Cond.fieldLink RX0 38 "FountainCode$Drop" "size" "I", Cond.fieldLink RX0 46 "FountainCode$Drop" "blockSet" "J", Cond.fieldLink RX0 9 "FountainCode$Drop" "row" "[I", Cond.methodLink RX0 19 yX4_sum, Cond.instanceMethod yX4_sum, Cond.selects RX4 yX4_sum yX4_sum, Cond.initialized RX4, Cond.code yX4_sum cX4_sum 3 (some .int), Cond.fieldLink RX4 20 "FountainCode$Weights" "list" "[I", Cond.methodLink RX0 25 yX0_numberBelow, Cond.instanceMethod yX0_numberBelow, Cond.selects RX0 yX0_numberBelow yX0_numberBelow, Cond.code yX0_numberBelow cX0_numberBelow 2 (some .int), Cond.constantLong RX0 57 (6364136223846793005), Cond.constantLong RX0 59 (1442695040888963407), Cond.methodLink RX0 29 yX4_degreeFor, Cond.instanceMethod yX4_degreeFor, Cond.selects RX4 yX4_degreeFor yX4_degreeFor, Cond.code yX4_degreeFor cX4_degreeFor 4 (some .int), Cond.methodLink RX0 42 yX0_lineUp, Cond.instanceMethod yX0_lineUp]
def wsX5_blockOf_r3 : List Cond := [Cond.selects RX0 yX0_lineUp yX0_lineUp, Cond.code yX0_lineUp cX0_lineUp 3 none, Cond.methodLink RX0 49 yX0_swap, Cond.instanceMethod yX0_swap, Cond.selects RX0 yX0_swap yX0_swap, Cond.code yX0_swap cX0_swap 4 none, Cond.static yX5_setOf, Cond.code yX5_setOf cX5_setOf 1 (some .long), Cond.methodLink RX5 99 yX0_size, Cond.instanceMethod yX0_size, Cond.selects RX0 yX0_size yX0_size, Cond.code yX0_size cX0_size 1 (some .int), Cond.methodLink RX5 104 yX0_blockInPlace, Cond.instanceMethod yX0_blockInPlace, Cond.selects RX0 yX0_blockInPlace yX0_blockInPlace, Cond.code yX0_blockInPlace cX0_blockInPlace 2 (some .int)]
def wsX5_blockOf : List Cond := .code yX5_blockOf cX5_blockOf 4 (some .int) :: ((wsX5_blockOf_r1 ++ (wsX5_blockOf_r2 ++ wsX5_blockOf_r3)) ++ wsX50 ++ wsX30 ++ wsX00 ++ wsX40 ++ (vx_atS RX5 81 "java/lang/IndexOutOfBoundsException" ["java/lang/RuntimeException", "java/lang/Exception"]).filter goodWord)
def wsX5_valueOf_r1 : List Cond := [Cond.fieldLink RX5 19 "FountainCode" "sender" "LFountainCode$Sender;", Cond.methodLink RX5 95 yX5_drawn, Cond.instanceMethod yX5_drawn, Cond.selects RX5 yX5_drawn yX5_drawn, Cond.initialized RX5, Cond.code yX5_drawn cX5_drawn 2 (some (.object "FountainCode$Drop")), Cond.fieldLink RX5 40 "FountainCode" "scratchDrop" "LFountainCode$Drop;", Cond.fieldLink RX5 12 "FountainCode" "weights" "LFountainCode$Weights;", Cond.methodLink RX5 86 yX3_blockCount, Cond.instanceMethod yX3_blockCount, Cond.selects RX3 yX3_blockCount yX3_blockCount, Cond.initialized RX3, Cond.code yX3_blockCount cX3_blockCount 1 (some .int), Cond.fieldLink RX3 15 "FountainCode$Sender" "sources" "I", Cond.fieldLink RX3 19 "FountainCode$Sender" "parities" "I", Cond.methodLink RX5 184 yX0_draw, Cond.instanceMethod yX0_draw, Cond.selects RX0 yX0_draw yX0_draw, Cond.initialized RX0, Cond.code yX0_draw cX0_draw 5 none, Cond.fieldLink RX0 15 "FountainCode$Drop" "generator" "J", Cond.methodLink RX0 32 Lib.Math.min.name, Cond.static Lib.Math.min.name, Cond.initialized "java/lang/Math"]
def wsX5_valueOf_r2 : List Cond := [Cond.code Lib.Math.min.name Lib.Math.min.code 2 (some .int), Cond.fieldLink RX0 38 "FountainCode$Drop" "size" "I", Cond.fieldLink RX0 46 "FountainCode$Drop" "blockSet" "J", Cond.fieldLink RX0 9 "FountainCode$Drop" "row" "[I", Cond.methodLink RX0 19 yX4_sum, Cond.instanceMethod yX4_sum, Cond.selects RX4 yX4_sum yX4_sum, Cond.initialized RX4, Cond.code yX4_sum cX4_sum 3 (some .int), Cond.fieldLink RX4 20 "FountainCode$Weights" "list" "[I", Cond.methodLink RX0 25 yX0_numberBelow, Cond.instanceMethod yX0_numberBelow, Cond.selects RX0 yX0_numberBelow yX0_numberBelow, Cond.code yX0_numberBelow cX0_numberBelow 2 (some .int), Cond.constantLong RX0 57 (6364136223846793005), Cond.constantLong RX0 59 (1442695040888963407), Cond.methodLink RX0 29 yX4_degreeFor, Cond.instanceMethod yX4_degreeFor, Cond.selects RX4 yX4_degreeFor yX4_degreeFor, Cond.code yX4_degreeFor cX4_degreeFor 4 (some .int), Cond.methodLink RX0 42 yX0_lineUp, Cond.instanceMethod yX0_lineUp, Cond.selects RX0 yX0_lineUp yX0_lineUp, Cond.code yX0_lineUp cX0_lineUp 3 none]
def wsX5_valueOf_r3 : List Cond := [Cond.methodLink RX0 49 yX0_swap, Cond.instanceMethod yX0_swap, Cond.selects RX0 yX0_swap yX0_swap, Cond.code yX0_swap cX0_swap 4 none, Cond.static yX5_setOf, Cond.code yX5_setOf cX5_setOf 1 (some .long), Cond.methodLink RX5 107 yX0_blockSet, Cond.instanceMethod yX0_blockSet, Cond.selects RX0 yX0_blockSet yX0_blockSet, Cond.code yX0_blockSet cX0_blockSet 1 (some .long), Cond.methodLink RX5 111 yX3_valueOfSet, Cond.instanceMethod yX3_valueOfSet, Cond.selects RX3 yX3_valueOfSet yX3_valueOfSet, Cond.code yX3_valueOfSet cX3_valueOfSet 5 (some .int), Cond.methodLink RX3 35 yX3_valueOfSources, Cond.instanceMethod yX3_valueOfSources, Cond.selects RX3 yX3_valueOfSources yX3_valueOfSources, Cond.code yX3_valueOfSources cX3_valueOfSources 5 (some .int), Cond.fieldLink RX3 9 "FountainCode$Sender" "sourceValues" "[I", Cond.static yX5_holds, Cond.code yX5_holds cX5_holds 3 (some .boolean), Cond.methodLink RX5 150 yX5_setOf, Cond.methodLink RX3 39 yX3_blockCount, Cond.methodLink RX3 47 yX3_valueOfBlock]
def wsX5_valueOf_r4 : List Cond := [Cond.instanceMethod yX3_valueOfBlock, Cond.selects RX3 yX3_valueOfBlock yX3_valueOfBlock, Cond.code yX3_valueOfBlock cX3_valueOfBlock 2 (some .int), Cond.methodLink RX3 32 yX3_coveredBy, Cond.instanceMethod yX3_coveredBy, Cond.selects RX3 yX3_coveredBy yX3_coveredBy, Cond.code yX3_coveredBy cX3_coveredBy 5 (some .long)]
def wsX5_valueOf : List Cond := .code yX5_valueOf cX5_valueOf 2 (some .int) :: ((wsX5_valueOf_r1 ++ (wsX5_valueOf_r2 ++ (wsX5_valueOf_r3 ++ wsX5_valueOf_r4))) ++ wsX50 ++ wsX30 ++ wsX00 ++ wsX40)
def wsX5_canTake_r1 : List Cond := [Cond.fieldLink RX5 26 "FountainCode" "peeler" "LFountainCode$Peeler;", Cond.fieldLink RX5 19 "FountainCode" "sender" "LFountainCode$Sender;", Cond.fieldLink RX5 33 "FountainCode" "elimination" "LFountainCode$Elimination;", Cond.methodLink RX5 127 yX2_equationCount, Cond.instanceMethod yX2_equationCount, Cond.selects RX2 yX2_equationCount yX2_equationCount, Cond.initialized RX2, Cond.code yX2_equationCount cX2_equationCount 1 (some .int), Cond.fieldLink RX2 22 "FountainCode$Peeler" "equationCount" "I", Cond.methodLink RX5 188 yX3_parityCount, Cond.instanceMethod yX3_parityCount, Cond.selects RX3 yX3_parityCount yX3_parityCount, Cond.initialized RX3, Cond.code yX3_parityCount cX3_parityCount 1 (some .int), Cond.fieldLink RX3 19 "FountainCode$Sender" "parities" "I", Cond.methodLink RX5 191 yX1_contradicts, Cond.instanceMethod yX1_contradicts, Cond.selects RX1 yX1_contradicts yX1_contradicts, Cond.initialized RX1, Cond.code yX1_contradicts cX1_contradicts 4 (some .boolean), Cond.methodLink RX1 36 yX1_remainder, Cond.instanceMethod yX1_remainder, Cond.selects RX1 yX1_remainder yX1_remainder, Cond.code yX1_remainder cX1_remainder 6 (some .long)]
def wsX5_canTake_r2 : List Cond := [Cond.fieldLink RX1 9 "FountainCode$Elimination" "rows" "[J", Cond.static yX5_holds, Cond.initialized RX5, Cond.code yX5_holds cX5_holds 3 (some .boolean), Cond.methodLink RX5 150 yX5_setOf, Cond.static yX5_setOf, Cond.code yX5_setOf cX5_setOf 1 (some .long), Cond.methodLink RX1 40 yX1_knownValue, Cond.instanceMethod yX1_knownValue, Cond.selects RX1 yX1_knownValue yX1_knownValue, Cond.code yX1_knownValue cX1_knownValue 5 (some .int), Cond.fieldLink RX1 15 "FountainCode$Elimination" "values" "[I"]
def wsX5_canTake : List Cond := .code yX5_canTake cX5_canTake 5 (some .boolean) :: ((wsX5_canTake_r1 ++ wsX5_canTake_r2) ++ wsX50 ++ wsX20 ++ wsX30 ++ wsX10)
def wsX5_take_r1 : List Cond := [Cond.fieldLink RX5 26 "FountainCode" "peeler" "LFountainCode$Peeler;", Cond.methodLink RX5 177 yX5_addEquation, Cond.instanceMethod yX5_addEquation, Cond.selects RX5 yX5_addEquation yX5_addEquation, Cond.initialized RX5, Cond.code yX5_addEquation cX5_addEquation 4 none, Cond.fieldLink RX5 33 "FountainCode" "elimination" "LFountainCode$Elimination;", Cond.methodLink RX5 194 yX2_addEquation, Cond.instanceMethod yX2_addEquation, Cond.selects RX2 yX2_addEquation yX2_addEquation, Cond.initialized RX2, Cond.code yX2_addEquation cX2_addEquation 3 none, Cond.fieldLink RX2 22 "FountainCode$Peeler" "equationCount" "I", Cond.fieldLink RX2 9 "FountainCode$Peeler" "equationSets" "[J", Cond.methodLink RX5 197 yX1_addEquation, Cond.instanceMethod yX1_addEquation, Cond.selects RX1 yX1_addEquation yX1_addEquation, Cond.initialized RX1, Cond.code yX1_addEquation cX1_addEquation 9 none, Cond.fieldLink RX1 9 "FountainCode$Elimination" "rows" "[J", Cond.fieldLink RX1 15 "FountainCode$Elimination" "values" "[I", Cond.fieldLink RX1 19 "FountainCode$Elimination" "rowCount" "I", Cond.methodLink RX1 36 yX1_remainder, Cond.instanceMethod yX1_remainder]
def wsX5_take_r2 : List Cond := [Cond.selects RX1 yX1_remainder yX1_remainder, Cond.code yX1_remainder cX1_remainder 6 (some .long), Cond.static yX5_holds, Cond.code yX5_holds cX5_holds 3 (some .boolean), Cond.methodLink RX5 150 yX5_setOf, Cond.static yX5_setOf, Cond.code yX5_setOf cX5_setOf 1 (some .long), Cond.static yX5_lowestOf, Cond.code yX5_lowestOf cX5_lowestOf 2 (some .int), Cond.methodLink RX5 198 yJ13_bitCount_95d88, Cond.static yJ13_bitCount_95d88, Cond.initialized RJ13, Cond.code yJ13_bitCount_95d88 cJ13_bitCount_95d88 2 (some .int), Cond.constantLong RJ13 314 (6148914691236517205), Cond.constantLong RJ13 316 (3689348814741910323), Cond.constantLong RJ13 318 (1085102592571150095), Cond.methodLink RX1 40 yX1_knownValue, Cond.instanceMethod yX1_knownValue, Cond.selects RX1 yX1_knownValue yX1_knownValue, Cond.code yX1_knownValue cX1_knownValue 5 (some .int), Cond.methodLink RX5 181 yX2_peelOn, Cond.instanceMethod yX2_peelOn, Cond.selects RX2 yX2_peelOn yX2_peelOn, Cond.code yX2_peelOn cX2_peelOn 4 (some .int)]
def wsX5_take_r3 : List Cond := [Cond.fieldLink RX2 26 "FountainCode$Peeler" "peeledCount" "I", Cond.methodLink RX2 39 yX2_lowestReady, Cond.instanceMethod yX2_lowestReady, Cond.selects RX2 yX2_lowestReady yX2_lowestReady, Cond.code yX2_lowestReady cX2_lowestReady 2 (some .int), Cond.fieldLink RX2 29 "FountainCode$Peeler" "peeledSet" "J", Cond.constantLong RX2 47 (-1), Cond.methodLink RX2 49 yJ13_bitCount_95d88, Cond.methodLink RX2 43 yX2_peelWith, Cond.instanceMethod yX2_peelWith, Cond.selects RX2 yX2_peelWith yX2_peelWith, Cond.code yX2_peelWith cX2_peelWith 3 none, Cond.fieldLink RX2 15 "FountainCode$Peeler" "peelOrder" "[I", Cond.fieldLink RX2 19 "FountainCode$Peeler" "peelEquations" "[I"]
def wsX5_take : List Cond := .code yX5_take cX5_take 4 (some .int) :: ((wsX5_take_r1 ++ (wsX5_take_r2 ++ wsX5_take_r3)) ++ wsX50 ++ wsX20 ++ wsX10)
def wsX5_receive_r1 : List Cond := [Cond.classLink RX5 65 "java/lang/IllegalStateException", Cond.initialized "java/lang/IllegalStateException", Cond.methodLink RX5 95 yX5_drawn, Cond.instanceMethod yX5_drawn, Cond.selects RX5 yX5_drawn yX5_drawn, Cond.initialized RX5, Cond.code yX5_drawn cX5_drawn 2 (some (.object "FountainCode$Drop")), Cond.fieldLink RX5 40 "FountainCode" "scratchDrop" "LFountainCode$Drop;", Cond.fieldLink RX5 12 "FountainCode" "weights" "LFountainCode$Weights;", Cond.fieldLink RX5 19 "FountainCode" "sender" "LFountainCode$Sender;", Cond.methodLink RX5 86 yX3_blockCount, Cond.instanceMethod yX3_blockCount, Cond.selects RX3 yX3_blockCount yX3_blockCount, Cond.initialized RX3, Cond.code yX3_blockCount cX3_blockCount 1 (some .int), Cond.fieldLink RX3 15 "FountainCode$Sender" "sources" "I", Cond.fieldLink RX3 19 "FountainCode$Sender" "parities" "I", Cond.methodLink RX5 184 yX0_draw, Cond.instanceMethod yX0_draw, Cond.selects RX0 yX0_draw yX0_draw, Cond.initialized RX0, Cond.code yX0_draw cX0_draw 5 none, Cond.fieldLink RX0 15 "FountainCode$Drop" "generator" "J", Cond.methodLink RX0 32 Lib.Math.min.name]
def wsX5_receive_r2 : List Cond := [Cond.static Lib.Math.min.name, Cond.initialized "java/lang/Math", Cond.code Lib.Math.min.name Lib.Math.min.code 2 (some .int), Cond.fieldLink RX0 38 "FountainCode$Drop" "size" "I", Cond.fieldLink RX0 46 "FountainCode$Drop" "blockSet" "J", Cond.fieldLink RX0 9 "FountainCode$Drop" "row" "[I", Cond.methodLink RX0 19 yX4_sum, Cond.instanceMethod yX4_sum, Cond.selects RX4 yX4_sum yX4_sum, Cond.initialized RX4, Cond.code yX4_sum cX4_sum 3 (some .int), Cond.fieldLink RX4 20 "FountainCode$Weights" "list" "[I", Cond.methodLink RX0 25 yX0_numberBelow, Cond.instanceMethod yX0_numberBelow, Cond.selects RX0 yX0_numberBelow yX0_numberBelow, Cond.code yX0_numberBelow cX0_numberBelow 2 (some .int), Cond.constantLong RX0 57 (6364136223846793005), Cond.constantLong RX0 59 (1442695040888963407), Cond.methodLink RX0 29 yX4_degreeFor, Cond.instanceMethod yX4_degreeFor, Cond.selects RX4 yX4_degreeFor yX4_degreeFor, Cond.code yX4_degreeFor cX4_degreeFor 4 (some .int), Cond.methodLink RX0 42 yX0_lineUp, Cond.instanceMethod yX0_lineUp]
def wsX5_receive_r3 : List Cond := [Cond.selects RX0 yX0_lineUp yX0_lineUp, Cond.code yX0_lineUp cX0_lineUp 3 none, Cond.methodLink RX0 49 yX0_swap, Cond.instanceMethod yX0_swap, Cond.selects RX0 yX0_swap yX0_swap, Cond.code yX0_swap cX0_swap 4 none, Cond.static yX5_setOf, Cond.code yX5_setOf cX5_setOf 1 (some .long), Cond.methodLink RX5 107 yX0_blockSet, Cond.instanceMethod yX0_blockSet, Cond.selects RX0 yX0_blockSet yX0_blockSet, Cond.code yX0_blockSet cX0_blockSet 1 (some .long), Cond.methodLink RX5 115 yX5_canTake, Cond.instanceMethod yX5_canTake, Cond.selects RX5 yX5_canTake yX5_canTake, Cond.code yX5_canTake cX5_canTake 5 (some .boolean), Cond.fieldLink RX5 26 "FountainCode" "peeler" "LFountainCode$Peeler;", Cond.fieldLink RX5 33 "FountainCode" "elimination" "LFountainCode$Elimination;", Cond.methodLink RX5 127 yX2_equationCount, Cond.instanceMethod yX2_equationCount, Cond.selects RX2 yX2_equationCount yX2_equationCount, Cond.initialized RX2, Cond.code yX2_equationCount cX2_equationCount 1 (some .int), Cond.fieldLink RX2 22 "FountainCode$Peeler" "equationCount" "I"]
def wsX5_receive_r4 : List Cond := [Cond.methodLink RX5 188 yX3_parityCount, Cond.instanceMethod yX3_parityCount, Cond.selects RX3 yX3_parityCount yX3_parityCount, Cond.code yX3_parityCount cX3_parityCount 1 (some .int), Cond.methodLink RX5 191 yX1_contradicts, Cond.instanceMethod yX1_contradicts, Cond.selects RX1 yX1_contradicts yX1_contradicts, Cond.initialized RX1, Cond.code yX1_contradicts cX1_contradicts 4 (some .boolean), Cond.methodLink RX1 36 yX1_remainder, Cond.instanceMethod yX1_remainder, Cond.selects RX1 yX1_remainder yX1_remainder, Cond.code yX1_remainder cX1_remainder 6 (some .long), Cond.fieldLink RX1 9 "FountainCode$Elimination" "rows" "[J", Cond.static yX5_holds, Cond.code yX5_holds cX5_holds 3 (some .boolean), Cond.methodLink RX5 150 yX5_setOf, Cond.methodLink RX1 40 yX1_knownValue, Cond.instanceMethod yX1_knownValue, Cond.selects RX1 yX1_knownValue yX1_knownValue, Cond.code yX1_knownValue cX1_knownValue 5 (some .int), Cond.fieldLink RX1 15 "FountainCode$Elimination" "values" "[I", Cond.methodLink RX5 121 yX5_take, Cond.instanceMethod yX5_take]
def wsX5_receive_r5 : List Cond := [Cond.selects RX5 yX5_take yX5_take, Cond.code yX5_take cX5_take 4 (some .int), Cond.methodLink RX5 177 yX5_addEquation, Cond.instanceMethod yX5_addEquation, Cond.selects RX5 yX5_addEquation yX5_addEquation, Cond.code yX5_addEquation cX5_addEquation 4 none, Cond.methodLink RX5 194 yX2_addEquation, Cond.instanceMethod yX2_addEquation, Cond.selects RX2 yX2_addEquation yX2_addEquation, Cond.code yX2_addEquation cX2_addEquation 3 none, Cond.fieldLink RX2 9 "FountainCode$Peeler" "equationSets" "[J", Cond.methodLink RX5 197 yX1_addEquation, Cond.instanceMethod yX1_addEquation, Cond.selects RX1 yX1_addEquation yX1_addEquation, Cond.code yX1_addEquation cX1_addEquation 9 none, Cond.fieldLink RX1 19 "FountainCode$Elimination" "rowCount" "I", Cond.static yX5_lowestOf, Cond.code yX5_lowestOf cX5_lowestOf 2 (some .int), Cond.methodLink RX5 198 yJ13_bitCount_95d88, Cond.static yJ13_bitCount_95d88, Cond.initialized RJ13, Cond.code yJ13_bitCount_95d88 cJ13_bitCount_95d88 2 (some .int), Cond.constantLong RJ13 314 (6148914691236517205), Cond.constantLong RJ13 316 (3689348814741910323)]
def wsX5_receive_r6 : List Cond := [Cond.constantLong RJ13 318 (1085102592571150095), Cond.methodLink RX5 181 yX2_peelOn, Cond.instanceMethod yX2_peelOn, Cond.selects RX2 yX2_peelOn yX2_peelOn, Cond.code yX2_peelOn cX2_peelOn 4 (some .int), Cond.fieldLink RX2 26 "FountainCode$Peeler" "peeledCount" "I", Cond.methodLink RX2 39 yX2_lowestReady, Cond.instanceMethod yX2_lowestReady, Cond.selects RX2 yX2_lowestReady yX2_lowestReady, Cond.code yX2_lowestReady cX2_lowestReady 2 (some .int), Cond.fieldLink RX2 29 "FountainCode$Peeler" "peeledSet" "J", Cond.constantLong RX2 47 (-1), Cond.methodLink RX2 49 yJ13_bitCount_95d88, Cond.methodLink RX2 43 yX2_peelWith, Cond.instanceMethod yX2_peelWith, Cond.selects RX2 yX2_peelWith yX2_peelWith, Cond.code yX2_peelWith cX2_peelWith 3 none, Cond.fieldLink RX2 15 "FountainCode$Peeler" "peelOrder" "[I", Cond.fieldLink RX2 19 "FountainCode$Peeler" "peelEquations" "[I"]
def wsX5_receive : List Cond := .code yX5_receive cX5_receive 5 (some .int) :: ((wsX5_receive_r1 ++ (wsX5_receive_r2 ++ (wsX5_receive_r3 ++ (wsX5_receive_r4 ++ (wsX5_receive_r5 ++ wsX5_receive_r6))))) ++ wsX50 ++ wsX30 ++ wsX00 ++ wsX40 ++ wsX20 ++ wsX10 ++ (vx_atS RX5 69 "java/lang/IllegalStateException" ["java/lang/RuntimeException", "java/lang/Exception"]).filter goodWord)
def wsX5_receiveAll_r1 : List Cond := [Cond.classLink RX5 48 "java/lang/IllegalArgumentException", Cond.initialized "java/lang/IllegalArgumentException", Cond.fieldLink RX5 19 "FountainCode" "sender" "LFountainCode$Sender;", Cond.methodLink RX5 95 yX5_drawn, Cond.instanceMethod yX5_drawn, Cond.selects RX5 yX5_drawn yX5_drawn, Cond.initialized RX5, Cond.code yX5_drawn cX5_drawn 2 (some (.object "FountainCode$Drop")), Cond.fieldLink RX5 40 "FountainCode" "scratchDrop" "LFountainCode$Drop;", Cond.fieldLink RX5 12 "FountainCode" "weights" "LFountainCode$Weights;", Cond.methodLink RX5 86 yX3_blockCount, Cond.instanceMethod yX3_blockCount, Cond.selects RX3 yX3_blockCount yX3_blockCount, Cond.initialized RX3, Cond.code yX3_blockCount cX3_blockCount 1 (some .int), Cond.fieldLink RX3 15 "FountainCode$Sender" "sources" "I", Cond.fieldLink RX3 19 "FountainCode$Sender" "parities" "I", Cond.methodLink RX5 184 yX0_draw, Cond.instanceMethod yX0_draw, Cond.selects RX0 yX0_draw yX0_draw, Cond.initialized RX0, Cond.code yX0_draw cX0_draw 5 none, Cond.fieldLink RX0 15 "FountainCode$Drop" "generator" "J", Cond.methodLink RX0 32 Lib.Math.min.name]
def wsX5_receiveAll_r2 : List Cond := [Cond.static Lib.Math.min.name, Cond.initialized "java/lang/Math", Cond.code Lib.Math.min.name Lib.Math.min.code 2 (some .int), Cond.fieldLink RX0 38 "FountainCode$Drop" "size" "I", Cond.fieldLink RX0 46 "FountainCode$Drop" "blockSet" "J", Cond.fieldLink RX0 9 "FountainCode$Drop" "row" "[I", Cond.methodLink RX0 19 yX4_sum, Cond.instanceMethod yX4_sum, Cond.selects RX4 yX4_sum yX4_sum, Cond.initialized RX4, Cond.code yX4_sum cX4_sum 3 (some .int), Cond.fieldLink RX4 20 "FountainCode$Weights" "list" "[I", Cond.methodLink RX0 25 yX0_numberBelow, Cond.instanceMethod yX0_numberBelow, Cond.selects RX0 yX0_numberBelow yX0_numberBelow, Cond.code yX0_numberBelow cX0_numberBelow 2 (some .int), Cond.constantLong RX0 57 (6364136223846793005), Cond.constantLong RX0 59 (1442695040888963407), Cond.methodLink RX0 29 yX4_degreeFor, Cond.instanceMethod yX4_degreeFor, Cond.selects RX4 yX4_degreeFor yX4_degreeFor, Cond.code yX4_degreeFor cX4_degreeFor 4 (some .int), Cond.methodLink RX0 42 yX0_lineUp, Cond.instanceMethod yX0_lineUp]
def wsX5_receiveAll_r3 : List Cond := [Cond.selects RX0 yX0_lineUp yX0_lineUp, Cond.code yX0_lineUp cX0_lineUp 3 none, Cond.methodLink RX0 49 yX0_swap, Cond.instanceMethod yX0_swap, Cond.selects RX0 yX0_swap yX0_swap, Cond.code yX0_swap cX0_swap 4 none, Cond.static yX5_setOf, Cond.code yX5_setOf cX5_setOf 1 (some .long), Cond.methodLink RX5 107 yX0_blockSet, Cond.instanceMethod yX0_blockSet, Cond.selects RX0 yX0_blockSet yX0_blockSet, Cond.code yX0_blockSet cX0_blockSet 1 (some .long), Cond.methodLink RX5 111 yX3_valueOfSet, Cond.instanceMethod yX3_valueOfSet, Cond.selects RX3 yX3_valueOfSet yX3_valueOfSet, Cond.code yX3_valueOfSet cX3_valueOfSet 5 (some .int), Cond.methodLink RX3 35 yX3_valueOfSources, Cond.instanceMethod yX3_valueOfSources, Cond.selects RX3 yX3_valueOfSources yX3_valueOfSources, Cond.code yX3_valueOfSources cX3_valueOfSources 5 (some .int), Cond.fieldLink RX3 9 "FountainCode$Sender" "sourceValues" "[I", Cond.static yX5_holds, Cond.code yX5_holds cX5_holds 3 (some .boolean), Cond.methodLink RX5 150 yX5_setOf]
def wsX5_receiveAll_r4 : List Cond := [Cond.methodLink RX3 39 yX3_blockCount, Cond.methodLink RX3 47 yX3_valueOfBlock, Cond.instanceMethod yX3_valueOfBlock, Cond.selects RX3 yX3_valueOfBlock yX3_valueOfBlock, Cond.code yX3_valueOfBlock cX3_valueOfBlock 2 (some .int), Cond.methodLink RX3 32 yX3_coveredBy, Cond.instanceMethod yX3_coveredBy, Cond.selects RX3 yX3_coveredBy yX3_coveredBy, Cond.code yX3_coveredBy cX3_coveredBy 5 (some .long), Cond.methodLink RX5 115 yX5_canTake, Cond.instanceMethod yX5_canTake, Cond.selects RX5 yX5_canTake yX5_canTake, Cond.code yX5_canTake cX5_canTake 5 (some .boolean), Cond.fieldLink RX5 26 "FountainCode" "peeler" "LFountainCode$Peeler;", Cond.fieldLink RX5 33 "FountainCode" "elimination" "LFountainCode$Elimination;", Cond.methodLink RX5 127 yX2_equationCount, Cond.instanceMethod yX2_equationCount, Cond.selects RX2 yX2_equationCount yX2_equationCount, Cond.initialized RX2, Cond.code yX2_equationCount cX2_equationCount 1 (some .int), Cond.fieldLink RX2 22 "FountainCode$Peeler" "equationCount" "I", Cond.methodLink RX5 188 yX3_parityCount, Cond.instanceMethod yX3_parityCount, Cond.selects RX3 yX3_parityCount yX3_parityCount]
def wsX5_receiveAll_r5 : List Cond := [Cond.code yX3_parityCount cX3_parityCount 1 (some .int), Cond.methodLink RX5 191 yX1_contradicts, Cond.instanceMethod yX1_contradicts, Cond.selects RX1 yX1_contradicts yX1_contradicts, Cond.initialized RX1, Cond.code yX1_contradicts cX1_contradicts 4 (some .boolean), Cond.methodLink RX1 36 yX1_remainder, Cond.instanceMethod yX1_remainder, Cond.selects RX1 yX1_remainder yX1_remainder, Cond.code yX1_remainder cX1_remainder 6 (some .long), Cond.fieldLink RX1 9 "FountainCode$Elimination" "rows" "[J", Cond.methodLink RX1 40 yX1_knownValue, Cond.instanceMethod yX1_knownValue, Cond.selects RX1 yX1_knownValue yX1_knownValue, Cond.code yX1_knownValue cX1_knownValue 5 (some .int), Cond.fieldLink RX1 15 "FountainCode$Elimination" "values" "[I", Cond.methodLink RX5 121 yX5_take, Cond.instanceMethod yX5_take, Cond.selects RX5 yX5_take yX5_take, Cond.code yX5_take cX5_take 4 (some .int), Cond.methodLink RX5 177 yX5_addEquation, Cond.instanceMethod yX5_addEquation, Cond.selects RX5 yX5_addEquation yX5_addEquation, Cond.code yX5_addEquation cX5_addEquation 4 none]
def wsX5_receiveAll_r6 : List Cond := [Cond.methodLink RX5 194 yX2_addEquation, Cond.instanceMethod yX2_addEquation, Cond.selects RX2 yX2_addEquation yX2_addEquation, Cond.code yX2_addEquation cX2_addEquation 3 none, Cond.fieldLink RX2 9 "FountainCode$Peeler" "equationSets" "[J", Cond.methodLink RX5 197 yX1_addEquation, Cond.instanceMethod yX1_addEquation, Cond.selects RX1 yX1_addEquation yX1_addEquation, Cond.code yX1_addEquation cX1_addEquation 9 none, Cond.fieldLink RX1 19 "FountainCode$Elimination" "rowCount" "I", Cond.static yX5_lowestOf, Cond.code yX5_lowestOf cX5_lowestOf 2 (some .int), Cond.methodLink RX5 198 yJ13_bitCount_95d88, Cond.static yJ13_bitCount_95d88, Cond.initialized RJ13, Cond.code yJ13_bitCount_95d88 cJ13_bitCount_95d88 2 (some .int), Cond.constantLong RJ13 314 (6148914691236517205), Cond.constantLong RJ13 316 (3689348814741910323), Cond.constantLong RJ13 318 (1085102592571150095), Cond.methodLink RX5 181 yX2_peelOn, Cond.instanceMethod yX2_peelOn, Cond.selects RX2 yX2_peelOn yX2_peelOn, Cond.code yX2_peelOn cX2_peelOn 4 (some .int), Cond.fieldLink RX2 26 "FountainCode$Peeler" "peeledCount" "I"]
def wsX5_receiveAll_r7 : List Cond := [Cond.methodLink RX2 39 yX2_lowestReady, Cond.instanceMethod yX2_lowestReady, Cond.selects RX2 yX2_lowestReady yX2_lowestReady, Cond.code yX2_lowestReady cX2_lowestReady 2 (some .int), Cond.fieldLink RX2 29 "FountainCode$Peeler" "peeledSet" "J", Cond.constantLong RX2 47 (-1), Cond.methodLink RX2 49 yJ13_bitCount_95d88, Cond.methodLink RX2 43 yX2_peelWith, Cond.instanceMethod yX2_peelWith, Cond.selects RX2 yX2_peelWith yX2_peelWith, Cond.code yX2_peelWith cX2_peelWith 3 none, Cond.fieldLink RX2 15 "FountainCode$Peeler" "peelOrder" "[I", Cond.fieldLink RX2 19 "FountainCode$Peeler" "peelEquations" "[I"]
def wsX5_receiveAll : List Cond := .code yX5_receiveAll cX5_receiveAll 7 (some .int) :: ((wsX5_receiveAll_r1 ++ (wsX5_receiveAll_r2 ++ (wsX5_receiveAll_r3 ++ (wsX5_receiveAll_r4 ++ (wsX5_receiveAll_r5 ++ (wsX5_receiveAll_r6 ++ wsX5_receiveAll_r7)))))) ++ wsX50 ++ wsX30 ++ wsX00 ++ wsX40 ++ wsX20 ++ wsX10 ++ (vx_atS RX5 52 "java/lang/IllegalArgumentException" ["java/lang/RuntimeException", "java/lang/Exception"]).filter goodWord)
def wsX5_equations : List Cond := .code yX5_equations cX5_equations 1 (some .int) :: ([.fieldLink RX5 26 "FountainCode" "peeler" "LFountainCode$Peeler;", .methodLink RX5 127 yX2_equationCount, .instanceMethod yX2_equationCount, .selects RX2 yX2_equationCount yX2_equationCount, .initialized RX2, .code yX2_equationCount cX2_equationCount 1 (some .int), .fieldLink RX2 22 "FountainCode$Peeler" "equationCount" "I"] ++ wsX50 ++ wsX20)
def wsX5_rank : List Cond := .code yX5_rank cX5_rank 1 (some .int) :: ([.fieldLink RX5 33 "FountainCode" "elimination" "LFountainCode$Elimination;", .methodLink RX5 130 yX1_rowCount, .instanceMethod yX1_rowCount, .selects RX1 yX1_rowCount yX1_rowCount, .initialized RX1, .code yX1_rowCount cX1_rowCount 1 (some .int), .fieldLink RX1 19 "FountainCode$Elimination" "rowCount" "I"] ++ wsX50 ++ wsX10)
def wsX5_peeled : List Cond := .code yX5_peeled cX5_peeled 1 (some .int) :: ([.fieldLink RX5 26 "FountainCode" "peeler" "LFountainCode$Peeler;", .methodLink RX5 133 yX2_peeledCount, .instanceMethod yX2_peeledCount, .selects RX2 yX2_peeledCount yX2_peeledCount, .initialized RX2, .code yX2_peeledCount cX2_peeledCount 1 (some .int), .fieldLink RX2 26 "FountainCode$Peeler" "peeledCount" "I"] ++ wsX50 ++ wsX20)
def wsX5_peeledAt : List Cond := .code yX5_peeledAt cX5_peeledAt 2 (some .int) :: ([.classLink RX5 77 "java/lang/IndexOutOfBoundsException", .initialized "java/lang/IndexOutOfBoundsException", .fieldLink RX5 26 "FountainCode" "peeler" "LFountainCode$Peeler;", .methodLink RX5 133 yX2_peeledCount, .instanceMethod yX2_peeledCount, .selects RX2 yX2_peeledCount yX2_peeledCount, .initialized RX2, .code yX2_peeledCount cX2_peeledCount 1 (some .int), .fieldLink RX2 26 "FountainCode$Peeler" "peeledCount" "I", .methodLink RX5 136 yX2_peeledInPlace, .instanceMethod yX2_peeledInPlace, .selects RX2 yX2_peeledInPlace yX2_peeledInPlace, .code yX2_peeledInPlace cX2_peeledInPlace 2 (some .int), .fieldLink RX2 15 "FountainCode$Peeler" "peelOrder" "[I"] ++ wsX50 ++ wsX20 ++ (vx_atS RX5 81 "java/lang/IndexOutOfBoundsException" ["java/lang/RuntimeException", "java/lang/Exception"]).filter goodWord)
def wsX5_peeledBy : List Cond := .code yX5_peeledBy cX5_peeledBy 2 (some .int) :: ([.classLink RX5 77 "java/lang/IndexOutOfBoundsException", .initialized "java/lang/IndexOutOfBoundsException", .fieldLink RX5 26 "FountainCode" "peeler" "LFountainCode$Peeler;", .methodLink RX5 89 yX5_isBlock, .instanceMethod yX5_isBlock, .selects RX5 yX5_isBlock yX5_isBlock, .initialized RX5, .code yX5_isBlock cX5_isBlock 2 (some .boolean), .fieldLink RX5 19 "FountainCode" "sender" "LFountainCode$Sender;", .methodLink RX5 86 yX3_blockCount, .instanceMethod yX3_blockCount, .selects RX3 yX3_blockCount yX3_blockCount, .initialized RX3, .code yX3_blockCount cX3_blockCount 1 (some .int), .fieldLink RX3 15 "FountainCode$Sender" "sources" "I", .fieldLink RX3 19 "FountainCode$Sender" "parities" "I", .methodLink RX5 139 yX2_equationThatPeeled, .instanceMethod yX2_equationThatPeeled, .selects RX2 yX2_equationThatPeeled yX2_equationThatPeeled, .initialized RX2, .code yX2_equationThatPeeled cX2_equationThatPeeled 2 (some .int), .fieldLink RX2 19 "FountainCode$Peeler" "peelEquations" "[I"] ++ wsX50 ++ wsX30 ++ wsX20 ++ (vx_atS RX5 81 "java/lang/IndexOutOfBoundsException" ["java/lang/RuntimeException", "java/lang/Exception"]).filter goodWord)
def wsX5_determined : List Cond := .code yX5_determined cX5_determined 1 (some .int) :: ([.fieldLink RX5 33 "FountainCode" "elimination" "LFountainCode$Elimination;", .fieldLink RX5 19 "FountainCode" "sender" "LFountainCode$Sender;", .methodLink RX5 86 yX3_blockCount, .instanceMethod yX3_blockCount, .selects RX3 yX3_blockCount yX3_blockCount, .initialized RX3, .code yX3_blockCount cX3_blockCount 1 (some .int), .fieldLink RX3 15 "FountainCode$Sender" "sources" "I", .fieldLink RX3 19 "FountainCode$Sender" "parities" "I", .methodLink RX5 142 yX1_countLeaving, .instanceMethod yX1_countLeaving, .selects RX1 yX1_countLeaving yX1_countLeaving, .initialized RX1, .code yX1_countLeaving cX1_countLeaving 6 (some .int), .methodLink RX1 44 yX1_remainderOfBlock, .instanceMethod yX1_remainderOfBlock, .selects RX1 yX1_remainderOfBlock yX1_remainderOfBlock, .code yX1_remainderOfBlock cX1_remainderOfBlock 4 (some .long), .fieldLink RX1 9 "FountainCode$Elimination" "rows" "[J", .static yX5_setOf, .initialized RX5, .code yX5_setOf cX5_setOf 1 (some .long)] ++ wsX50 ++ wsX30 ++ wsX10)
def wsX5_isDetermined_r1 : List Cond := [Cond.classLink RX5 77 "java/lang/IndexOutOfBoundsException", Cond.initialized "java/lang/IndexOutOfBoundsException", Cond.fieldLink RX5 33 "FountainCode" "elimination" "LFountainCode$Elimination;", Cond.methodLink RX5 89 yX5_isBlock, Cond.instanceMethod yX5_isBlock, Cond.selects RX5 yX5_isBlock yX5_isBlock, Cond.initialized RX5, Cond.code yX5_isBlock cX5_isBlock 2 (some .boolean), Cond.fieldLink RX5 19 "FountainCode" "sender" "LFountainCode$Sender;", Cond.methodLink RX5 86 yX3_blockCount, Cond.instanceMethod yX3_blockCount, Cond.selects RX3 yX3_blockCount yX3_blockCount, Cond.initialized RX3, Cond.code yX3_blockCount cX3_blockCount 1 (some .int), Cond.fieldLink RX3 15 "FountainCode$Sender" "sources" "I", Cond.fieldLink RX3 19 "FountainCode$Sender" "parities" "I", Cond.methodLink RX5 145 yX1_fixes, Cond.instanceMethod yX1_fixes, Cond.selects RX1 yX1_fixes yX1_fixes, Cond.initialized RX1, Cond.code yX1_fixes cX1_fixes 2 (some .boolean), Cond.methodLink RX1 44 yX1_remainderOfBlock, Cond.instanceMethod yX1_remainderOfBlock, Cond.selects RX1 yX1_remainderOfBlock yX1_remainderOfBlock]
def wsX5_isDetermined_r2 : List Cond := [Cond.code yX1_remainderOfBlock cX1_remainderOfBlock 4 (some .long), Cond.fieldLink RX1 9 "FountainCode$Elimination" "rows" "[J", Cond.static yX5_setOf, Cond.code yX5_setOf cX5_setOf 1 (some .long)]
def wsX5_isDetermined : List Cond := .code yX5_isDetermined cX5_isDetermined 2 (some .boolean) :: ((wsX5_isDetermined_r1 ++ wsX5_isDetermined_r2) ++ wsX50 ++ wsX30 ++ wsX10 ++ (vx_atS RX5 81 "java/lang/IndexOutOfBoundsException" ["java/lang/RuntimeException", "java/lang/Exception"]).filter goodWord)
def wsX5_recovered_r1 : List Cond := [Cond.classLink RX5 77 "java/lang/IndexOutOfBoundsException", Cond.initialized "java/lang/IndexOutOfBoundsException", Cond.classLink RX5 65 "java/lang/IllegalStateException", Cond.initialized "java/lang/IllegalStateException", Cond.fieldLink RX5 33 "FountainCode" "elimination" "LFountainCode$Elimination;", Cond.methodLink RX5 89 yX5_isBlock, Cond.instanceMethod yX5_isBlock, Cond.selects RX5 yX5_isBlock yX5_isBlock, Cond.initialized RX5, Cond.code yX5_isBlock cX5_isBlock 2 (some .boolean), Cond.fieldLink RX5 19 "FountainCode" "sender" "LFountainCode$Sender;", Cond.methodLink RX5 86 yX3_blockCount, Cond.instanceMethod yX3_blockCount, Cond.selects RX3 yX3_blockCount yX3_blockCount, Cond.initialized RX3, Cond.code yX3_blockCount cX3_blockCount 1 (some .int), Cond.fieldLink RX3 15 "FountainCode$Sender" "sources" "I", Cond.fieldLink RX3 19 "FountainCode$Sender" "parities" "I", Cond.methodLink RX5 145 yX1_fixes, Cond.instanceMethod yX1_fixes, Cond.selects RX1 yX1_fixes yX1_fixes, Cond.initialized RX1, Cond.code yX1_fixes cX1_fixes 2 (some .boolean), Cond.methodLink RX1 44 yX1_remainderOfBlock]
def wsX5_recovered_r2 : List Cond := [Cond.instanceMethod yX1_remainderOfBlock, Cond.selects RX1 yX1_remainderOfBlock yX1_remainderOfBlock, Cond.code yX1_remainderOfBlock cX1_remainderOfBlock 4 (some .long), Cond.fieldLink RX1 9 "FountainCode$Elimination" "rows" "[J", Cond.static yX5_setOf, Cond.code yX5_setOf cX5_setOf 1 (some .long), Cond.methodLink RX5 150 yX5_setOf, Cond.methodLink RX5 154 yX1_knownValue, Cond.instanceMethod yX1_knownValue, Cond.selects RX1 yX1_knownValue yX1_knownValue, Cond.code yX1_knownValue cX1_knownValue 5 (some .int), Cond.fieldLink RX1 15 "FountainCode$Elimination" "values" "[I", Cond.static yX5_holds, Cond.code yX5_holds cX5_holds 3 (some .boolean)]
def wsX5_recovered : List Cond := .code yX5_recovered cX5_recovered 2 (some .int) :: ((wsX5_recovered_r1 ++ wsX5_recovered_r2) ++ wsX50 ++ wsX30 ++ wsX10 ++ (vx_atS RX5 81 "java/lang/IndexOutOfBoundsException" ["java/lang/RuntimeException", "java/lang/Exception"]).filter goodWord ++ (vx_atS RX5 69 "java/lang/IllegalStateException" ["java/lang/RuntimeException", "java/lang/Exception"]).filter goodWord)
def wsX5_wouldHelp_r1 : List Cond := [Cond.fieldLink RX5 33 "FountainCode" "elimination" "LFountainCode$Elimination;", Cond.methodLink RX5 95 yX5_drawn, Cond.instanceMethod yX5_drawn, Cond.selects RX5 yX5_drawn yX5_drawn, Cond.initialized RX5, Cond.code yX5_drawn cX5_drawn 2 (some (.object "FountainCode$Drop")), Cond.fieldLink RX5 40 "FountainCode" "scratchDrop" "LFountainCode$Drop;", Cond.fieldLink RX5 12 "FountainCode" "weights" "LFountainCode$Weights;", Cond.fieldLink RX5 19 "FountainCode" "sender" "LFountainCode$Sender;", Cond.methodLink RX5 86 yX3_blockCount, Cond.instanceMethod yX3_blockCount, Cond.selects RX3 yX3_blockCount yX3_blockCount, Cond.initialized RX3, Cond.code yX3_blockCount cX3_blockCount 1 (some .int), Cond.fieldLink RX3 15 "FountainCode$Sender" "sources" "I", Cond.fieldLink RX3 19 "FountainCode$Sender" "parities" "I", Cond.methodLink RX5 184 yX0_draw, Cond.instanceMethod yX0_draw, Cond.selects RX0 yX0_draw yX0_draw, Cond.initialized RX0, Cond.code yX0_draw cX0_draw 5 none, Cond.fieldLink RX0 15 "FountainCode$Drop" "generator" "J", Cond.methodLink RX0 32 Lib.Math.min.name, Cond.static Lib.Math.min.name]
def wsX5_wouldHelp_r2 : List Cond := [Cond.initialized "java/lang/Math", Cond.code Lib.Math.min.name Lib.Math.min.code 2 (some .int), Cond.fieldLink RX0 38 "FountainCode$Drop" "size" "I", Cond.fieldLink RX0 46 "FountainCode$Drop" "blockSet" "J", Cond.fieldLink RX0 9 "FountainCode$Drop" "row" "[I", Cond.methodLink RX0 19 yX4_sum, Cond.instanceMethod yX4_sum, Cond.selects RX4 yX4_sum yX4_sum, Cond.initialized RX4, Cond.code yX4_sum cX4_sum 3 (some .int), Cond.fieldLink RX4 20 "FountainCode$Weights" "list" "[I", Cond.methodLink RX0 25 yX0_numberBelow, Cond.instanceMethod yX0_numberBelow, Cond.selects RX0 yX0_numberBelow yX0_numberBelow, Cond.code yX0_numberBelow cX0_numberBelow 2 (some .int), Cond.constantLong RX0 57 (6364136223846793005), Cond.constantLong RX0 59 (1442695040888963407), Cond.methodLink RX0 29 yX4_degreeFor, Cond.instanceMethod yX4_degreeFor, Cond.selects RX4 yX4_degreeFor yX4_degreeFor, Cond.code yX4_degreeFor cX4_degreeFor 4 (some .int), Cond.methodLink RX0 42 yX0_lineUp, Cond.instanceMethod yX0_lineUp, Cond.selects RX0 yX0_lineUp yX0_lineUp]
def wsX5_wouldHelp_r3 : List Cond := [Cond.code yX0_lineUp cX0_lineUp 3 none, Cond.methodLink RX0 49 yX0_swap, Cond.instanceMethod yX0_swap, Cond.selects RX0 yX0_swap yX0_swap, Cond.code yX0_swap cX0_swap 4 none, Cond.static yX5_setOf, Cond.code yX5_setOf cX5_setOf 1 (some .long), Cond.methodLink RX5 107 yX0_blockSet, Cond.instanceMethod yX0_blockSet, Cond.selects RX0 yX0_blockSet yX0_blockSet, Cond.code yX0_blockSet cX0_blockSet 1 (some .long), Cond.methodLink RX5 157 yX1_remainder, Cond.instanceMethod yX1_remainder, Cond.selects RX1 yX1_remainder yX1_remainder, Cond.initialized RX1, Cond.code yX1_remainder cX1_remainder 6 (some .long), Cond.fieldLink RX1 9 "FountainCode$Elimination" "rows" "[J", Cond.static yX5_holds, Cond.code yX5_holds cX5_holds 3 (some .boolean), Cond.methodLink RX5 150 yX5_setOf]
def wsX5_wouldHelp : List Cond := .code yX5_wouldHelp cX5_wouldHelp 2 (some .boolean) :: ((wsX5_wouldHelp_r1 ++ (wsX5_wouldHelp_r2 ++ wsX5_wouldHelp_r3)) ++ wsX50 ++ wsX30 ++ wsX00 ++ wsX40 ++ wsX10)
def wsX5_wouldDetermine_r1 : List Cond := [Cond.fieldLink RX5 33 "FountainCode" "elimination" "LFountainCode$Elimination;", Cond.fieldLink RX5 19 "FountainCode" "sender" "LFountainCode$Sender;", Cond.methodLink RX5 95 yX5_drawn, Cond.instanceMethod yX5_drawn, Cond.selects RX5 yX5_drawn yX5_drawn, Cond.initialized RX5, Cond.code yX5_drawn cX5_drawn 2 (some (.object "FountainCode$Drop")), Cond.fieldLink RX5 40 "FountainCode" "scratchDrop" "LFountainCode$Drop;", Cond.fieldLink RX5 12 "FountainCode" "weights" "LFountainCode$Weights;", Cond.methodLink RX5 86 yX3_blockCount, Cond.instanceMethod yX3_blockCount, Cond.selects RX3 yX3_blockCount yX3_blockCount, Cond.initialized RX3, Cond.code yX3_blockCount cX3_blockCount 1 (some .int), Cond.fieldLink RX3 15 "FountainCode$Sender" "sources" "I", Cond.fieldLink RX3 19 "FountainCode$Sender" "parities" "I", Cond.methodLink RX5 184 yX0_draw, Cond.instanceMethod yX0_draw, Cond.selects RX0 yX0_draw yX0_draw, Cond.initialized RX0, Cond.code yX0_draw cX0_draw 5 none, Cond.fieldLink RX0 15 "FountainCode$Drop" "generator" "J", Cond.methodLink RX0 32 Lib.Math.min.name, Cond.static Lib.Math.min.name]
def wsX5_wouldDetermine_r2 : List Cond := [Cond.initialized "java/lang/Math", Cond.code Lib.Math.min.name Lib.Math.min.code 2 (some .int), Cond.fieldLink RX0 38 "FountainCode$Drop" "size" "I", Cond.fieldLink RX0 46 "FountainCode$Drop" "blockSet" "J", Cond.fieldLink RX0 9 "FountainCode$Drop" "row" "[I", Cond.methodLink RX0 19 yX4_sum, Cond.instanceMethod yX4_sum, Cond.selects RX4 yX4_sum yX4_sum, Cond.initialized RX4, Cond.code yX4_sum cX4_sum 3 (some .int), Cond.fieldLink RX4 20 "FountainCode$Weights" "list" "[I", Cond.methodLink RX0 25 yX0_numberBelow, Cond.instanceMethod yX0_numberBelow, Cond.selects RX0 yX0_numberBelow yX0_numberBelow, Cond.code yX0_numberBelow cX0_numberBelow 2 (some .int), Cond.constantLong RX0 57 (6364136223846793005), Cond.constantLong RX0 59 (1442695040888963407), Cond.methodLink RX0 29 yX4_degreeFor, Cond.instanceMethod yX4_degreeFor, Cond.selects RX4 yX4_degreeFor yX4_degreeFor, Cond.code yX4_degreeFor cX4_degreeFor 4 (some .int), Cond.methodLink RX0 42 yX0_lineUp, Cond.instanceMethod yX0_lineUp, Cond.selects RX0 yX0_lineUp yX0_lineUp]
def wsX5_wouldDetermine_r3 : List Cond := [Cond.code yX0_lineUp cX0_lineUp 3 none, Cond.methodLink RX0 49 yX0_swap, Cond.instanceMethod yX0_swap, Cond.selects RX0 yX0_swap yX0_swap, Cond.code yX0_swap cX0_swap 4 none, Cond.static yX5_setOf, Cond.code yX5_setOf cX5_setOf 1 (some .long), Cond.methodLink RX5 107 yX0_blockSet, Cond.instanceMethod yX0_blockSet, Cond.selects RX0 yX0_blockSet yX0_blockSet, Cond.code yX0_blockSet cX0_blockSet 1 (some .long), Cond.methodLink RX5 157 yX1_remainder, Cond.instanceMethod yX1_remainder, Cond.selects RX1 yX1_remainder yX1_remainder, Cond.initialized RX1, Cond.code yX1_remainder cX1_remainder 6 (some .long), Cond.fieldLink RX1 9 "FountainCode$Elimination" "rows" "[J", Cond.static yX5_holds, Cond.code yX5_holds cX5_holds 3 (some .boolean), Cond.methodLink RX5 150 yX5_setOf, Cond.methodLink RX5 142 yX1_countLeaving, Cond.instanceMethod yX1_countLeaving, Cond.selects RX1 yX1_countLeaving yX1_countLeaving, Cond.code yX1_countLeaving cX1_countLeaving 6 (some .int)]
def wsX5_wouldDetermine_r4 : List Cond := [Cond.methodLink RX1 44 yX1_remainderOfBlock, Cond.instanceMethod yX1_remainderOfBlock, Cond.selects RX1 yX1_remainderOfBlock yX1_remainderOfBlock, Cond.code yX1_remainderOfBlock cX1_remainderOfBlock 4 (some .long)]
def wsX5_wouldDetermine : List Cond := .code yX5_wouldDetermine cX5_wouldDetermine 4 (some .int) :: ((wsX5_wouldDetermine_r1 ++ (wsX5_wouldDetermine_r2 ++ (wsX5_wouldDetermine_r3 ++ wsX5_wouldDetermine_r4))) ++ wsX50 ++ wsX30 ++ wsX00 ++ wsX40 ++ wsX10)
def wsX5_missing : List Cond := .code yX5_missing cX5_missing 1 (some .int) :: ([.fieldLink RX5 19 "FountainCode" "sender" "LFountainCode$Sender;", .fieldLink RX5 33 "FountainCode" "elimination" "LFountainCode$Elimination;", .methodLink RX5 86 yX3_blockCount, .instanceMethod yX3_blockCount, .selects RX3 yX3_blockCount yX3_blockCount, .initialized RX3, .code yX3_blockCount cX3_blockCount 1 (some .int), .fieldLink RX3 15 "FountainCode$Sender" "sources" "I", .fieldLink RX3 19 "FountainCode$Sender" "parities" "I", .methodLink RX5 130 yX1_rowCount, .instanceMethod yX1_rowCount, .selects RX1 yX1_rowCount yX1_rowCount, .initialized RX1, .code yX1_rowCount cX1_rowCount 1 (some .int), .fieldLink RX1 19 "FountainCode$Elimination" "rowCount" "I"] ++ wsX50 ++ wsX30 ++ wsX10)
def wsX5_nextHelpful_r1 : List Cond := [Cond.methodLink RX5 161 yX5_missing, Cond.instanceMethod yX5_missing, Cond.selects RX5 yX5_missing yX5_missing, Cond.initialized RX5, Cond.code yX5_missing cX5_missing 1 (some .int), Cond.fieldLink RX5 19 "FountainCode" "sender" "LFountainCode$Sender;", Cond.fieldLink RX5 33 "FountainCode" "elimination" "LFountainCode$Elimination;", Cond.methodLink RX5 86 yX3_blockCount, Cond.instanceMethod yX3_blockCount, Cond.selects RX3 yX3_blockCount yX3_blockCount, Cond.initialized RX3, Cond.code yX3_blockCount cX3_blockCount 1 (some .int), Cond.fieldLink RX3 15 "FountainCode$Sender" "sources" "I", Cond.fieldLink RX3 19 "FountainCode$Sender" "parities" "I", Cond.methodLink RX5 130 yX1_rowCount, Cond.instanceMethod yX1_rowCount, Cond.selects RX1 yX1_rowCount yX1_rowCount, Cond.initialized RX1, Cond.code yX1_rowCount cX1_rowCount 1 (some .int), Cond.fieldLink RX1 19 "FountainCode$Elimination" "rowCount" "I", Cond.methodLink RX5 164 yX5_wouldHelp, Cond.instanceMethod yX5_wouldHelp, Cond.selects RX5 yX5_wouldHelp yX5_wouldHelp, Cond.code yX5_wouldHelp cX5_wouldHelp 2 (some .boolean)]
def wsX5_nextHelpful_r2 : List Cond := [Cond.methodLink RX5 95 yX5_drawn, Cond.instanceMethod yX5_drawn, Cond.selects RX5 yX5_drawn yX5_drawn, Cond.code yX5_drawn cX5_drawn 2 (some (.object "FountainCode$Drop")), Cond.fieldLink RX5 40 "FountainCode" "scratchDrop" "LFountainCode$Drop;", Cond.fieldLink RX5 12 "FountainCode" "weights" "LFountainCode$Weights;", Cond.methodLink RX5 184 yX0_draw, Cond.instanceMethod yX0_draw, Cond.selects RX0 yX0_draw yX0_draw, Cond.initialized RX0, Cond.code yX0_draw cX0_draw 5 none, Cond.fieldLink RX0 15 "FountainCode$Drop" "generator" "J", Cond.methodLink RX0 32 Lib.Math.min.name, Cond.static Lib.Math.min.name, Cond.initialized "java/lang/Math", Cond.code Lib.Math.min.name Lib.Math.min.code 2 (some .int), Cond.fieldLink RX0 38 "FountainCode$Drop" "size" "I", Cond.fieldLink RX0 46 "FountainCode$Drop" "blockSet" "J", Cond.fieldLink RX0 9 "FountainCode$Drop" "row" "[I", Cond.methodLink RX0 19 yX4_sum, Cond.instanceMethod yX4_sum, Cond.selects RX4 yX4_sum yX4_sum, Cond.initialized RX4, Cond.code yX4_sum cX4_sum 3 (some .int)]
def wsX5_nextHelpful_r3 : List Cond := [Cond.fieldLink RX4 20 "FountainCode$Weights" "list" "[I", Cond.methodLink RX0 25 yX0_numberBelow, Cond.instanceMethod yX0_numberBelow, Cond.selects RX0 yX0_numberBelow yX0_numberBelow, Cond.code yX0_numberBelow cX0_numberBelow 2 (some .int), Cond.constantLong RX0 57 (6364136223846793005), Cond.constantLong RX0 59 (1442695040888963407), Cond.methodLink RX0 29 yX4_degreeFor, Cond.instanceMethod yX4_degreeFor, Cond.selects RX4 yX4_degreeFor yX4_degreeFor, Cond.code yX4_degreeFor cX4_degreeFor 4 (some .int), Cond.methodLink RX0 42 yX0_lineUp, Cond.instanceMethod yX0_lineUp, Cond.selects RX0 yX0_lineUp yX0_lineUp, Cond.code yX0_lineUp cX0_lineUp 3 none, Cond.methodLink RX0 49 yX0_swap, Cond.instanceMethod yX0_swap, Cond.selects RX0 yX0_swap yX0_swap, Cond.code yX0_swap cX0_swap 4 none, Cond.static yX5_setOf, Cond.code yX5_setOf cX5_setOf 1 (some .long), Cond.methodLink RX5 107 yX0_blockSet, Cond.instanceMethod yX0_blockSet, Cond.selects RX0 yX0_blockSet yX0_blockSet]
def wsX5_nextHelpful_r4 : List Cond := [Cond.code yX0_blockSet cX0_blockSet 1 (some .long), Cond.methodLink RX5 157 yX1_remainder, Cond.instanceMethod yX1_remainder, Cond.selects RX1 yX1_remainder yX1_remainder, Cond.code yX1_remainder cX1_remainder 6 (some .long), Cond.fieldLink RX1 9 "FountainCode$Elimination" "rows" "[J", Cond.static yX5_holds, Cond.code yX5_holds cX5_holds 3 (some .boolean), Cond.methodLink RX5 150 yX5_setOf]
def wsX5_nextHelpful : List Cond := .code yX5_nextHelpful cX5_nextHelpful 3 (some .int) :: ((wsX5_nextHelpful_r1 ++ (wsX5_nextHelpful_r2 ++ (wsX5_nextHelpful_r3 ++ wsX5_nextHelpful_r4))) ++ wsX50 ++ wsX30 ++ wsX10 ++ wsX00 ++ wsX40)
def wsX6_clear : List Cond := .code yX6_clear cX6_clear 2 none :: ([.fieldLink RX6 68 "FountainCodeModel" "many" "I", .fieldLink RX6 71 "FountainCodeModel" "drops" "I", .fieldLink RX6 74 "FountainCodeModel" "peeled" "I", .fieldLink RX6 77 "FountainCodeModel" "peeledMask" "J", .fieldLink RX6 33 "FountainCodeModel" "by" "[I", .fieldLink RX6 36 "FountainCodeModel" "rows" "[J", .fieldLink RX6 39 "FountainCodeModel" "rowNumbers" "[I"] ++ wsX60)
def wsX6_init_r1 : List Cond := [Cond.methodLink RX6 1 objectInit, Cond.instanceMethod objectInit, Cond.code objectInit ⟨#[0xb1]⟩ 1 none, Cond.arrayClass .int, Cond.fieldLink RX6 7 "FountainCodeModel" "weights" "[I", Cond.fieldLink RX6 13 "FountainCodeModel" "sources" "I", Cond.fieldLink RX6 17 "FountainCodeModel" "blocks" "I", Cond.fieldLink RX6 20 "FountainCodeModel" "values" "[I", Cond.arrayClass .long, Cond.fieldLink RX6 23 "FountainCodeModel" "masks" "[J", Cond.fieldLink RX6 27 "FountainCodeModel" "numbers" "[I", Cond.fieldLink RX6 30 "FountainCodeModel" "order" "[I", Cond.fieldLink RX6 33 "FountainCodeModel" "by" "[I", Cond.fieldLink RX6 36 "FountainCodeModel" "rows" "[J", Cond.fieldLink RX6 39 "FountainCodeModel" "rowNumbers" "[I", Cond.fieldLink RX6 42 "FountainCodeModel" "rowsKept" "[J", Cond.fieldLink RX6 45 "FountainCodeModel" "rowNumbersKept" "[I", Cond.fieldLink RX6 48 "FountainCodeModel" "drawn" "[I", Cond.methodLink RX6 51 yX6_clear, Cond.instanceMethod yX6_clear, Cond.selects RX6 yX6_clear yX6_clear, Cond.initialized RX6, Cond.code yX6_clear cX6_clear 2 none, Cond.fieldLink RX6 68 "FountainCodeModel" "many" "I"]
def wsX6_init_r2 : List Cond := [Cond.fieldLink RX6 71 "FountainCodeModel" "drops" "I", Cond.fieldLink RX6 74 "FountainCodeModel" "peeled" "I", Cond.fieldLink RX6 77 "FountainCodeModel" "peeledMask" "J"]
def wsX6_init : List Cond := .code yX6_init cX6_init 2 none :: ((wsX6_init_r1 ++ wsX6_init_r2) ++ wsX60)
def wsX6_thrown : List Cond := .code yX6_thrown cX6_thrown 1 (some .int) :: ([.fieldLink RX6 54 "FountainCodeModel" "refusal" "I"] ++ wsX60)
def wsX6_refused : List Cond := .code yX6_refused cX6_refused 2 (some .boolean) :: ([.fieldLink RX6 54 "FountainCodeModel" "refusal" "I"] ++ wsX60)
def wsX6_told : List Cond := .code yX6_told cX6_told 2 (some .int) :: ([.fieldLink RX6 54 "FountainCodeModel" "refusal" "I"] ++ wsX60)
def wsX6_within : List Cond := .code yX6_within cX6_within 3 (some .boolean) :: ([])
def wsX6_isBlock : List Cond := .code yX6_isBlock cX6_isBlock 2 (some .boolean) :: ([.fieldLink RX6 17 "FountainCodeModel" "blocks" "I", .methodLink RX6 57 yX6_within, .static yX6_within, .initialized RX6, .code yX6_within cX6_within 3 (some .boolean)] ++ wsX60)
def wsX6_noBlock : List Cond := .code yX6_noBlock cX6_noBlock 2 (some .boolean) :: ([.methodLink RX6 61 yX6_isBlock, .instanceMethod yX6_isBlock, .selects RX6 yX6_isBlock yX6_isBlock, .initialized RX6, .code yX6_isBlock cX6_isBlock 2 (some .boolean), .fieldLink RX6 17 "FountainCodeModel" "blocks" "I", .methodLink RX6 57 yX6_within, .static yX6_within, .code yX6_within cX6_within 3 (some .boolean), .methodLink RX6 65 yX6_refused, .instanceMethod yX6_refused, .selects RX6 yX6_refused yX6_refused, .code yX6_refused cX6_refused 2 (some .boolean), .fieldLink RX6 54 "FountainCodeModel" "refusal" "I"] ++ wsX60)
def wsX6_covers : List Cond := .code yX6_covers cX6_covers 2 (some .boolean) :: ([])
def wsX6_valueAt : List Cond := .code yX6_valueAt cX6_valueAt 4 (some .int) :: ([.fieldLink RX6 13 "FountainCodeModel" "sources" "I", .fieldLink RX6 20 "FountainCodeModel" "values" "[I", .methodLink RX6 81 yX6_covers, .static yX6_covers, .initialized RX6, .code yX6_covers cX6_covers 2 (some .boolean)] ++ wsX60)
def wsX6_draw : List Cond := .code yX6_draw cX6_draw 2 (some .int) :: ([.fieldLink RX6 85 "FountainCodeModel" "generator" "J", .constantLong RX6 88 (6364136223846793005), .constantLong RX6 90 (1442695040888963407)] ++ wsX60)
def wsX6_drawDrop : List Cond := .code yX6_drawDrop cX6_drawDrop 9 none :: ([.fieldLink RX6 85 "FountainCodeModel" "generator" "J", .fieldLink RX6 7 "FountainCodeModel" "weights" "[I", .fieldLink RX6 17 "FountainCodeModel" "blocks" "I", .fieldLink RX6 96 "FountainCodeModel" "drawnMany" "I", .fieldLink RX6 48 "FountainCodeModel" "drawn" "[I", .methodLink RX6 92 yX6_draw, .instanceMethod yX6_draw, .selects RX6 yX6_draw yX6_draw, .initialized RX6, .code yX6_draw cX6_draw 2 (some .int), .constantLong RX6 88 (6364136223846793005), .constantLong RX6 90 (1442695040888963407)] ++ wsX60)
def wsX6_maskOf : List Cond := .code yX6_maskOf cX6_maskOf 5 (some .long) :: ([.fieldLink RX6 96 "FountainCodeModel" "drawnMany" "I", .fieldLink RX6 48 "FountainCodeModel" "drawn" "[I", .methodLink RX6 99 yX6_drawDrop, .instanceMethod yX6_drawDrop, .selects RX6 yX6_drawDrop yX6_drawDrop, .initialized RX6, .code yX6_drawDrop cX6_drawDrop 9 none, .fieldLink RX6 85 "FountainCodeModel" "generator" "J", .fieldLink RX6 7 "FountainCodeModel" "weights" "[I", .fieldLink RX6 17 "FountainCodeModel" "blocks" "I", .methodLink RX6 92 yX6_draw, .instanceMethod yX6_draw, .selects RX6 yX6_draw yX6_draw, .code yX6_draw cX6_draw 2 (some .int), .constantLong RX6 88 (6364136223846793005), .constantLong RX6 90 (1442695040888963407)] ++ wsX60)
def wsX6_numberOf_r1 : List Cond := [Cond.fieldLink RX6 96 "FountainCodeModel" "drawnMany" "I", Cond.fieldLink RX6 48 "FountainCodeModel" "drawn" "[I", Cond.methodLink RX6 99 yX6_drawDrop, Cond.instanceMethod yX6_drawDrop, Cond.selects RX6 yX6_drawDrop yX6_drawDrop, Cond.initialized RX6, Cond.code yX6_drawDrop cX6_drawDrop 9 none, Cond.fieldLink RX6 85 "FountainCodeModel" "generator" "J", Cond.fieldLink RX6 7 "FountainCodeModel" "weights" "[I", Cond.fieldLink RX6 17 "FountainCodeModel" "blocks" "I", Cond.methodLink RX6 92 yX6_draw, Cond.instanceMethod yX6_draw, Cond.selects RX6 yX6_draw yX6_draw, Cond.code yX6_draw cX6_draw 2 (some .int), Cond.constantLong RX6 88 (6364136223846793005), Cond.constantLong RX6 90 (1442695040888963407), Cond.methodLink RX6 103 yX6_valueAt, Cond.instanceMethod yX6_valueAt, Cond.selects RX6 yX6_valueAt yX6_valueAt, Cond.code yX6_valueAt cX6_valueAt 4 (some .int), Cond.fieldLink RX6 13 "FountainCodeModel" "sources" "I", Cond.fieldLink RX6 20 "FountainCodeModel" "values" "[I", Cond.methodLink RX6 81 yX6_covers, Cond.static yX6_covers]
def wsX6_numberOf_r2 : List Cond := [Cond.code yX6_covers cX6_covers 2 (some .boolean)]
def wsX6_numberOf : List Cond := .code yX6_numberOf cX6_numberOf 4 (some .int) :: ((wsX6_numberOf_r1 ++ wsX6_numberOf_r2) ++ wsX60)
def wsX6_reduce : List Cond := .code yX6_reduce cX6_reduce 5 none :: ([.fieldLink RX6 106 "FountainCodeModel" "reduced" "J", .fieldLink RX6 109 "FountainCodeModel" "reducedNumber" "I", .fieldLink RX6 17 "FountainCodeModel" "blocks" "I", .fieldLink RX6 36 "FountainCodeModel" "rows" "[J", .fieldLink RX6 39 "FountainCodeModel" "rowNumbers" "[I"] ++ wsX60)
def wsX6_layRow : List Cond := .code yX6_layRow cX6_layRow 3 none :: ([.fieldLink RX6 106 "FountainCodeModel" "reduced" "J", .fieldLink RX6 17 "FountainCodeModel" "blocks" "I", .fieldLink RX6 36 "FountainCodeModel" "rows" "[J", .fieldLink RX6 39 "FountainCodeModel" "rowNumbers" "[I", .fieldLink RX6 109 "FountainCodeModel" "reducedNumber" "I"] ++ wsX60)
def wsX6_addEquation : List Cond := .code yX6_addEquation cX6_addEquation 4 none :: ([.fieldLink RX6 23 "FountainCodeModel" "masks" "[J", .fieldLink RX6 68 "FountainCodeModel" "many" "I", .fieldLink RX6 27 "FountainCodeModel" "numbers" "[I", .methodLink RX6 112 yX6_reduce, .instanceMethod yX6_reduce, .selects RX6 yX6_reduce yX6_reduce, .initialized RX6, .code yX6_reduce cX6_reduce 5 none, .fieldLink RX6 106 "FountainCodeModel" "reduced" "J", .fieldLink RX6 109 "FountainCodeModel" "reducedNumber" "I", .fieldLink RX6 17 "FountainCodeModel" "blocks" "I", .fieldLink RX6 36 "FountainCodeModel" "rows" "[J", .fieldLink RX6 39 "FountainCodeModel" "rowNumbers" "[I", .methodLink RX6 116 yX6_layRow, .instanceMethod yX6_layRow, .selects RX6 yX6_layRow yX6_layRow, .code yX6_layRow cX6_layRow 3 none] ++ wsX60)
def wsX6_peel : List Cond := .code yX6_peel cX6_peel 7 (some .int) :: ([.fieldLink RX6 74 "FountainCodeModel" "peeled" "I", .fieldLink RX6 68 "FountainCodeModel" "many" "I", .fieldLink RX6 23 "FountainCodeModel" "masks" "[J", .fieldLink RX6 77 "FountainCodeModel" "peeledMask" "J", .constantLong RX6 119 (-1), .fieldLink RX6 30 "FountainCodeModel" "order" "[I", .fieldLink RX6 33 "FountainCodeModel" "by" "[I"] ++ wsX60)
def wsX6_rankOf : List Cond := .code yX6_rankOf cX6_rankOf 3 (some .int) :: ([.fieldLink RX6 17 "FountainCodeModel" "blocks" "I", .fieldLink RX6 36 "FountainCodeModel" "rows" "[J"] ++ wsX60)
def wsX6_determinedMany : List Cond := .code yX6_determinedMany cX6_determinedMany 3 (some .int) :: ([.fieldLink RX6 17 "FountainCodeModel" "blocks" "I", .fieldLink RX6 36 "FountainCodeModel" "rows" "[J"] ++ wsX60)
def wsX6_start_r1 : List Cond := [Cond.fieldLink RX6 13 "FountainCodeModel" "sources" "I", Cond.fieldLink RX6 17 "FountainCodeModel" "blocks" "I", Cond.fieldLink RX6 20 "FountainCodeModel" "values" "[I", Cond.methodLink RX6 57 yX6_within, Cond.static yX6_within, Cond.initialized RX6, Cond.code yX6_within cX6_within 3 (some .boolean), Cond.methodLink RX6 65 yX6_refused, Cond.instanceMethod yX6_refused, Cond.selects RX6 yX6_refused yX6_refused, Cond.code yX6_refused cX6_refused 2 (some .boolean), Cond.fieldLink RX6 54 "FountainCodeModel" "refusal" "I", Cond.methodLink RX6 51 yX6_clear, Cond.instanceMethod yX6_clear, Cond.selects RX6 yX6_clear yX6_clear, Cond.code yX6_clear cX6_clear 2 none, Cond.fieldLink RX6 68 "FountainCodeModel" "many" "I", Cond.fieldLink RX6 71 "FountainCodeModel" "drops" "I", Cond.fieldLink RX6 74 "FountainCodeModel" "peeled" "I", Cond.fieldLink RX6 77 "FountainCodeModel" "peeledMask" "J", Cond.fieldLink RX6 33 "FountainCodeModel" "by" "[I", Cond.fieldLink RX6 36 "FountainCodeModel" "rows" "[J", Cond.fieldLink RX6 39 "FountainCodeModel" "rowNumbers" "[I", Cond.methodLink RX6 81 yX6_covers]
def wsX6_start_r2 : List Cond := [Cond.static yX6_covers, Cond.code yX6_covers cX6_covers 2 (some .boolean), Cond.methodLink RX6 121 yX6_addEquation, Cond.instanceMethod yX6_addEquation, Cond.selects RX6 yX6_addEquation yX6_addEquation, Cond.code yX6_addEquation cX6_addEquation 4 none, Cond.fieldLink RX6 23 "FountainCodeModel" "masks" "[J", Cond.fieldLink RX6 27 "FountainCodeModel" "numbers" "[I", Cond.methodLink RX6 112 yX6_reduce, Cond.instanceMethod yX6_reduce, Cond.selects RX6 yX6_reduce yX6_reduce, Cond.code yX6_reduce cX6_reduce 5 none, Cond.fieldLink RX6 106 "FountainCodeModel" "reduced" "J", Cond.fieldLink RX6 109 "FountainCodeModel" "reducedNumber" "I", Cond.methodLink RX6 116 yX6_layRow, Cond.instanceMethod yX6_layRow, Cond.selects RX6 yX6_layRow yX6_layRow, Cond.code yX6_layRow cX6_layRow 3 none, Cond.methodLink RX6 124 yX6_peel, Cond.instanceMethod yX6_peel, Cond.selects RX6 yX6_peel yX6_peel, Cond.code yX6_peel cX6_peel 7 (some .int), Cond.constantLong RX6 119 (-1), Cond.fieldLink RX6 30 "FountainCodeModel" "order" "[I"]
def wsX6_start : List Cond := .code yX6_start cX6_start 7 (some .int) :: ((wsX6_start_r1 ++ wsX6_start_r2) ++ wsX60)
def wsX6_setWeight : List Cond := .code yX6_setWeight cX6_setWeight 6 (some .int) :: ([.fieldLink RX6 7 "FountainCodeModel" "weights" "[I", .methodLink RX6 57 yX6_within, .static yX6_within, .initialized RX6, .code yX6_within cX6_within 3 (some .boolean), .methodLink RX6 65 yX6_refused, .instanceMethod yX6_refused, .selects RX6 yX6_refused yX6_refused, .code yX6_refused cX6_refused 2 (some .boolean), .fieldLink RX6 54 "FountainCodeModel" "refusal" "I"] ++ wsX60)
def wsX6_setBlock : List Cond := .code yX6_setBlock cX6_setBlock 4 (some .int) :: ([.fieldLink RX6 13 "FountainCodeModel" "sources" "I", .fieldLink RX6 20 "FountainCodeModel" "values" "[I", .methodLink RX6 57 yX6_within, .static yX6_within, .initialized RX6, .code yX6_within cX6_within 3 (some .boolean), .methodLink RX6 65 yX6_refused, .instanceMethod yX6_refused, .selects RX6 yX6_refused yX6_refused, .code yX6_refused cX6_refused 2 (some .boolean), .fieldLink RX6 54 "FountainCodeModel" "refusal" "I"] ++ wsX60)
def wsX6_blocks : List Cond := .code yX6_blocks cX6_blocks 1 (some .int) :: ([.fieldLink RX6 17 "FountainCodeModel" "blocks" "I", .methodLink RX6 128 yX6_told, .instanceMethod yX6_told, .selects RX6 yX6_told yX6_told, .initialized RX6, .code yX6_told cX6_told 2 (some .int), .fieldLink RX6 54 "FountainCodeModel" "refusal" "I"] ++ wsX60)
def wsX6_blockAt_r1 : List Cond := [Cond.methodLink RX6 131 yX6_noBlock, Cond.instanceMethod yX6_noBlock, Cond.selects RX6 yX6_noBlock yX6_noBlock, Cond.initialized RX6, Cond.code yX6_noBlock cX6_noBlock 2 (some .boolean), Cond.methodLink RX6 61 yX6_isBlock, Cond.instanceMethod yX6_isBlock, Cond.selects RX6 yX6_isBlock yX6_isBlock, Cond.code yX6_isBlock cX6_isBlock 2 (some .boolean), Cond.fieldLink RX6 17 "FountainCodeModel" "blocks" "I", Cond.methodLink RX6 57 yX6_within, Cond.static yX6_within, Cond.code yX6_within cX6_within 3 (some .boolean), Cond.methodLink RX6 65 yX6_refused, Cond.instanceMethod yX6_refused, Cond.selects RX6 yX6_refused yX6_refused, Cond.code yX6_refused cX6_refused 2 (some .boolean), Cond.fieldLink RX6 54 "FountainCodeModel" "refusal" "I", Cond.methodLink RX6 103 yX6_valueAt, Cond.instanceMethod yX6_valueAt, Cond.selects RX6 yX6_valueAt yX6_valueAt, Cond.code yX6_valueAt cX6_valueAt 4 (some .int), Cond.fieldLink RX6 13 "FountainCodeModel" "sources" "I", Cond.fieldLink RX6 20 "FountainCodeModel" "values" "[I"]
def wsX6_blockAt_r2 : List Cond := [Cond.methodLink RX6 81 yX6_covers, Cond.static yX6_covers, Cond.code yX6_covers cX6_covers 2 (some .boolean)]
def wsX6_blockAt : List Cond := .code yX6_blockAt cX6_blockAt 2 (some .int) :: ((wsX6_blockAt_r1 ++ wsX6_blockAt_r2) ++ wsX60)
def wsX6_degree : List Cond := .code yX6_degree cX6_degree 2 (some .int) :: ([.fieldLink RX6 96 "FountainCodeModel" "drawnMany" "I", .methodLink RX6 99 yX6_drawDrop, .instanceMethod yX6_drawDrop, .selects RX6 yX6_drawDrop yX6_drawDrop, .initialized RX6, .code yX6_drawDrop cX6_drawDrop 9 none, .fieldLink RX6 85 "FountainCodeModel" "generator" "J", .fieldLink RX6 7 "FountainCodeModel" "weights" "[I", .fieldLink RX6 17 "FountainCodeModel" "blocks" "I", .fieldLink RX6 48 "FountainCodeModel" "drawn" "[I", .methodLink RX6 92 yX6_draw, .instanceMethod yX6_draw, .selects RX6 yX6_draw yX6_draw, .code yX6_draw cX6_draw 2 (some .int), .constantLong RX6 88 (6364136223846793005), .constantLong RX6 90 (1442695040888963407), .methodLink RX6 128 yX6_told, .instanceMethod yX6_told, .selects RX6 yX6_told yX6_told, .code yX6_told cX6_told 2 (some .int), .fieldLink RX6 54 "FountainCodeModel" "refusal" "I"] ++ wsX60)
def wsX6_blockOf : List Cond := .code yX6_blockOf cX6_blockOf 3 (some .int) :: ([.fieldLink RX6 96 "FountainCodeModel" "drawnMany" "I", .fieldLink RX6 48 "FountainCodeModel" "drawn" "[I", .methodLink RX6 99 yX6_drawDrop, .instanceMethod yX6_drawDrop, .selects RX6 yX6_drawDrop yX6_drawDrop, .initialized RX6, .code yX6_drawDrop cX6_drawDrop 9 none, .fieldLink RX6 85 "FountainCodeModel" "generator" "J", .fieldLink RX6 7 "FountainCodeModel" "weights" "[I", .fieldLink RX6 17 "FountainCodeModel" "blocks" "I", .methodLink RX6 92 yX6_draw, .instanceMethod yX6_draw, .selects RX6 yX6_draw yX6_draw, .code yX6_draw cX6_draw 2 (some .int), .constantLong RX6 88 (6364136223846793005), .constantLong RX6 90 (1442695040888963407), .methodLink RX6 57 yX6_within, .static yX6_within, .code yX6_within cX6_within 3 (some .boolean), .methodLink RX6 65 yX6_refused, .instanceMethod yX6_refused, .selects RX6 yX6_refused yX6_refused, .code yX6_refused cX6_refused 2 (some .boolean), .fieldLink RX6 54 "FountainCodeModel" "refusal" "I"] ++ wsX60)
def wsX6_valueOf_r1 : List Cond := [Cond.methodLink RX6 134 yX6_numberOf, Cond.instanceMethod yX6_numberOf, Cond.selects RX6 yX6_numberOf yX6_numberOf, Cond.initialized RX6, Cond.code yX6_numberOf cX6_numberOf 4 (some .int), Cond.fieldLink RX6 96 "FountainCodeModel" "drawnMany" "I", Cond.fieldLink RX6 48 "FountainCodeModel" "drawn" "[I", Cond.methodLink RX6 99 yX6_drawDrop, Cond.instanceMethod yX6_drawDrop, Cond.selects RX6 yX6_drawDrop yX6_drawDrop, Cond.code yX6_drawDrop cX6_drawDrop 9 none, Cond.fieldLink RX6 85 "FountainCodeModel" "generator" "J", Cond.fieldLink RX6 7 "FountainCodeModel" "weights" "[I", Cond.fieldLink RX6 17 "FountainCodeModel" "blocks" "I", Cond.methodLink RX6 92 yX6_draw, Cond.instanceMethod yX6_draw, Cond.selects RX6 yX6_draw yX6_draw, Cond.code yX6_draw cX6_draw 2 (some .int), Cond.constantLong RX6 88 (6364136223846793005), Cond.constantLong RX6 90 (1442695040888963407), Cond.methodLink RX6 103 yX6_valueAt, Cond.instanceMethod yX6_valueAt, Cond.selects RX6 yX6_valueAt yX6_valueAt, Cond.code yX6_valueAt cX6_valueAt 4 (some .int)]
def wsX6_valueOf_r2 : List Cond := [Cond.fieldLink RX6 13 "FountainCodeModel" "sources" "I", Cond.fieldLink RX6 20 "FountainCodeModel" "values" "[I", Cond.methodLink RX6 81 yX6_covers, Cond.static yX6_covers, Cond.code yX6_covers cX6_covers 2 (some .boolean), Cond.methodLink RX6 128 yX6_told, Cond.instanceMethod yX6_told, Cond.selects RX6 yX6_told yX6_told, Cond.code yX6_told cX6_told 2 (some .int), Cond.fieldLink RX6 54 "FountainCodeModel" "refusal" "I"]
def wsX6_valueOf : List Cond := .code yX6_valueOf cX6_valueOf 2 (some .int) :: ((wsX6_valueOf_r1 ++ wsX6_valueOf_r2) ++ wsX60)
def wsX6_isRefused_r1 : List Cond := [Cond.fieldLink RX6 71 "FountainCodeModel" "drops" "I", Cond.fieldLink RX6 106 "FountainCodeModel" "reduced" "J", Cond.fieldLink RX6 109 "FountainCodeModel" "reducedNumber" "I", Cond.methodLink RX6 137 yX6_maskOf, Cond.instanceMethod yX6_maskOf, Cond.selects RX6 yX6_maskOf yX6_maskOf, Cond.initialized RX6, Cond.code yX6_maskOf cX6_maskOf 5 (some .long), Cond.fieldLink RX6 96 "FountainCodeModel" "drawnMany" "I", Cond.fieldLink RX6 48 "FountainCodeModel" "drawn" "[I", Cond.methodLink RX6 99 yX6_drawDrop, Cond.instanceMethod yX6_drawDrop, Cond.selects RX6 yX6_drawDrop yX6_drawDrop, Cond.code yX6_drawDrop cX6_drawDrop 9 none, Cond.fieldLink RX6 85 "FountainCodeModel" "generator" "J", Cond.fieldLink RX6 7 "FountainCodeModel" "weights" "[I", Cond.fieldLink RX6 17 "FountainCodeModel" "blocks" "I", Cond.methodLink RX6 92 yX6_draw, Cond.instanceMethod yX6_draw, Cond.selects RX6 yX6_draw yX6_draw, Cond.code yX6_draw cX6_draw 2 (some .int), Cond.constantLong RX6 88 (6364136223846793005), Cond.constantLong RX6 90 (1442695040888963407), Cond.methodLink RX6 112 yX6_reduce]
def wsX6_isRefused_r2 : List Cond := [Cond.instanceMethod yX6_reduce, Cond.selects RX6 yX6_reduce yX6_reduce, Cond.code yX6_reduce cX6_reduce 5 none, Cond.fieldLink RX6 36 "FountainCodeModel" "rows" "[J", Cond.fieldLink RX6 39 "FountainCodeModel" "rowNumbers" "[I"]
def wsX6_isRefused : List Cond := .code yX6_isRefused cX6_isRefused 3 (some .boolean) :: ((wsX6_isRefused_r1 ++ wsX6_isRefused_r2) ++ wsX60)
def wsX6_take_r1 : List Cond := [Cond.fieldLink RX6 71 "FountainCodeModel" "drops" "I", Cond.methodLink RX6 137 yX6_maskOf, Cond.instanceMethod yX6_maskOf, Cond.selects RX6 yX6_maskOf yX6_maskOf, Cond.initialized RX6, Cond.code yX6_maskOf cX6_maskOf 5 (some .long), Cond.fieldLink RX6 96 "FountainCodeModel" "drawnMany" "I", Cond.fieldLink RX6 48 "FountainCodeModel" "drawn" "[I", Cond.methodLink RX6 99 yX6_drawDrop, Cond.instanceMethod yX6_drawDrop, Cond.selects RX6 yX6_drawDrop yX6_drawDrop, Cond.code yX6_drawDrop cX6_drawDrop 9 none, Cond.fieldLink RX6 85 "FountainCodeModel" "generator" "J", Cond.fieldLink RX6 7 "FountainCodeModel" "weights" "[I", Cond.fieldLink RX6 17 "FountainCodeModel" "blocks" "I", Cond.methodLink RX6 92 yX6_draw, Cond.instanceMethod yX6_draw, Cond.selects RX6 yX6_draw yX6_draw, Cond.code yX6_draw cX6_draw 2 (some .int), Cond.constantLong RX6 88 (6364136223846793005), Cond.constantLong RX6 90 (1442695040888963407), Cond.methodLink RX6 121 yX6_addEquation, Cond.instanceMethod yX6_addEquation, Cond.selects RX6 yX6_addEquation yX6_addEquation]
def wsX6_take_r2 : List Cond := [Cond.code yX6_addEquation cX6_addEquation 4 none, Cond.fieldLink RX6 23 "FountainCodeModel" "masks" "[J", Cond.fieldLink RX6 68 "FountainCodeModel" "many" "I", Cond.fieldLink RX6 27 "FountainCodeModel" "numbers" "[I", Cond.methodLink RX6 112 yX6_reduce, Cond.instanceMethod yX6_reduce, Cond.selects RX6 yX6_reduce yX6_reduce, Cond.code yX6_reduce cX6_reduce 5 none, Cond.fieldLink RX6 106 "FountainCodeModel" "reduced" "J", Cond.fieldLink RX6 109 "FountainCodeModel" "reducedNumber" "I", Cond.fieldLink RX6 36 "FountainCodeModel" "rows" "[J", Cond.fieldLink RX6 39 "FountainCodeModel" "rowNumbers" "[I", Cond.methodLink RX6 116 yX6_layRow, Cond.instanceMethod yX6_layRow, Cond.selects RX6 yX6_layRow yX6_layRow, Cond.code yX6_layRow cX6_layRow 3 none, Cond.methodLink RX6 124 yX6_peel, Cond.instanceMethod yX6_peel, Cond.selects RX6 yX6_peel yX6_peel, Cond.code yX6_peel cX6_peel 7 (some .int), Cond.fieldLink RX6 74 "FountainCodeModel" "peeled" "I", Cond.fieldLink RX6 77 "FountainCodeModel" "peeledMask" "J", Cond.constantLong RX6 119 (-1), Cond.fieldLink RX6 30 "FountainCodeModel" "order" "[I"]
def wsX6_take_r3 : List Cond := [Cond.fieldLink RX6 33 "FountainCodeModel" "by" "[I"]
def wsX6_take : List Cond := .code yX6_take cX6_take 3 (some .int) :: ((wsX6_take_r1 ++ (wsX6_take_r2 ++ wsX6_take_r3)) ++ wsX60)
def wsX6_receive_r1 : List Cond := [Cond.methodLink RX6 141 yX6_isRefused, Cond.instanceMethod yX6_isRefused, Cond.selects RX6 yX6_isRefused yX6_isRefused, Cond.initialized RX6, Cond.code yX6_isRefused cX6_isRefused 3 (some .boolean), Cond.fieldLink RX6 71 "FountainCodeModel" "drops" "I", Cond.fieldLink RX6 106 "FountainCodeModel" "reduced" "J", Cond.fieldLink RX6 109 "FountainCodeModel" "reducedNumber" "I", Cond.methodLink RX6 137 yX6_maskOf, Cond.instanceMethod yX6_maskOf, Cond.selects RX6 yX6_maskOf yX6_maskOf, Cond.code yX6_maskOf cX6_maskOf 5 (some .long), Cond.fieldLink RX6 96 "FountainCodeModel" "drawnMany" "I", Cond.fieldLink RX6 48 "FountainCodeModel" "drawn" "[I", Cond.methodLink RX6 99 yX6_drawDrop, Cond.instanceMethod yX6_drawDrop, Cond.selects RX6 yX6_drawDrop yX6_drawDrop, Cond.code yX6_drawDrop cX6_drawDrop 9 none, Cond.fieldLink RX6 85 "FountainCodeModel" "generator" "J", Cond.fieldLink RX6 7 "FountainCodeModel" "weights" "[I", Cond.fieldLink RX6 17 "FountainCodeModel" "blocks" "I", Cond.methodLink RX6 92 yX6_draw, Cond.instanceMethod yX6_draw, Cond.selects RX6 yX6_draw yX6_draw]
def wsX6_receive_r2 : List Cond := [Cond.code yX6_draw cX6_draw 2 (some .int), Cond.constantLong RX6 88 (6364136223846793005), Cond.constantLong RX6 90 (1442695040888963407), Cond.methodLink RX6 112 yX6_reduce, Cond.instanceMethod yX6_reduce, Cond.selects RX6 yX6_reduce yX6_reduce, Cond.code yX6_reduce cX6_reduce 5 none, Cond.fieldLink RX6 36 "FountainCodeModel" "rows" "[J", Cond.fieldLink RX6 39 "FountainCodeModel" "rowNumbers" "[I", Cond.methodLink RX6 65 yX6_refused, Cond.instanceMethod yX6_refused, Cond.selects RX6 yX6_refused yX6_refused, Cond.code yX6_refused cX6_refused 2 (some .boolean), Cond.fieldLink RX6 54 "FountainCodeModel" "refusal" "I", Cond.methodLink RX6 144 yX6_take, Cond.instanceMethod yX6_take, Cond.selects RX6 yX6_take yX6_take, Cond.code yX6_take cX6_take 3 (some .int), Cond.methodLink RX6 121 yX6_addEquation, Cond.instanceMethod yX6_addEquation, Cond.selects RX6 yX6_addEquation yX6_addEquation, Cond.code yX6_addEquation cX6_addEquation 4 none, Cond.fieldLink RX6 23 "FountainCodeModel" "masks" "[J", Cond.fieldLink RX6 68 "FountainCodeModel" "many" "I"]
def wsX6_receive_r3 : List Cond := [Cond.fieldLink RX6 27 "FountainCodeModel" "numbers" "[I", Cond.methodLink RX6 116 yX6_layRow, Cond.instanceMethod yX6_layRow, Cond.selects RX6 yX6_layRow yX6_layRow, Cond.code yX6_layRow cX6_layRow 3 none, Cond.methodLink RX6 124 yX6_peel, Cond.instanceMethod yX6_peel, Cond.selects RX6 yX6_peel yX6_peel, Cond.code yX6_peel cX6_peel 7 (some .int), Cond.fieldLink RX6 74 "FountainCodeModel" "peeled" "I", Cond.fieldLink RX6 77 "FountainCodeModel" "peeledMask" "J", Cond.constantLong RX6 119 (-1), Cond.fieldLink RX6 30 "FountainCodeModel" "order" "[I", Cond.fieldLink RX6 33 "FountainCodeModel" "by" "[I"]
def wsX6_receive : List Cond := .code yX6_receive cX6_receive 3 (some .int) :: ((wsX6_receive_r1 ++ (wsX6_receive_r2 ++ wsX6_receive_r3)) ++ wsX60)
def wsX6_receiveAll_r1 : List Cond := [Cond.methodLink RX6 57 yX6_within, Cond.static yX6_within, Cond.initialized RX6, Cond.code yX6_within cX6_within 3 (some .boolean), Cond.methodLink RX6 65 yX6_refused, Cond.instanceMethod yX6_refused, Cond.selects RX6 yX6_refused yX6_refused, Cond.code yX6_refused cX6_refused 2 (some .boolean), Cond.fieldLink RX6 54 "FountainCodeModel" "refusal" "I", Cond.methodLink RX6 134 yX6_numberOf, Cond.instanceMethod yX6_numberOf, Cond.selects RX6 yX6_numberOf yX6_numberOf, Cond.code yX6_numberOf cX6_numberOf 4 (some .int), Cond.fieldLink RX6 96 "FountainCodeModel" "drawnMany" "I", Cond.fieldLink RX6 48 "FountainCodeModel" "drawn" "[I", Cond.methodLink RX6 99 yX6_drawDrop, Cond.instanceMethod yX6_drawDrop, Cond.selects RX6 yX6_drawDrop yX6_drawDrop, Cond.code yX6_drawDrop cX6_drawDrop 9 none, Cond.fieldLink RX6 85 "FountainCodeModel" "generator" "J", Cond.fieldLink RX6 7 "FountainCodeModel" "weights" "[I", Cond.fieldLink RX6 17 "FountainCodeModel" "blocks" "I", Cond.methodLink RX6 92 yX6_draw, Cond.instanceMethod yX6_draw]
def wsX6_receiveAll_r2 : List Cond := [Cond.selects RX6 yX6_draw yX6_draw, Cond.code yX6_draw cX6_draw 2 (some .int), Cond.constantLong RX6 88 (6364136223846793005), Cond.constantLong RX6 90 (1442695040888963407), Cond.methodLink RX6 103 yX6_valueAt, Cond.instanceMethod yX6_valueAt, Cond.selects RX6 yX6_valueAt yX6_valueAt, Cond.code yX6_valueAt cX6_valueAt 4 (some .int), Cond.fieldLink RX6 13 "FountainCodeModel" "sources" "I", Cond.fieldLink RX6 20 "FountainCodeModel" "values" "[I", Cond.methodLink RX6 81 yX6_covers, Cond.static yX6_covers, Cond.code yX6_covers cX6_covers 2 (some .boolean), Cond.methodLink RX6 141 yX6_isRefused, Cond.instanceMethod yX6_isRefused, Cond.selects RX6 yX6_isRefused yX6_isRefused, Cond.code yX6_isRefused cX6_isRefused 3 (some .boolean), Cond.fieldLink RX6 71 "FountainCodeModel" "drops" "I", Cond.fieldLink RX6 106 "FountainCodeModel" "reduced" "J", Cond.fieldLink RX6 109 "FountainCodeModel" "reducedNumber" "I", Cond.methodLink RX6 137 yX6_maskOf, Cond.instanceMethod yX6_maskOf, Cond.selects RX6 yX6_maskOf yX6_maskOf, Cond.code yX6_maskOf cX6_maskOf 5 (some .long)]
def wsX6_receiveAll_r3 : List Cond := [Cond.methodLink RX6 112 yX6_reduce, Cond.instanceMethod yX6_reduce, Cond.selects RX6 yX6_reduce yX6_reduce, Cond.code yX6_reduce cX6_reduce 5 none, Cond.fieldLink RX6 36 "FountainCodeModel" "rows" "[J", Cond.fieldLink RX6 39 "FountainCodeModel" "rowNumbers" "[I", Cond.methodLink RX6 144 yX6_take, Cond.instanceMethod yX6_take, Cond.selects RX6 yX6_take yX6_take, Cond.code yX6_take cX6_take 3 (some .int), Cond.methodLink RX6 121 yX6_addEquation, Cond.instanceMethod yX6_addEquation, Cond.selects RX6 yX6_addEquation yX6_addEquation, Cond.code yX6_addEquation cX6_addEquation 4 none, Cond.fieldLink RX6 23 "FountainCodeModel" "masks" "[J", Cond.fieldLink RX6 68 "FountainCodeModel" "many" "I", Cond.fieldLink RX6 27 "FountainCodeModel" "numbers" "[I", Cond.methodLink RX6 116 yX6_layRow, Cond.instanceMethod yX6_layRow, Cond.selects RX6 yX6_layRow yX6_layRow, Cond.code yX6_layRow cX6_layRow 3 none, Cond.methodLink RX6 124 yX6_peel, Cond.instanceMethod yX6_peel, Cond.selects RX6 yX6_peel yX6_peel]
def wsX6_receiveAll_r4 : List Cond := [Cond.code yX6_peel cX6_peel 7 (some .int), Cond.fieldLink RX6 74 "FountainCodeModel" "peeled" "I", Cond.fieldLink RX6 77 "FountainCodeModel" "peeledMask" "J", Cond.constantLong RX6 119 (-1), Cond.fieldLink RX6 30 "FountainCodeModel" "order" "[I", Cond.fieldLink RX6 33 "FountainCodeModel" "by" "[I"]
def wsX6_receiveAll : List Cond := .code yX6_receiveAll cX6_receiveAll 5 (some .int) :: ((wsX6_receiveAll_r1 ++ (wsX6_receiveAll_r2 ++ (wsX6_receiveAll_r3 ++ wsX6_receiveAll_r4))) ++ wsX60)
def wsX6_equations : List Cond := .code yX6_equations cX6_equations 1 (some .int) :: ([.fieldLink RX6 68 "FountainCodeModel" "many" "I", .methodLink RX6 128 yX6_told, .instanceMethod yX6_told, .selects RX6 yX6_told yX6_told, .initialized RX6, .code yX6_told cX6_told 2 (some .int), .fieldLink RX6 54 "FountainCodeModel" "refusal" "I"] ++ wsX60)
def wsX6_rank : List Cond := .code yX6_rank cX6_rank 1 (some .int) :: ([.methodLink RX6 148 yX6_rankOf, .instanceMethod yX6_rankOf, .selects RX6 yX6_rankOf yX6_rankOf, .initialized RX6, .code yX6_rankOf cX6_rankOf 3 (some .int), .fieldLink RX6 17 "FountainCodeModel" "blocks" "I", .fieldLink RX6 36 "FountainCodeModel" "rows" "[J", .methodLink RX6 128 yX6_told, .instanceMethod yX6_told, .selects RX6 yX6_told yX6_told, .code yX6_told cX6_told 2 (some .int), .fieldLink RX6 54 "FountainCodeModel" "refusal" "I"] ++ wsX60)
def wsX6_peeled : List Cond := .code yX6_peeled cX6_peeled 1 (some .int) :: ([.fieldLink RX6 74 "FountainCodeModel" "peeled" "I", .methodLink RX6 128 yX6_told, .instanceMethod yX6_told, .selects RX6 yX6_told yX6_told, .initialized RX6, .code yX6_told cX6_told 2 (some .int), .fieldLink RX6 54 "FountainCodeModel" "refusal" "I"] ++ wsX60)
def wsX6_peeledAt : List Cond := .code yX6_peeledAt cX6_peeledAt 2 (some .int) :: ([.fieldLink RX6 74 "FountainCodeModel" "peeled" "I", .fieldLink RX6 30 "FountainCodeModel" "order" "[I", .methodLink RX6 57 yX6_within, .static yX6_within, .initialized RX6, .code yX6_within cX6_within 3 (some .boolean), .methodLink RX6 65 yX6_refused, .instanceMethod yX6_refused, .selects RX6 yX6_refused yX6_refused, .code yX6_refused cX6_refused 2 (some .boolean), .fieldLink RX6 54 "FountainCodeModel" "refusal" "I"] ++ wsX60)
def wsX6_peeledBy : List Cond := .code yX6_peeledBy cX6_peeledBy 2 (some .int) :: ([.fieldLink RX6 33 "FountainCodeModel" "by" "[I", .methodLink RX6 131 yX6_noBlock, .instanceMethod yX6_noBlock, .selects RX6 yX6_noBlock yX6_noBlock, .initialized RX6, .code yX6_noBlock cX6_noBlock 2 (some .boolean), .methodLink RX6 61 yX6_isBlock, .instanceMethod yX6_isBlock, .selects RX6 yX6_isBlock yX6_isBlock, .code yX6_isBlock cX6_isBlock 2 (some .boolean), .fieldLink RX6 17 "FountainCodeModel" "blocks" "I", .methodLink RX6 57 yX6_within, .static yX6_within, .code yX6_within cX6_within 3 (some .boolean), .methodLink RX6 65 yX6_refused, .instanceMethod yX6_refused, .selects RX6 yX6_refused yX6_refused, .code yX6_refused cX6_refused 2 (some .boolean), .fieldLink RX6 54 "FountainCodeModel" "refusal" "I"] ++ wsX60)
def wsX6_determined : List Cond := .code yX6_determined cX6_determined 1 (some .int) :: ([.methodLink RX6 151 yX6_determinedMany, .instanceMethod yX6_determinedMany, .selects RX6 yX6_determinedMany yX6_determinedMany, .initialized RX6, .code yX6_determinedMany cX6_determinedMany 3 (some .int), .fieldLink RX6 17 "FountainCodeModel" "blocks" "I", .fieldLink RX6 36 "FountainCodeModel" "rows" "[J", .methodLink RX6 128 yX6_told, .instanceMethod yX6_told, .selects RX6 yX6_told yX6_told, .code yX6_told cX6_told 2 (some .int), .fieldLink RX6 54 "FountainCodeModel" "refusal" "I"] ++ wsX60)
def wsX6_isKnown : List Cond := .code yX6_isKnown cX6_isKnown 2 (some .boolean) :: ([.fieldLink RX6 36 "FountainCodeModel" "rows" "[J"] ++ wsX60)
def wsX6_isDetermined : List Cond := .code yX6_isDetermined cX6_isDetermined 2 (some .boolean) :: ([.methodLink RX6 131 yX6_noBlock, .instanceMethod yX6_noBlock, .selects RX6 yX6_noBlock yX6_noBlock, .initialized RX6, .code yX6_noBlock cX6_noBlock 2 (some .boolean), .methodLink RX6 61 yX6_isBlock, .instanceMethod yX6_isBlock, .selects RX6 yX6_isBlock yX6_isBlock, .code yX6_isBlock cX6_isBlock 2 (some .boolean), .fieldLink RX6 17 "FountainCodeModel" "blocks" "I", .methodLink RX6 57 yX6_within, .static yX6_within, .code yX6_within cX6_within 3 (some .boolean), .methodLink RX6 65 yX6_refused, .instanceMethod yX6_refused, .selects RX6 yX6_refused yX6_refused, .code yX6_refused cX6_refused 2 (some .boolean), .fieldLink RX6 54 "FountainCodeModel" "refusal" "I", .methodLink RX6 154 yX6_isKnown, .instanceMethod yX6_isKnown, .selects RX6 yX6_isKnown yX6_isKnown, .code yX6_isKnown cX6_isKnown 2 (some .boolean), .fieldLink RX6 36 "FountainCodeModel" "rows" "[J"] ++ wsX60)
def wsX6_recovered : List Cond := .code yX6_recovered cX6_recovered 2 (some .int) :: ([.fieldLink RX6 39 "FountainCodeModel" "rowNumbers" "[I", .methodLink RX6 61 yX6_isBlock, .instanceMethod yX6_isBlock, .selects RX6 yX6_isBlock yX6_isBlock, .initialized RX6, .code yX6_isBlock cX6_isBlock 2 (some .boolean), .fieldLink RX6 17 "FountainCodeModel" "blocks" "I", .methodLink RX6 57 yX6_within, .static yX6_within, .code yX6_within cX6_within 3 (some .boolean), .methodLink RX6 154 yX6_isKnown, .instanceMethod yX6_isKnown, .selects RX6 yX6_isKnown yX6_isKnown, .code yX6_isKnown cX6_isKnown 2 (some .boolean), .fieldLink RX6 36 "FountainCodeModel" "rows" "[J", .methodLink RX6 65 yX6_refused, .instanceMethod yX6_refused, .selects RX6 yX6_refused yX6_refused, .code yX6_refused cX6_refused 2 (some .boolean), .fieldLink RX6 54 "FountainCodeModel" "refusal" "I"] ++ wsX60)
def wsX6_helps_r1 : List Cond := [Cond.fieldLink RX6 106 "FountainCodeModel" "reduced" "J", Cond.methodLink RX6 137 yX6_maskOf, Cond.instanceMethod yX6_maskOf, Cond.selects RX6 yX6_maskOf yX6_maskOf, Cond.initialized RX6, Cond.code yX6_maskOf cX6_maskOf 5 (some .long), Cond.fieldLink RX6 96 "FountainCodeModel" "drawnMany" "I", Cond.fieldLink RX6 48 "FountainCodeModel" "drawn" "[I", Cond.methodLink RX6 99 yX6_drawDrop, Cond.instanceMethod yX6_drawDrop, Cond.selects RX6 yX6_drawDrop yX6_drawDrop, Cond.code yX6_drawDrop cX6_drawDrop 9 none, Cond.fieldLink RX6 85 "FountainCodeModel" "generator" "J", Cond.fieldLink RX6 7 "FountainCodeModel" "weights" "[I", Cond.fieldLink RX6 17 "FountainCodeModel" "blocks" "I", Cond.methodLink RX6 92 yX6_draw, Cond.instanceMethod yX6_draw, Cond.selects RX6 yX6_draw yX6_draw, Cond.code yX6_draw cX6_draw 2 (some .int), Cond.constantLong RX6 88 (6364136223846793005), Cond.constantLong RX6 90 (1442695040888963407), Cond.methodLink RX6 112 yX6_reduce, Cond.instanceMethod yX6_reduce, Cond.selects RX6 yX6_reduce yX6_reduce]
def wsX6_helps_r2 : List Cond := [Cond.code yX6_reduce cX6_reduce 5 none, Cond.fieldLink RX6 109 "FountainCodeModel" "reducedNumber" "I", Cond.fieldLink RX6 36 "FountainCodeModel" "rows" "[J", Cond.fieldLink RX6 39 "FountainCodeModel" "rowNumbers" "[I"]
def wsX6_helps : List Cond := .code yX6_helps cX6_helps 2 (some .boolean) :: ((wsX6_helps_r1 ++ wsX6_helps_r2) ++ wsX60)
def wsX6_wouldHelp_r1 : List Cond := [Cond.fieldLink RX6 54 "FountainCodeModel" "refusal" "I", Cond.methodLink RX6 157 yX6_helps, Cond.instanceMethod yX6_helps, Cond.selects RX6 yX6_helps yX6_helps, Cond.initialized RX6, Cond.code yX6_helps cX6_helps 2 (some .boolean), Cond.fieldLink RX6 106 "FountainCodeModel" "reduced" "J", Cond.methodLink RX6 137 yX6_maskOf, Cond.instanceMethod yX6_maskOf, Cond.selects RX6 yX6_maskOf yX6_maskOf, Cond.code yX6_maskOf cX6_maskOf 5 (some .long), Cond.fieldLink RX6 96 "FountainCodeModel" "drawnMany" "I", Cond.fieldLink RX6 48 "FountainCodeModel" "drawn" "[I", Cond.methodLink RX6 99 yX6_drawDrop, Cond.instanceMethod yX6_drawDrop, Cond.selects RX6 yX6_drawDrop yX6_drawDrop, Cond.code yX6_drawDrop cX6_drawDrop 9 none, Cond.fieldLink RX6 85 "FountainCodeModel" "generator" "J", Cond.fieldLink RX6 7 "FountainCodeModel" "weights" "[I", Cond.fieldLink RX6 17 "FountainCodeModel" "blocks" "I", Cond.methodLink RX6 92 yX6_draw, Cond.instanceMethod yX6_draw, Cond.selects RX6 yX6_draw yX6_draw, Cond.code yX6_draw cX6_draw 2 (some .int)]
def wsX6_wouldHelp_r2 : List Cond := [Cond.constantLong RX6 88 (6364136223846793005), Cond.constantLong RX6 90 (1442695040888963407), Cond.methodLink RX6 112 yX6_reduce, Cond.instanceMethod yX6_reduce, Cond.selects RX6 yX6_reduce yX6_reduce, Cond.code yX6_reduce cX6_reduce 5 none, Cond.fieldLink RX6 109 "FountainCodeModel" "reducedNumber" "I", Cond.fieldLink RX6 36 "FountainCodeModel" "rows" "[J", Cond.fieldLink RX6 39 "FountainCodeModel" "rowNumbers" "[I"]
def wsX6_wouldHelp : List Cond := .code yX6_wouldHelp cX6_wouldHelp 2 (some .boolean) :: ((wsX6_wouldHelp_r1 ++ wsX6_wouldHelp_r2) ++ wsX60)
def wsX6_wouldDetermine_r1 : List Cond := [Cond.fieldLink RX6 54 "FountainCodeModel" "refusal" "I", Cond.fieldLink RX6 42 "FountainCodeModel" "rowsKept" "[J", Cond.fieldLink RX6 36 "FountainCodeModel" "rows" "[J", Cond.fieldLink RX6 45 "FountainCodeModel" "rowNumbersKept" "[I", Cond.fieldLink RX6 39 "FountainCodeModel" "rowNumbers" "[I", Cond.methodLink RX6 151 yX6_determinedMany, Cond.instanceMethod yX6_determinedMany, Cond.selects RX6 yX6_determinedMany yX6_determinedMany, Cond.initialized RX6, Cond.code yX6_determinedMany cX6_determinedMany 3 (some .int), Cond.fieldLink RX6 17 "FountainCodeModel" "blocks" "I", Cond.methodLink RX6 137 yX6_maskOf, Cond.instanceMethod yX6_maskOf, Cond.selects RX6 yX6_maskOf yX6_maskOf, Cond.code yX6_maskOf cX6_maskOf 5 (some .long), Cond.fieldLink RX6 96 "FountainCodeModel" "drawnMany" "I", Cond.fieldLink RX6 48 "FountainCodeModel" "drawn" "[I", Cond.methodLink RX6 99 yX6_drawDrop, Cond.instanceMethod yX6_drawDrop, Cond.selects RX6 yX6_drawDrop yX6_drawDrop, Cond.code yX6_drawDrop cX6_drawDrop 9 none, Cond.fieldLink RX6 85 "FountainCodeModel" "generator" "J", Cond.fieldLink RX6 7 "FountainCodeModel" "weights" "[I", Cond.methodLink RX6 92 yX6_draw]
def wsX6_wouldDetermine_r2 : List Cond := [Cond.instanceMethod yX6_draw, Cond.selects RX6 yX6_draw yX6_draw, Cond.code yX6_draw cX6_draw 2 (some .int), Cond.constantLong RX6 88 (6364136223846793005), Cond.constantLong RX6 90 (1442695040888963407), Cond.methodLink RX6 112 yX6_reduce, Cond.instanceMethod yX6_reduce, Cond.selects RX6 yX6_reduce yX6_reduce, Cond.code yX6_reduce cX6_reduce 5 none, Cond.fieldLink RX6 106 "FountainCodeModel" "reduced" "J", Cond.fieldLink RX6 109 "FountainCodeModel" "reducedNumber" "I", Cond.methodLink RX6 116 yX6_layRow, Cond.instanceMethod yX6_layRow, Cond.selects RX6 yX6_layRow yX6_layRow, Cond.code yX6_layRow cX6_layRow 3 none]
def wsX6_wouldDetermine : List Cond := .code yX6_wouldDetermine cX6_wouldDetermine 5 (some .int) :: ((wsX6_wouldDetermine_r1 ++ wsX6_wouldDetermine_r2) ++ wsX60)
def wsX6_nextHelpful_r1 : List Cond := [Cond.fieldLink RX6 54 "FountainCodeModel" "refusal" "I", Cond.methodLink RX6 157 yX6_helps, Cond.instanceMethod yX6_helps, Cond.selects RX6 yX6_helps yX6_helps, Cond.initialized RX6, Cond.code yX6_helps cX6_helps 2 (some .boolean), Cond.fieldLink RX6 106 "FountainCodeModel" "reduced" "J", Cond.methodLink RX6 137 yX6_maskOf, Cond.instanceMethod yX6_maskOf, Cond.selects RX6 yX6_maskOf yX6_maskOf, Cond.code yX6_maskOf cX6_maskOf 5 (some .long), Cond.fieldLink RX6 96 "FountainCodeModel" "drawnMany" "I", Cond.fieldLink RX6 48 "FountainCodeModel" "drawn" "[I", Cond.methodLink RX6 99 yX6_drawDrop, Cond.instanceMethod yX6_drawDrop, Cond.selects RX6 yX6_drawDrop yX6_drawDrop, Cond.code yX6_drawDrop cX6_drawDrop 9 none, Cond.fieldLink RX6 85 "FountainCodeModel" "generator" "J", Cond.fieldLink RX6 7 "FountainCodeModel" "weights" "[I", Cond.fieldLink RX6 17 "FountainCodeModel" "blocks" "I", Cond.methodLink RX6 92 yX6_draw, Cond.instanceMethod yX6_draw, Cond.selects RX6 yX6_draw yX6_draw, Cond.code yX6_draw cX6_draw 2 (some .int)]
def wsX6_nextHelpful_r2 : List Cond := [Cond.constantLong RX6 88 (6364136223846793005), Cond.constantLong RX6 90 (1442695040888963407), Cond.methodLink RX6 112 yX6_reduce, Cond.instanceMethod yX6_reduce, Cond.selects RX6 yX6_reduce yX6_reduce, Cond.code yX6_reduce cX6_reduce 5 none, Cond.fieldLink RX6 109 "FountainCodeModel" "reducedNumber" "I", Cond.fieldLink RX6 36 "FountainCodeModel" "rows" "[J", Cond.fieldLink RX6 39 "FountainCodeModel" "rowNumbers" "[I"]
def wsX6_nextHelpful : List Cond := .code yX6_nextHelpful cX6_nextHelpful 3 (some .int) :: ((wsX6_nextHelpful_r1 ++ wsX6_nextHelpful_r2) ++ wsX60)
def wsX6_missing : List Cond := .code yX6_missing cX6_missing 1 (some .int) :: ([.fieldLink RX6 17 "FountainCodeModel" "blocks" "I", .methodLink RX6 148 yX6_rankOf, .instanceMethod yX6_rankOf, .selects RX6 yX6_rankOf yX6_rankOf, .initialized RX6, .code yX6_rankOf cX6_rankOf 3 (some .int), .fieldLink RX6 36 "FountainCodeModel" "rows" "[J", .methodLink RX6 128 yX6_told, .instanceMethod yX6_told, .selects RX6 yX6_told yX6_told, .code yX6_told cX6_told 2 (some .int), .fieldLink RX6 54 "FountainCodeModel" "refusal" "I"] ++ wsX60)
def wsJ9_min_7cf53 : List Cond := .code yJ9_min_7cf53 cJ9_min_7cf53 2 (some .int) :: ([])
def wsL_start_r1 : List Cond := [Cond.classLink RL 13 "java/lang/IllegalArgumentException", Cond.methodLink RL 7 yX5_start, Cond.instanceMethod yX5_start, Cond.selects RX5 yX5_start yX5_start, Cond.initialized RX5, Cond.code yX5_start cX5_start 3 (some .int), Cond.classLink RX5 48 "java/lang/IllegalArgumentException", Cond.initialized "java/lang/IllegalArgumentException", Cond.methodLink RX5 44 yX5_beginTransfer, Cond.instanceMethod yX5_beginTransfer, Cond.selects RX5 yX5_beginTransfer yX5_beginTransfer, Cond.code yX5_beginTransfer cX5_beginTransfer 4 (some .int), Cond.fieldLink RX5 19 "FountainCode" "sender" "LFountainCode$Sender;", Cond.fieldLink RX5 26 "FountainCode" "peeler" "LFountainCode$Peeler;", Cond.fieldLink RX5 33 "FountainCode" "elimination" "LFountainCode$Elimination;", Cond.methodLink RX5 167 yX3_begin, Cond.instanceMethod yX3_begin, Cond.selects RX3 yX3_begin yX3_begin, Cond.initialized RX3, Cond.code yX3_begin cX3_begin 3 none, Cond.fieldLink RX3 15 "FountainCode$Sender" "sources" "I", Cond.fieldLink RX3 19 "FountainCode$Sender" "parities" "I", Cond.fieldLink RX3 9 "FountainCode$Sender" "sourceValues" "[I", Cond.methodLink RX3 22 yJ7_fill_53178]
def wsL_start_r2 : List Cond := [Cond.static yJ7_fill_53178, Cond.initialized RJ7, Cond.code yJ7_fill_53178 cJ7_fill_53178 4 none, Cond.methodLink RX5 170 yX2_clear, Cond.instanceMethod yX2_clear, Cond.selects RX2 yX2_clear yX2_clear, Cond.initialized RX2, Cond.code yX2_clear cX2_clear 1 none, Cond.fieldLink RX2 22 "FountainCode$Peeler" "equationCount" "I", Cond.fieldLink RX2 26 "FountainCode$Peeler" "peeledCount" "I", Cond.fieldLink RX2 29 "FountainCode$Peeler" "peeledSet" "J", Cond.fieldLink RX2 19 "FountainCode$Peeler" "peelEquations" "[I", Cond.methodLink RX2 33 yJ7_fill_53178, Cond.methodLink RX5 173 yX1_clear, Cond.instanceMethod yX1_clear, Cond.selects RX1 yX1_clear yX1_clear, Cond.initialized RX1, Cond.code yX1_clear cX1_clear 1 none, Cond.fieldLink RX1 19 "FountainCode$Elimination" "rowCount" "I", Cond.fieldLink RX1 9 "FountainCode$Elimination" "rows" "[J", Cond.fieldLink RX1 15 "FountainCode$Elimination" "values" "[I", Cond.methodLink RX1 23 yJ7_fill_d0a16, Cond.static yJ7_fill_d0a16, Cond.code yJ7_fill_d0a16 cJ7_fill_d0a16 5 none]
def wsL_start_r3 : List Cond := [Cond.methodLink RX1 29 yJ7_fill_53178, Cond.methodLink RX5 150 yX5_setOf, Cond.static yX5_setOf, Cond.code yX5_setOf cX5_setOf 1 (some .long), Cond.methodLink RX5 174 yX3_coveredBy, Cond.instanceMethod yX3_coveredBy, Cond.selects RX3 yX3_coveredBy yX3_coveredBy, Cond.code yX3_coveredBy cX3_coveredBy 5 (some .long), Cond.methodLink RX5 177 yX5_addEquation, Cond.instanceMethod yX5_addEquation, Cond.selects RX5 yX5_addEquation yX5_addEquation, Cond.code yX5_addEquation cX5_addEquation 4 none, Cond.methodLink RX5 194 yX2_addEquation, Cond.instanceMethod yX2_addEquation, Cond.selects RX2 yX2_addEquation yX2_addEquation, Cond.code yX2_addEquation cX2_addEquation 3 none, Cond.fieldLink RX2 9 "FountainCode$Peeler" "equationSets" "[J", Cond.methodLink RX5 197 yX1_addEquation, Cond.instanceMethod yX1_addEquation, Cond.selects RX1 yX1_addEquation yX1_addEquation, Cond.code yX1_addEquation cX1_addEquation 9 none, Cond.methodLink RX1 36 yX1_remainder, Cond.instanceMethod yX1_remainder, Cond.selects RX1 yX1_remainder yX1_remainder]
def wsL_start_r4 : List Cond := [Cond.code yX1_remainder cX1_remainder 6 (some .long), Cond.static yX5_holds, Cond.code yX5_holds cX5_holds 3 (some .boolean), Cond.static yX5_lowestOf, Cond.code yX5_lowestOf cX5_lowestOf 2 (some .int), Cond.methodLink RX5 198 yJ13_bitCount_95d88, Cond.static yJ13_bitCount_95d88, Cond.initialized RJ13, Cond.code yJ13_bitCount_95d88 cJ13_bitCount_95d88 2 (some .int), Cond.constantLong RJ13 314 (6148914691236517205), Cond.constantLong RJ13 316 (3689348814741910323), Cond.constantLong RJ13 318 (1085102592571150095), Cond.methodLink RX1 40 yX1_knownValue, Cond.instanceMethod yX1_knownValue, Cond.selects RX1 yX1_knownValue yX1_knownValue, Cond.code yX1_knownValue cX1_knownValue 5 (some .int), Cond.methodLink RX5 181 yX2_peelOn, Cond.instanceMethod yX2_peelOn, Cond.selects RX2 yX2_peelOn yX2_peelOn, Cond.code yX2_peelOn cX2_peelOn 4 (some .int), Cond.methodLink RX2 39 yX2_lowestReady, Cond.instanceMethod yX2_lowestReady, Cond.selects RX2 yX2_lowestReady yX2_lowestReady, Cond.code yX2_lowestReady cX2_lowestReady 2 (some .int)]
def wsL_start_r5 : List Cond := [Cond.constantLong RX2 47 (-1), Cond.methodLink RX2 49 yJ13_bitCount_95d88, Cond.methodLink RX2 43 yX2_peelWith, Cond.instanceMethod yX2_peelWith, Cond.selects RX2 yX2_peelWith yX2_peelWith, Cond.code yX2_peelWith cX2_peelWith 3 none, Cond.fieldLink RX2 15 "FountainCode$Peeler" "peelOrder" "[I"]
def wsL_start : List Cond := .codeWith yL_start cL_start 5 (some .int) [(0, 10, 13, 13)] :: ((wsL_start_r1 ++ (wsL_start_r2 ++ (wsL_start_r3 ++ (wsL_start_r4 ++ wsL_start_r5)))) ++ wsX50 ++ wsX30 ++ wsX20 ++ wsX10 ++ (vx_atS RX5 52 "java/lang/IllegalArgumentException" ["java/lang/RuntimeException", "java/lang/Exception"]).filter goodWord)
def wsL_setWeight_r1 : List Cond := [Cond.classLink RL 13 "java/lang/IllegalArgumentException", Cond.classLink RL 18 "java/lang/IllegalStateException", Cond.methodLink RL 15 yX5_setWeight, Cond.instanceMethod yX5_setWeight, Cond.selects RX5 yX5_setWeight yX5_setWeight, Cond.initialized RX5, Cond.code yX5_setWeight cX5_setWeight 4 (some .int), Cond.classLink RX5 48 "java/lang/IllegalArgumentException", Cond.initialized "java/lang/IllegalArgumentException", Cond.classLink RX5 65 "java/lang/IllegalStateException", Cond.initialized "java/lang/IllegalStateException", Cond.fieldLink RX5 12 "FountainCode" "weights" "LFountainCode$Weights;", Cond.methodLink RX5 57 yX4_weightOf, Cond.instanceMethod yX4_weightOf, Cond.selects RX4 yX4_weightOf yX4_weightOf, Cond.initialized RX4, Cond.code yX4_weightOf cX4_weightOf 3 (some .int), Cond.fieldLink RX4 20 "FountainCode$Weights" "list" "[I", Cond.methodLink RX5 61 yX4_sum, Cond.instanceMethod yX4_sum, Cond.selects RX4 yX4_sum yX4_sum, Cond.code yX4_sum cX4_sum 3 (some .int), Cond.methodLink RX5 70 yX4_change, Cond.instanceMethod yX4_change]
def wsL_setWeight_r2 : List Cond := [Cond.selects RX4 yX4_change yX4_change, Cond.code yX4_change cX4_change 4 none]
def wsL_setWeight : List Cond := .codeWith yL_setWeight cL_setWeight 5 (some .int) [(0, 10, 13, 13), (0, 10, 17, 18)] :: ((wsL_setWeight_r1 ++ wsL_setWeight_r2) ++ wsX50 ++ wsX40 ++ (vx_atS RX5 52 "java/lang/IllegalArgumentException" ["java/lang/RuntimeException", "java/lang/Exception"]).filter goodWord ++ (vx_atS RX5 69 "java/lang/IllegalStateException" ["java/lang/RuntimeException", "java/lang/Exception"]).filter goodWord)
def wsL_setBlock_r1 : List Cond := [Cond.classLink RL 23 "java/lang/IndexOutOfBoundsException", Cond.methodLink RL 20 yX5_setBlock, Cond.instanceMethod yX5_setBlock, Cond.selects RX5 yX5_setBlock yX5_setBlock, Cond.initialized RX5, Cond.code yX5_setBlock cX5_setBlock 4 (some .int), Cond.classLink RX5 77 "java/lang/IndexOutOfBoundsException", Cond.initialized "java/lang/IndexOutOfBoundsException", Cond.fieldLink RX5 19 "FountainCode" "sender" "LFountainCode$Sender;", Cond.methodLink RX5 74 yX3_sourceCount, Cond.instanceMethod yX3_sourceCount, Cond.selects RX3 yX3_sourceCount yX3_sourceCount, Cond.initialized RX3, Cond.code yX3_sourceCount cX3_sourceCount 1 (some .int), Cond.fieldLink RX3 15 "FountainCode$Sender" "sources" "I", Cond.methodLink RX5 82 yX3_valueOfBlock, Cond.instanceMethod yX3_valueOfBlock, Cond.selects RX3 yX3_valueOfBlock yX3_valueOfBlock, Cond.code yX3_valueOfBlock cX3_valueOfBlock 2 (some .int), Cond.methodLink RX3 32 yX3_coveredBy, Cond.instanceMethod yX3_coveredBy, Cond.selects RX3 yX3_coveredBy yX3_coveredBy, Cond.code yX3_coveredBy cX3_coveredBy 5 (some .long), Cond.static yX5_setOf]
def wsL_setBlock_r2 : List Cond := [Cond.code yX5_setOf cX5_setOf 1 (some .long), Cond.methodLink RX3 35 yX3_valueOfSources, Cond.instanceMethod yX3_valueOfSources, Cond.selects RX3 yX3_valueOfSources yX3_valueOfSources, Cond.code yX3_valueOfSources cX3_valueOfSources 5 (some .int), Cond.fieldLink RX3 9 "FountainCode$Sender" "sourceValues" "[I", Cond.static yX5_holds, Cond.code yX5_holds cX5_holds 3 (some .boolean), Cond.methodLink RX5 150 yX5_setOf, Cond.methodLink RX5 85 yX3_change, Cond.instanceMethod yX3_change, Cond.selects RX3 yX3_change yX3_change, Cond.code yX3_change cX3_change 3 none]
def wsL_setBlock : List Cond := .codeWith yL_setBlock cL_setBlock 5 (some .int) [(0, 10, 13, 23)] :: ((wsL_setBlock_r1 ++ wsL_setBlock_r2) ++ wsX50 ++ wsX30 ++ (vx_atS RX5 81 "java/lang/IndexOutOfBoundsException" ["java/lang/RuntimeException", "java/lang/Exception"]).filter goodWord)
def wsL_blockAt_r1 : List Cond := [Cond.classLink RL 23 "java/lang/IndexOutOfBoundsException", Cond.methodLink RL 25 yX5_blockAt, Cond.instanceMethod yX5_blockAt, Cond.selects RX5 yX5_blockAt yX5_blockAt, Cond.initialized RX5, Cond.code yX5_blockAt cX5_blockAt 2 (some .int), Cond.classLink RX5 77 "java/lang/IndexOutOfBoundsException", Cond.initialized "java/lang/IndexOutOfBoundsException", Cond.fieldLink RX5 19 "FountainCode" "sender" "LFountainCode$Sender;", Cond.methodLink RX5 89 yX5_isBlock, Cond.instanceMethod yX5_isBlock, Cond.selects RX5 yX5_isBlock yX5_isBlock, Cond.code yX5_isBlock cX5_isBlock 2 (some .boolean), Cond.methodLink RX5 86 yX3_blockCount, Cond.instanceMethod yX3_blockCount, Cond.selects RX3 yX3_blockCount yX3_blockCount, Cond.initialized RX3, Cond.code yX3_blockCount cX3_blockCount 1 (some .int), Cond.fieldLink RX3 15 "FountainCode$Sender" "sources" "I", Cond.fieldLink RX3 19 "FountainCode$Sender" "parities" "I", Cond.methodLink RX5 82 yX3_valueOfBlock, Cond.instanceMethod yX3_valueOfBlock, Cond.selects RX3 yX3_valueOfBlock yX3_valueOfBlock, Cond.code yX3_valueOfBlock cX3_valueOfBlock 2 (some .int)]
def wsL_blockAt_r2 : List Cond := [Cond.methodLink RX3 32 yX3_coveredBy, Cond.instanceMethod yX3_coveredBy, Cond.selects RX3 yX3_coveredBy yX3_coveredBy, Cond.code yX3_coveredBy cX3_coveredBy 5 (some .long), Cond.static yX5_setOf, Cond.code yX5_setOf cX5_setOf 1 (some .long), Cond.methodLink RX3 35 yX3_valueOfSources, Cond.instanceMethod yX3_valueOfSources, Cond.selects RX3 yX3_valueOfSources yX3_valueOfSources, Cond.code yX3_valueOfSources cX3_valueOfSources 5 (some .int), Cond.fieldLink RX3 9 "FountainCode$Sender" "sourceValues" "[I", Cond.static yX5_holds, Cond.code yX5_holds cX5_holds 3 (some .boolean), Cond.methodLink RX5 150 yX5_setOf]
def wsL_blockAt : List Cond := .codeWith yL_blockAt cL_blockAt 4 (some .int) [(0, 9, 12, 23)] :: ((wsL_blockAt_r1 ++ wsL_blockAt_r2) ++ wsX50 ++ wsX30 ++ (vx_atS RX5 81 "java/lang/IndexOutOfBoundsException" ["java/lang/RuntimeException", "java/lang/Exception"]).filter goodWord)
def wsL_blockOf_r1 : List Cond := [Cond.classLink RL 23 "java/lang/IndexOutOfBoundsException", Cond.methodLink RL 29 yX5_blockOf, Cond.instanceMethod yX5_blockOf, Cond.selects RX5 yX5_blockOf yX5_blockOf, Cond.initialized RX5, Cond.code yX5_blockOf cX5_blockOf 4 (some .int), Cond.classLink RX5 77 "java/lang/IndexOutOfBoundsException", Cond.initialized "java/lang/IndexOutOfBoundsException", Cond.methodLink RX5 95 yX5_drawn, Cond.instanceMethod yX5_drawn, Cond.selects RX5 yX5_drawn yX5_drawn, Cond.code yX5_drawn cX5_drawn 2 (some (.object "FountainCode$Drop")), Cond.fieldLink RX5 40 "FountainCode" "scratchDrop" "LFountainCode$Drop;", Cond.fieldLink RX5 12 "FountainCode" "weights" "LFountainCode$Weights;", Cond.fieldLink RX5 19 "FountainCode" "sender" "LFountainCode$Sender;", Cond.methodLink RX5 86 yX3_blockCount, Cond.instanceMethod yX3_blockCount, Cond.selects RX3 yX3_blockCount yX3_blockCount, Cond.initialized RX3, Cond.code yX3_blockCount cX3_blockCount 1 (some .int), Cond.fieldLink RX3 15 "FountainCode$Sender" "sources" "I", Cond.fieldLink RX3 19 "FountainCode$Sender" "parities" "I", Cond.methodLink RX5 184 yX0_draw, Cond.instanceMethod yX0_draw]
def wsL_blockOf_r2 : List Cond := [Cond.selects RX0 yX0_draw yX0_draw, Cond.initialized RX0, Cond.code yX0_draw cX0_draw 5 none, Cond.fieldLink RX0 15 "FountainCode$Drop" "generator" "J", Cond.methodLink RX0 32 Lib.Math.min.name, Cond.static Lib.Math.min.name, Cond.initialized "java/lang/Math", Cond.code Lib.Math.min.name Lib.Math.min.code 2 (some .int), Cond.fieldLink RX0 38 "FountainCode$Drop" "size" "I", Cond.fieldLink RX0 46 "FountainCode$Drop" "blockSet" "J", Cond.fieldLink RX0 9 "FountainCode$Drop" "row" "[I", Cond.methodLink RX0 19 yX4_sum, Cond.instanceMethod yX4_sum, Cond.selects RX4 yX4_sum yX4_sum, Cond.initialized RX4, Cond.code yX4_sum cX4_sum 3 (some .int), Cond.fieldLink RX4 20 "FountainCode$Weights" "list" "[I", Cond.methodLink RX0 25 yX0_numberBelow, Cond.instanceMethod yX0_numberBelow, Cond.selects RX0 yX0_numberBelow yX0_numberBelow, Cond.code yX0_numberBelow cX0_numberBelow 2 (some .int), Cond.constantLong RX0 57 (6364136223846793005), Cond.constantLong RX0 59 (1442695040888963407), Cond.methodLink RX0 29 yX4_degreeFor]
def wsL_blockOf_r3 : List Cond := [Cond.instanceMethod yX4_degreeFor, Cond.selects RX4 yX4_degreeFor yX4_degreeFor, Cond.code yX4_degreeFor cX4_degreeFor 4 (some .int), Cond.methodLink RX0 42 yX0_lineUp, Cond.instanceMethod yX0_lineUp, Cond.selects RX0 yX0_lineUp yX0_lineUp, Cond.code yX0_lineUp cX0_lineUp 3 none, Cond.methodLink RX0 49 yX0_swap, Cond.instanceMethod yX0_swap, Cond.selects RX0 yX0_swap yX0_swap, Cond.code yX0_swap cX0_swap 4 none, Cond.static yX5_setOf, Cond.code yX5_setOf cX5_setOf 1 (some .long), Cond.methodLink RX5 99 yX0_size, Cond.instanceMethod yX0_size, Cond.selects RX0 yX0_size yX0_size, Cond.code yX0_size cX0_size 1 (some .int), Cond.methodLink RX5 104 yX0_blockInPlace, Cond.instanceMethod yX0_blockInPlace, Cond.selects RX0 yX0_blockInPlace yX0_blockInPlace, Cond.code yX0_blockInPlace cX0_blockInPlace 2 (some .int)]
def wsL_blockOf : List Cond := .codeWith yL_blockOf cL_blockOf 5 (some .int) [(0, 10, 13, 23)] :: ((wsL_blockOf_r1 ++ (wsL_blockOf_r2 ++ wsL_blockOf_r3)) ++ wsX50 ++ wsX30 ++ wsX00 ++ wsX40 ++ (vx_atS RX5 81 "java/lang/IndexOutOfBoundsException" ["java/lang/RuntimeException", "java/lang/Exception"]).filter goodWord)
def wsL_receive_r1 : List Cond := [Cond.classLink RL 18 "java/lang/IllegalStateException", Cond.methodLink RL 32 yX5_receive, Cond.instanceMethod yX5_receive, Cond.selects RX5 yX5_receive yX5_receive, Cond.initialized RX5, Cond.code yX5_receive cX5_receive 5 (some .int), Cond.classLink RX5 65 "java/lang/IllegalStateException", Cond.initialized "java/lang/IllegalStateException", Cond.methodLink RX5 95 yX5_drawn, Cond.instanceMethod yX5_drawn, Cond.selects RX5 yX5_drawn yX5_drawn, Cond.code yX5_drawn cX5_drawn 2 (some (.object "FountainCode$Drop")), Cond.fieldLink RX5 40 "FountainCode" "scratchDrop" "LFountainCode$Drop;", Cond.fieldLink RX5 12 "FountainCode" "weights" "LFountainCode$Weights;", Cond.fieldLink RX5 19 "FountainCode" "sender" "LFountainCode$Sender;", Cond.methodLink RX5 86 yX3_blockCount, Cond.instanceMethod yX3_blockCount, Cond.selects RX3 yX3_blockCount yX3_blockCount, Cond.initialized RX3, Cond.code yX3_blockCount cX3_blockCount 1 (some .int), Cond.fieldLink RX3 15 "FountainCode$Sender" "sources" "I", Cond.fieldLink RX3 19 "FountainCode$Sender" "parities" "I", Cond.methodLink RX5 184 yX0_draw, Cond.instanceMethod yX0_draw]
def wsL_receive_r2 : List Cond := [Cond.selects RX0 yX0_draw yX0_draw, Cond.initialized RX0, Cond.code yX0_draw cX0_draw 5 none, Cond.fieldLink RX0 15 "FountainCode$Drop" "generator" "J", Cond.methodLink RX0 32 Lib.Math.min.name, Cond.static Lib.Math.min.name, Cond.initialized "java/lang/Math", Cond.code Lib.Math.min.name Lib.Math.min.code 2 (some .int), Cond.fieldLink RX0 38 "FountainCode$Drop" "size" "I", Cond.fieldLink RX0 46 "FountainCode$Drop" "blockSet" "J", Cond.fieldLink RX0 9 "FountainCode$Drop" "row" "[I", Cond.methodLink RX0 19 yX4_sum, Cond.instanceMethod yX4_sum, Cond.selects RX4 yX4_sum yX4_sum, Cond.initialized RX4, Cond.code yX4_sum cX4_sum 3 (some .int), Cond.fieldLink RX4 20 "FountainCode$Weights" "list" "[I", Cond.methodLink RX0 25 yX0_numberBelow, Cond.instanceMethod yX0_numberBelow, Cond.selects RX0 yX0_numberBelow yX0_numberBelow, Cond.code yX0_numberBelow cX0_numberBelow 2 (some .int), Cond.constantLong RX0 57 (6364136223846793005), Cond.constantLong RX0 59 (1442695040888963407), Cond.methodLink RX0 29 yX4_degreeFor]
def wsL_receive_r3 : List Cond := [Cond.instanceMethod yX4_degreeFor, Cond.selects RX4 yX4_degreeFor yX4_degreeFor, Cond.code yX4_degreeFor cX4_degreeFor 4 (some .int), Cond.methodLink RX0 42 yX0_lineUp, Cond.instanceMethod yX0_lineUp, Cond.selects RX0 yX0_lineUp yX0_lineUp, Cond.code yX0_lineUp cX0_lineUp 3 none, Cond.methodLink RX0 49 yX0_swap, Cond.instanceMethod yX0_swap, Cond.selects RX0 yX0_swap yX0_swap, Cond.code yX0_swap cX0_swap 4 none, Cond.static yX5_setOf, Cond.code yX5_setOf cX5_setOf 1 (some .long), Cond.methodLink RX5 107 yX0_blockSet, Cond.instanceMethod yX0_blockSet, Cond.selects RX0 yX0_blockSet yX0_blockSet, Cond.code yX0_blockSet cX0_blockSet 1 (some .long), Cond.methodLink RX5 115 yX5_canTake, Cond.instanceMethod yX5_canTake, Cond.selects RX5 yX5_canTake yX5_canTake, Cond.code yX5_canTake cX5_canTake 5 (some .boolean), Cond.fieldLink RX5 26 "FountainCode" "peeler" "LFountainCode$Peeler;", Cond.fieldLink RX5 33 "FountainCode" "elimination" "LFountainCode$Elimination;", Cond.methodLink RX5 127 yX2_equationCount]
def wsL_receive_r4 : List Cond := [Cond.instanceMethod yX2_equationCount, Cond.selects RX2 yX2_equationCount yX2_equationCount, Cond.initialized RX2, Cond.code yX2_equationCount cX2_equationCount 1 (some .int), Cond.fieldLink RX2 22 "FountainCode$Peeler" "equationCount" "I", Cond.methodLink RX5 188 yX3_parityCount, Cond.instanceMethod yX3_parityCount, Cond.selects RX3 yX3_parityCount yX3_parityCount, Cond.code yX3_parityCount cX3_parityCount 1 (some .int), Cond.methodLink RX5 191 yX1_contradicts, Cond.instanceMethod yX1_contradicts, Cond.selects RX1 yX1_contradicts yX1_contradicts, Cond.initialized RX1, Cond.code yX1_contradicts cX1_contradicts 4 (some .boolean), Cond.methodLink RX1 36 yX1_remainder, Cond.instanceMethod yX1_remainder, Cond.selects RX1 yX1_remainder yX1_remainder, Cond.code yX1_remainder cX1_remainder 6 (some .long), Cond.fieldLink RX1 9 "FountainCode$Elimination" "rows" "[J", Cond.static yX5_holds, Cond.code yX5_holds cX5_holds 3 (some .boolean), Cond.methodLink RX5 150 yX5_setOf, Cond.methodLink RX1 40 yX1_knownValue, Cond.instanceMethod yX1_knownValue]
def wsL_receive_r5 : List Cond := [Cond.selects RX1 yX1_knownValue yX1_knownValue, Cond.code yX1_knownValue cX1_knownValue 5 (some .int), Cond.fieldLink RX1 15 "FountainCode$Elimination" "values" "[I", Cond.methodLink RX5 121 yX5_take, Cond.instanceMethod yX5_take, Cond.selects RX5 yX5_take yX5_take, Cond.code yX5_take cX5_take 4 (some .int), Cond.methodLink RX5 177 yX5_addEquation, Cond.instanceMethod yX5_addEquation, Cond.selects RX5 yX5_addEquation yX5_addEquation, Cond.code yX5_addEquation cX5_addEquation 4 none, Cond.methodLink RX5 194 yX2_addEquation, Cond.instanceMethod yX2_addEquation, Cond.selects RX2 yX2_addEquation yX2_addEquation, Cond.code yX2_addEquation cX2_addEquation 3 none, Cond.fieldLink RX2 9 "FountainCode$Peeler" "equationSets" "[J", Cond.methodLink RX5 197 yX1_addEquation, Cond.instanceMethod yX1_addEquation, Cond.selects RX1 yX1_addEquation yX1_addEquation, Cond.code yX1_addEquation cX1_addEquation 9 none, Cond.fieldLink RX1 19 "FountainCode$Elimination" "rowCount" "I", Cond.static yX5_lowestOf, Cond.code yX5_lowestOf cX5_lowestOf 2 (some .int), Cond.methodLink RX5 198 yJ13_bitCount_95d88]
def wsL_receive_r6 : List Cond := [Cond.static yJ13_bitCount_95d88, Cond.initialized RJ13, Cond.code yJ13_bitCount_95d88 cJ13_bitCount_95d88 2 (some .int), Cond.constantLong RJ13 314 (6148914691236517205), Cond.constantLong RJ13 316 (3689348814741910323), Cond.constantLong RJ13 318 (1085102592571150095), Cond.methodLink RX5 181 yX2_peelOn, Cond.instanceMethod yX2_peelOn, Cond.selects RX2 yX2_peelOn yX2_peelOn, Cond.code yX2_peelOn cX2_peelOn 4 (some .int), Cond.fieldLink RX2 26 "FountainCode$Peeler" "peeledCount" "I", Cond.methodLink RX2 39 yX2_lowestReady, Cond.instanceMethod yX2_lowestReady, Cond.selects RX2 yX2_lowestReady yX2_lowestReady, Cond.code yX2_lowestReady cX2_lowestReady 2 (some .int), Cond.fieldLink RX2 29 "FountainCode$Peeler" "peeledSet" "J", Cond.constantLong RX2 47 (-1), Cond.methodLink RX2 49 yJ13_bitCount_95d88, Cond.methodLink RX2 43 yX2_peelWith, Cond.instanceMethod yX2_peelWith, Cond.selects RX2 yX2_peelWith yX2_peelWith, Cond.code yX2_peelWith cX2_peelWith 3 none, Cond.fieldLink RX2 15 "FountainCode$Peeler" "peelOrder" "[I", Cond.fieldLink RX2 19 "FountainCode$Peeler" "peelEquations" "[I"]
def wsL_receive : List Cond := .codeWith yL_receive cL_receive 5 (some .int) [(0, 10, 13, 18)] :: ((wsL_receive_r1 ++ (wsL_receive_r2 ++ (wsL_receive_r3 ++ (wsL_receive_r4 ++ (wsL_receive_r5 ++ wsL_receive_r6))))) ++ wsX50 ++ wsX30 ++ wsX00 ++ wsX40 ++ wsX20 ++ wsX10 ++ (vx_atS RX5 69 "java/lang/IllegalStateException" ["java/lang/RuntimeException", "java/lang/Exception"]).filter goodWord)
def wsL_receiveAll_r1 : List Cond := [Cond.classLink RL 13 "java/lang/IllegalArgumentException", Cond.methodLink RL 35 yX5_receiveAll, Cond.instanceMethod yX5_receiveAll, Cond.selects RX5 yX5_receiveAll yX5_receiveAll, Cond.initialized RX5, Cond.code yX5_receiveAll cX5_receiveAll 7 (some .int), Cond.classLink RX5 48 "java/lang/IllegalArgumentException", Cond.initialized "java/lang/IllegalArgumentException", Cond.fieldLink RX5 19 "FountainCode" "sender" "LFountainCode$Sender;", Cond.methodLink RX5 95 yX5_drawn, Cond.instanceMethod yX5_drawn, Cond.selects RX5 yX5_drawn yX5_drawn, Cond.code yX5_drawn cX5_drawn 2 (some (.object "FountainCode$Drop")), Cond.fieldLink RX5 40 "FountainCode" "scratchDrop" "LFountainCode$Drop;", Cond.fieldLink RX5 12 "FountainCode" "weights" "LFountainCode$Weights;", Cond.methodLink RX5 86 yX3_blockCount, Cond.instanceMethod yX3_blockCount, Cond.selects RX3 yX3_blockCount yX3_blockCount, Cond.initialized RX3, Cond.code yX3_blockCount cX3_blockCount 1 (some .int), Cond.fieldLink RX3 15 "FountainCode$Sender" "sources" "I", Cond.fieldLink RX3 19 "FountainCode$Sender" "parities" "I", Cond.methodLink RX5 184 yX0_draw, Cond.instanceMethod yX0_draw]
def wsL_receiveAll_r2 : List Cond := [Cond.selects RX0 yX0_draw yX0_draw, Cond.initialized RX0, Cond.code yX0_draw cX0_draw 5 none, Cond.fieldLink RX0 15 "FountainCode$Drop" "generator" "J", Cond.methodLink RX0 32 Lib.Math.min.name, Cond.static Lib.Math.min.name, Cond.initialized "java/lang/Math", Cond.code Lib.Math.min.name Lib.Math.min.code 2 (some .int), Cond.fieldLink RX0 38 "FountainCode$Drop" "size" "I", Cond.fieldLink RX0 46 "FountainCode$Drop" "blockSet" "J", Cond.fieldLink RX0 9 "FountainCode$Drop" "row" "[I", Cond.methodLink RX0 19 yX4_sum, Cond.instanceMethod yX4_sum, Cond.selects RX4 yX4_sum yX4_sum, Cond.initialized RX4, Cond.code yX4_sum cX4_sum 3 (some .int), Cond.fieldLink RX4 20 "FountainCode$Weights" "list" "[I", Cond.methodLink RX0 25 yX0_numberBelow, Cond.instanceMethod yX0_numberBelow, Cond.selects RX0 yX0_numberBelow yX0_numberBelow, Cond.code yX0_numberBelow cX0_numberBelow 2 (some .int), Cond.constantLong RX0 57 (6364136223846793005), Cond.constantLong RX0 59 (1442695040888963407), Cond.methodLink RX0 29 yX4_degreeFor]
def wsL_receiveAll_r3 : List Cond := [Cond.instanceMethod yX4_degreeFor, Cond.selects RX4 yX4_degreeFor yX4_degreeFor, Cond.code yX4_degreeFor cX4_degreeFor 4 (some .int), Cond.methodLink RX0 42 yX0_lineUp, Cond.instanceMethod yX0_lineUp, Cond.selects RX0 yX0_lineUp yX0_lineUp, Cond.code yX0_lineUp cX0_lineUp 3 none, Cond.methodLink RX0 49 yX0_swap, Cond.instanceMethod yX0_swap, Cond.selects RX0 yX0_swap yX0_swap, Cond.code yX0_swap cX0_swap 4 none, Cond.static yX5_setOf, Cond.code yX5_setOf cX5_setOf 1 (some .long), Cond.methodLink RX5 107 yX0_blockSet, Cond.instanceMethod yX0_blockSet, Cond.selects RX0 yX0_blockSet yX0_blockSet, Cond.code yX0_blockSet cX0_blockSet 1 (some .long), Cond.methodLink RX5 111 yX3_valueOfSet, Cond.instanceMethod yX3_valueOfSet, Cond.selects RX3 yX3_valueOfSet yX3_valueOfSet, Cond.code yX3_valueOfSet cX3_valueOfSet 5 (some .int), Cond.methodLink RX3 35 yX3_valueOfSources, Cond.instanceMethod yX3_valueOfSources, Cond.selects RX3 yX3_valueOfSources yX3_valueOfSources]
def wsL_receiveAll_r4 : List Cond := [Cond.code yX3_valueOfSources cX3_valueOfSources 5 (some .int), Cond.fieldLink RX3 9 "FountainCode$Sender" "sourceValues" "[I", Cond.static yX5_holds, Cond.code yX5_holds cX5_holds 3 (some .boolean), Cond.methodLink RX5 150 yX5_setOf, Cond.methodLink RX3 39 yX3_blockCount, Cond.methodLink RX3 47 yX3_valueOfBlock, Cond.instanceMethod yX3_valueOfBlock, Cond.selects RX3 yX3_valueOfBlock yX3_valueOfBlock, Cond.code yX3_valueOfBlock cX3_valueOfBlock 2 (some .int), Cond.methodLink RX3 32 yX3_coveredBy, Cond.instanceMethod yX3_coveredBy, Cond.selects RX3 yX3_coveredBy yX3_coveredBy, Cond.code yX3_coveredBy cX3_coveredBy 5 (some .long), Cond.methodLink RX5 115 yX5_canTake, Cond.instanceMethod yX5_canTake, Cond.selects RX5 yX5_canTake yX5_canTake, Cond.code yX5_canTake cX5_canTake 5 (some .boolean), Cond.fieldLink RX5 26 "FountainCode" "peeler" "LFountainCode$Peeler;", Cond.fieldLink RX5 33 "FountainCode" "elimination" "LFountainCode$Elimination;", Cond.methodLink RX5 127 yX2_equationCount, Cond.instanceMethod yX2_equationCount, Cond.selects RX2 yX2_equationCount yX2_equationCount, Cond.initialized RX2]
def wsL_receiveAll_r5 : List Cond := [Cond.code yX2_equationCount cX2_equationCount 1 (some .int), Cond.fieldLink RX2 22 "FountainCode$Peeler" "equationCount" "I", Cond.methodLink RX5 188 yX3_parityCount, Cond.instanceMethod yX3_parityCount, Cond.selects RX3 yX3_parityCount yX3_parityCount, Cond.code yX3_parityCount cX3_parityCount 1 (some .int), Cond.methodLink RX5 191 yX1_contradicts, Cond.instanceMethod yX1_contradicts, Cond.selects RX1 yX1_contradicts yX1_contradicts, Cond.initialized RX1, Cond.code yX1_contradicts cX1_contradicts 4 (some .boolean), Cond.methodLink RX1 36 yX1_remainder, Cond.instanceMethod yX1_remainder, Cond.selects RX1 yX1_remainder yX1_remainder, Cond.code yX1_remainder cX1_remainder 6 (some .long), Cond.fieldLink RX1 9 "FountainCode$Elimination" "rows" "[J", Cond.methodLink RX1 40 yX1_knownValue, Cond.instanceMethod yX1_knownValue, Cond.selects RX1 yX1_knownValue yX1_knownValue, Cond.code yX1_knownValue cX1_knownValue 5 (some .int), Cond.fieldLink RX1 15 "FountainCode$Elimination" "values" "[I", Cond.methodLink RX5 121 yX5_take, Cond.instanceMethod yX5_take, Cond.selects RX5 yX5_take yX5_take]
def wsL_receiveAll_r6 : List Cond := [Cond.code yX5_take cX5_take 4 (some .int), Cond.methodLink RX5 177 yX5_addEquation, Cond.instanceMethod yX5_addEquation, Cond.selects RX5 yX5_addEquation yX5_addEquation, Cond.code yX5_addEquation cX5_addEquation 4 none, Cond.methodLink RX5 194 yX2_addEquation, Cond.instanceMethod yX2_addEquation, Cond.selects RX2 yX2_addEquation yX2_addEquation, Cond.code yX2_addEquation cX2_addEquation 3 none, Cond.fieldLink RX2 9 "FountainCode$Peeler" "equationSets" "[J", Cond.methodLink RX5 197 yX1_addEquation, Cond.instanceMethod yX1_addEquation, Cond.selects RX1 yX1_addEquation yX1_addEquation, Cond.code yX1_addEquation cX1_addEquation 9 none, Cond.fieldLink RX1 19 "FountainCode$Elimination" "rowCount" "I", Cond.static yX5_lowestOf, Cond.code yX5_lowestOf cX5_lowestOf 2 (some .int), Cond.methodLink RX5 198 yJ13_bitCount_95d88, Cond.static yJ13_bitCount_95d88, Cond.initialized RJ13, Cond.code yJ13_bitCount_95d88 cJ13_bitCount_95d88 2 (some .int), Cond.constantLong RJ13 314 (6148914691236517205), Cond.constantLong RJ13 316 (3689348814741910323), Cond.constantLong RJ13 318 (1085102592571150095)]
def wsL_receiveAll_r7 : List Cond := [Cond.methodLink RX5 181 yX2_peelOn, Cond.instanceMethod yX2_peelOn, Cond.selects RX2 yX2_peelOn yX2_peelOn, Cond.code yX2_peelOn cX2_peelOn 4 (some .int), Cond.fieldLink RX2 26 "FountainCode$Peeler" "peeledCount" "I", Cond.methodLink RX2 39 yX2_lowestReady, Cond.instanceMethod yX2_lowestReady, Cond.selects RX2 yX2_lowestReady yX2_lowestReady, Cond.code yX2_lowestReady cX2_lowestReady 2 (some .int), Cond.fieldLink RX2 29 "FountainCode$Peeler" "peeledSet" "J", Cond.constantLong RX2 47 (-1), Cond.methodLink RX2 49 yJ13_bitCount_95d88, Cond.methodLink RX2 43 yX2_peelWith, Cond.instanceMethod yX2_peelWith, Cond.selects RX2 yX2_peelWith yX2_peelWith, Cond.code yX2_peelWith cX2_peelWith 3 none, Cond.fieldLink RX2 15 "FountainCode$Peeler" "peelOrder" "[I", Cond.fieldLink RX2 19 "FountainCode$Peeler" "peelEquations" "[I"]
def wsL_receiveAll : List Cond := .codeWith yL_receiveAll cL_receiveAll 5 (some .int) [(0, 10, 13, 13)] :: ((wsL_receiveAll_r1 ++ (wsL_receiveAll_r2 ++ (wsL_receiveAll_r3 ++ (wsL_receiveAll_r4 ++ (wsL_receiveAll_r5 ++ (wsL_receiveAll_r6 ++ wsL_receiveAll_r7)))))) ++ wsX50 ++ wsX30 ++ wsX00 ++ wsX40 ++ wsX20 ++ wsX10 ++ (vx_atS RX5 52 "java/lang/IllegalArgumentException" ["java/lang/RuntimeException", "java/lang/Exception"]).filter goodWord)
def wsL_peeledAt : List Cond := .codeWith yL_peeledAt cL_peeledAt 4 (some .int) [(0, 9, 12, 23)] :: ([.classLink RL 23 "java/lang/IndexOutOfBoundsException", .methodLink RL 38 yX5_peeledAt, .instanceMethod yX5_peeledAt, .selects RX5 yX5_peeledAt yX5_peeledAt, .initialized RX5, .code yX5_peeledAt cX5_peeledAt 2 (some .int), .classLink RX5 77 "java/lang/IndexOutOfBoundsException", .initialized "java/lang/IndexOutOfBoundsException", .fieldLink RX5 26 "FountainCode" "peeler" "LFountainCode$Peeler;", .methodLink RX5 133 yX2_peeledCount, .instanceMethod yX2_peeledCount, .selects RX2 yX2_peeledCount yX2_peeledCount, .initialized RX2, .code yX2_peeledCount cX2_peeledCount 1 (some .int), .fieldLink RX2 26 "FountainCode$Peeler" "peeledCount" "I", .methodLink RX5 136 yX2_peeledInPlace, .instanceMethod yX2_peeledInPlace, .selects RX2 yX2_peeledInPlace yX2_peeledInPlace, .code yX2_peeledInPlace cX2_peeledInPlace 2 (some .int), .fieldLink RX2 15 "FountainCode$Peeler" "peelOrder" "[I"] ++ wsX50 ++ wsX20 ++ (vx_atS RX5 81 "java/lang/IndexOutOfBoundsException" ["java/lang/RuntimeException", "java/lang/Exception"]).filter goodWord)
def wsL_peeledBy_r1 : List Cond := [Cond.classLink RL 23 "java/lang/IndexOutOfBoundsException", Cond.methodLink RL 41 yX5_peeledBy, Cond.instanceMethod yX5_peeledBy, Cond.selects RX5 yX5_peeledBy yX5_peeledBy, Cond.initialized RX5, Cond.code yX5_peeledBy cX5_peeledBy 2 (some .int), Cond.classLink RX5 77 "java/lang/IndexOutOfBoundsException", Cond.initialized "java/lang/IndexOutOfBoundsException", Cond.fieldLink RX5 26 "FountainCode" "peeler" "LFountainCode$Peeler;", Cond.methodLink RX5 89 yX5_isBlock, Cond.instanceMethod yX5_isBlock, Cond.selects RX5 yX5_isBlock yX5_isBlock, Cond.code yX5_isBlock cX5_isBlock 2 (some .boolean), Cond.fieldLink RX5 19 "FountainCode" "sender" "LFountainCode$Sender;", Cond.methodLink RX5 86 yX3_blockCount, Cond.instanceMethod yX3_blockCount, Cond.selects RX3 yX3_blockCount yX3_blockCount, Cond.initialized RX3, Cond.code yX3_blockCount cX3_blockCount 1 (some .int), Cond.fieldLink RX3 15 "FountainCode$Sender" "sources" "I", Cond.fieldLink RX3 19 "FountainCode$Sender" "parities" "I", Cond.methodLink RX5 139 yX2_equationThatPeeled, Cond.instanceMethod yX2_equationThatPeeled, Cond.selects RX2 yX2_equationThatPeeled yX2_equationThatPeeled]
def wsL_peeledBy_r2 : List Cond := [Cond.initialized RX2, Cond.code yX2_equationThatPeeled cX2_equationThatPeeled 2 (some .int), Cond.fieldLink RX2 19 "FountainCode$Peeler" "peelEquations" "[I"]
def wsL_peeledBy : List Cond := .codeWith yL_peeledBy cL_peeledBy 4 (some .int) [(0, 9, 12, 23)] :: ((wsL_peeledBy_r1 ++ wsL_peeledBy_r2) ++ wsX50 ++ wsX30 ++ wsX20 ++ (vx_atS RX5 81 "java/lang/IndexOutOfBoundsException" ["java/lang/RuntimeException", "java/lang/Exception"]).filter goodWord)
def wsL_isDetermined_r1 : List Cond := [Cond.classLink RL 23 "java/lang/IndexOutOfBoundsException", Cond.methodLink RL 44 yX5_isDetermined, Cond.instanceMethod yX5_isDetermined, Cond.selects RX5 yX5_isDetermined yX5_isDetermined, Cond.initialized RX5, Cond.code yX5_isDetermined cX5_isDetermined 2 (some .boolean), Cond.classLink RX5 77 "java/lang/IndexOutOfBoundsException", Cond.initialized "java/lang/IndexOutOfBoundsException", Cond.fieldLink RX5 33 "FountainCode" "elimination" "LFountainCode$Elimination;", Cond.methodLink RX5 89 yX5_isBlock, Cond.instanceMethod yX5_isBlock, Cond.selects RX5 yX5_isBlock yX5_isBlock, Cond.code yX5_isBlock cX5_isBlock 2 (some .boolean), Cond.fieldLink RX5 19 "FountainCode" "sender" "LFountainCode$Sender;", Cond.methodLink RX5 86 yX3_blockCount, Cond.instanceMethod yX3_blockCount, Cond.selects RX3 yX3_blockCount yX3_blockCount, Cond.initialized RX3, Cond.code yX3_blockCount cX3_blockCount 1 (some .int), Cond.fieldLink RX3 15 "FountainCode$Sender" "sources" "I", Cond.fieldLink RX3 19 "FountainCode$Sender" "parities" "I", Cond.methodLink RX5 145 yX1_fixes, Cond.instanceMethod yX1_fixes, Cond.selects RX1 yX1_fixes yX1_fixes]
def wsL_isDetermined_r2 : List Cond := [Cond.initialized RX1, Cond.code yX1_fixes cX1_fixes 2 (some .boolean), Cond.methodLink RX1 44 yX1_remainderOfBlock, Cond.instanceMethod yX1_remainderOfBlock, Cond.selects RX1 yX1_remainderOfBlock yX1_remainderOfBlock, Cond.code yX1_remainderOfBlock cX1_remainderOfBlock 4 (some .long), Cond.fieldLink RX1 9 "FountainCode$Elimination" "rows" "[J", Cond.static yX5_setOf, Cond.code yX5_setOf cX5_setOf 1 (some .long)]
def wsL_isDetermined : List Cond := .codeWith yL_isDetermined cL_isDetermined 4 (some .int) [(0, 16, 19, 23)] :: ((wsL_isDetermined_r1 ++ wsL_isDetermined_r2) ++ wsX50 ++ wsX30 ++ wsX10 ++ (vx_atS RX5 81 "java/lang/IndexOutOfBoundsException" ["java/lang/RuntimeException", "java/lang/Exception"]).filter goodWord)
def wsL_recovered_r1 : List Cond := [Cond.classLink RL 23 "java/lang/IndexOutOfBoundsException", Cond.classLink RL 18 "java/lang/IllegalStateException", Cond.methodLink RL 48 yX5_recovered, Cond.instanceMethod yX5_recovered, Cond.selects RX5 yX5_recovered yX5_recovered, Cond.initialized RX5, Cond.code yX5_recovered cX5_recovered 2 (some .int), Cond.classLink RX5 77 "java/lang/IndexOutOfBoundsException", Cond.initialized "java/lang/IndexOutOfBoundsException", Cond.classLink RX5 65 "java/lang/IllegalStateException", Cond.initialized "java/lang/IllegalStateException", Cond.fieldLink RX5 33 "FountainCode" "elimination" "LFountainCode$Elimination;", Cond.methodLink RX5 89 yX5_isBlock, Cond.instanceMethod yX5_isBlock, Cond.selects RX5 yX5_isBlock yX5_isBlock, Cond.code yX5_isBlock cX5_isBlock 2 (some .boolean), Cond.fieldLink RX5 19 "FountainCode" "sender" "LFountainCode$Sender;", Cond.methodLink RX5 86 yX3_blockCount, Cond.instanceMethod yX3_blockCount, Cond.selects RX3 yX3_blockCount yX3_blockCount, Cond.initialized RX3, Cond.code yX3_blockCount cX3_blockCount 1 (some .int), Cond.fieldLink RX3 15 "FountainCode$Sender" "sources" "I", Cond.fieldLink RX3 19 "FountainCode$Sender" "parities" "I"]
def wsL_recovered_r2 : List Cond := [Cond.methodLink RX5 145 yX1_fixes, Cond.instanceMethod yX1_fixes, Cond.selects RX1 yX1_fixes yX1_fixes, Cond.initialized RX1, Cond.code yX1_fixes cX1_fixes 2 (some .boolean), Cond.methodLink RX1 44 yX1_remainderOfBlock, Cond.instanceMethod yX1_remainderOfBlock, Cond.selects RX1 yX1_remainderOfBlock yX1_remainderOfBlock, Cond.code yX1_remainderOfBlock cX1_remainderOfBlock 4 (some .long), Cond.fieldLink RX1 9 "FountainCode$Elimination" "rows" "[J", Cond.static yX5_setOf, Cond.code yX5_setOf cX5_setOf 1 (some .long), Cond.methodLink RX5 150 yX5_setOf, Cond.methodLink RX5 154 yX1_knownValue, Cond.instanceMethod yX1_knownValue, Cond.selects RX1 yX1_knownValue yX1_knownValue, Cond.code yX1_knownValue cX1_knownValue 5 (some .int), Cond.fieldLink RX1 15 "FountainCode$Elimination" "values" "[I", Cond.static yX5_holds, Cond.code yX5_holds cX5_holds 3 (some .boolean)]
def wsL_recovered : List Cond := .codeWith yL_recovered cL_recovered 4 (some .int) [(0, 9, 12, 23), (0, 9, 15, 18)] :: ((wsL_recovered_r1 ++ wsL_recovered_r2) ++ wsX50 ++ wsX30 ++ wsX10 ++ (vx_atS RX5 81 "java/lang/IndexOutOfBoundsException" ["java/lang/RuntimeException", "java/lang/Exception"]).filter goodWord ++ (vx_atS RX5 69 "java/lang/IllegalStateException" ["java/lang/RuntimeException", "java/lang/Exception"]).filter goodWord)
def wsL_law0_r1 : List Cond := [Cond.classLink RL 8 RX5, Cond.instantiable RX5 5, Cond.initialized RX5, Cond.classLink RL 52 RX6, Cond.instantiable RX6 22, Cond.initialized RX6, Cond.arrayClass .long, Cond.methodLink RL 51 yX5_init, Cond.instanceMethod yX5_init, Cond.code yX5_init cX5_init 1 none, Cond.methodLink RX5 3 objectInit, Cond.instanceMethod objectInit, Cond.code objectInit ⟨#[0xb1]⟩ 1 none, Cond.classLink RX5 9 RX4, Cond.instantiable RX4 1, Cond.initialized RX4, Cond.fieldLink RX5 12 "FountainCode" "weights" "LFountainCode$Weights;", Cond.classLink RX5 16 RX3, Cond.instantiable RX3 3, Cond.initialized RX3, Cond.fieldLink RX5 19 "FountainCode" "sender" "LFountainCode$Sender;", Cond.classLink RX5 23 RX2, Cond.instantiable RX2 6, Cond.initialized RX2]
def wsL_law0_r2 : List Cond := [Cond.fieldLink RX5 26 "FountainCode" "peeler" "LFountainCode$Peeler;", Cond.classLink RX5 30 RX1, Cond.instantiable RX1 3, Cond.initialized RX1, Cond.fieldLink RX5 33 "FountainCode" "elimination" "LFountainCode$Elimination;", Cond.classLink RX5 37 RX0, Cond.instantiable RX0 4, Cond.initialized RX0, Cond.fieldLink RX5 40 "FountainCode" "scratchDrop" "LFountainCode$Drop;", Cond.instanceMethod yX4_init, Cond.code yX4_init cX4_init 1 none, Cond.methodLink RX4 3 objectInit, Cond.fieldLink RX4 9 "FountainCode$Weights" "FIRST_WEIGHTS" "[I", Cond.methodLink RX4 15 ⟨"[I", "clone", "()Ljava/lang/Object;"⟩, Cond.sameMethod "[I" "java/lang/Object" "clone" "()Ljava/lang/Object;", Cond.native ⟨"java/lang/Object", "clone", "()Ljava/lang/Object;"⟩, Cond.instanceMethod ⟨"java/lang/Object", "clone", "()Ljava/lang/Object;"⟩, Cond.selects "[I" ⟨"[I", "clone", "()Ljava/lang/Object;"⟩ ⟨"java/lang/Object", "clone", "()Ljava/lang/Object;"⟩, Cond.classLink RX4 16 "[I", Cond.fieldLink RX4 20 "FountainCode$Weights" "list" "[I", Cond.instanceMethod yX3_init, Cond.code yX3_init cX3_init 1 none, Cond.methodLink RX3 3 objectInit, Cond.arrayClass .int]
def wsL_law0_r3 : List Cond := [Cond.fieldLink RX3 9 "FountainCode$Sender" "sourceValues" "[I", Cond.instanceMethod yX2_init, Cond.code yX2_init cX2_init 1 none, Cond.methodLink RX2 3 objectInit, Cond.fieldLink RX2 9 "FountainCode$Peeler" "equationSets" "[J", Cond.fieldLink RX2 15 "FountainCode$Peeler" "peelOrder" "[I", Cond.fieldLink RX2 19 "FountainCode$Peeler" "peelEquations" "[I", Cond.instanceMethod yX1_init, Cond.code yX1_init cX1_init 1 none, Cond.methodLink RX1 3 objectInit, Cond.fieldLink RX1 9 "FountainCode$Elimination" "rows" "[J", Cond.fieldLink RX1 15 "FountainCode$Elimination" "values" "[I", Cond.instanceMethod yX0_init, Cond.code yX0_init cX0_init 1 none, Cond.methodLink RX0 3 objectInit, Cond.fieldLink RX0 9 "FountainCode$Drop" "row" "[I", Cond.methodLink RX5 44 yX5_beginTransfer, Cond.instanceMethod yX5_beginTransfer, Cond.selects RX5 yX5_beginTransfer yX5_beginTransfer, Cond.code yX5_beginTransfer cX5_beginTransfer 4 (some .int), Cond.methodLink RX5 167 yX3_begin, Cond.instanceMethod yX3_begin, Cond.selects RX3 yX3_begin yX3_begin, Cond.code yX3_begin cX3_begin 3 none]
def wsL_law0_r4 : List Cond := [Cond.fieldLink RX3 15 "FountainCode$Sender" "sources" "I", Cond.fieldLink RX3 19 "FountainCode$Sender" "parities" "I", Cond.methodLink RX3 22 yJ7_fill_53178, Cond.static yJ7_fill_53178, Cond.initialized RJ7, Cond.code yJ7_fill_53178 cJ7_fill_53178 4 none, Cond.methodLink RX5 170 yX2_clear, Cond.instanceMethod yX2_clear, Cond.selects RX2 yX2_clear yX2_clear, Cond.code yX2_clear cX2_clear 1 none, Cond.fieldLink RX2 22 "FountainCode$Peeler" "equationCount" "I", Cond.fieldLink RX2 26 "FountainCode$Peeler" "peeledCount" "I", Cond.fieldLink RX2 29 "FountainCode$Peeler" "peeledSet" "J", Cond.methodLink RX2 33 yJ7_fill_53178, Cond.methodLink RX5 173 yX1_clear, Cond.instanceMethod yX1_clear, Cond.selects RX1 yX1_clear yX1_clear, Cond.code yX1_clear cX1_clear 1 none, Cond.fieldLink RX1 19 "FountainCode$Elimination" "rowCount" "I", Cond.methodLink RX1 23 yJ7_fill_d0a16, Cond.static yJ7_fill_d0a16, Cond.code yJ7_fill_d0a16 cJ7_fill_d0a16 5 none, Cond.methodLink RX1 29 yJ7_fill_53178, Cond.methodLink RX5 150 yX5_setOf]
def wsL_law0_r5 : List Cond := [Cond.static yX5_setOf, Cond.code yX5_setOf cX5_setOf 1 (some .long), Cond.methodLink RX5 174 yX3_coveredBy, Cond.instanceMethod yX3_coveredBy, Cond.selects RX3 yX3_coveredBy yX3_coveredBy, Cond.code yX3_coveredBy cX3_coveredBy 5 (some .long), Cond.methodLink RX5 177 yX5_addEquation, Cond.instanceMethod yX5_addEquation, Cond.selects RX5 yX5_addEquation yX5_addEquation, Cond.code yX5_addEquation cX5_addEquation 4 none, Cond.methodLink RX5 194 yX2_addEquation, Cond.instanceMethod yX2_addEquation, Cond.selects RX2 yX2_addEquation yX2_addEquation, Cond.code yX2_addEquation cX2_addEquation 3 none, Cond.methodLink RX5 197 yX1_addEquation, Cond.instanceMethod yX1_addEquation, Cond.selects RX1 yX1_addEquation yX1_addEquation, Cond.code yX1_addEquation cX1_addEquation 9 none, Cond.methodLink RX1 36 yX1_remainder, Cond.instanceMethod yX1_remainder, Cond.selects RX1 yX1_remainder yX1_remainder, Cond.code yX1_remainder cX1_remainder 6 (some .long), Cond.static yX5_holds, Cond.code yX5_holds cX5_holds 3 (some .boolean)]
def wsL_law0_r6 : List Cond := [Cond.static yX5_lowestOf, Cond.code yX5_lowestOf cX5_lowestOf 2 (some .int), Cond.methodLink RX5 198 yJ13_bitCount_95d88, Cond.static yJ13_bitCount_95d88, Cond.initialized RJ13, Cond.code yJ13_bitCount_95d88 cJ13_bitCount_95d88 2 (some .int), Cond.constantLong RJ13 314 (6148914691236517205), Cond.constantLong RJ13 316 (3689348814741910323), Cond.constantLong RJ13 318 (1085102592571150095), Cond.methodLink RX1 40 yX1_knownValue, Cond.instanceMethod yX1_knownValue, Cond.selects RX1 yX1_knownValue yX1_knownValue, Cond.code yX1_knownValue cX1_knownValue 5 (some .int), Cond.methodLink RX5 181 yX2_peelOn, Cond.instanceMethod yX2_peelOn, Cond.selects RX2 yX2_peelOn yX2_peelOn, Cond.code yX2_peelOn cX2_peelOn 4 (some .int), Cond.methodLink RX2 39 yX2_lowestReady, Cond.instanceMethod yX2_lowestReady, Cond.selects RX2 yX2_lowestReady yX2_lowestReady, Cond.code yX2_lowestReady cX2_lowestReady 2 (some .int), Cond.constantLong RX2 47 (-1), Cond.methodLink RX2 49 yJ13_bitCount_95d88, Cond.methodLink RX2 43 yX2_peelWith]
def wsL_law0_r7 : List Cond := [Cond.instanceMethod yX2_peelWith, Cond.selects RX2 yX2_peelWith yX2_peelWith, Cond.code yX2_peelWith cX2_peelWith 3 none, Cond.methodLink RL 54 yX6_init, Cond.instanceMethod yX6_init, Cond.code yX6_init cX6_init 2 none, Cond.methodLink RX6 1 objectInit, Cond.fieldLink RX6 7 "FountainCodeModel" "weights" "[I", Cond.fieldLink RX6 13 "FountainCodeModel" "sources" "I", Cond.fieldLink RX6 17 "FountainCodeModel" "blocks" "I", Cond.fieldLink RX6 20 "FountainCodeModel" "values" "[I", Cond.fieldLink RX6 23 "FountainCodeModel" "masks" "[J", Cond.fieldLink RX6 27 "FountainCodeModel" "numbers" "[I", Cond.fieldLink RX6 30 "FountainCodeModel" "order" "[I", Cond.fieldLink RX6 33 "FountainCodeModel" "by" "[I", Cond.fieldLink RX6 36 "FountainCodeModel" "rows" "[J", Cond.fieldLink RX6 39 "FountainCodeModel" "rowNumbers" "[I", Cond.fieldLink RX6 42 "FountainCodeModel" "rowsKept" "[J", Cond.fieldLink RX6 45 "FountainCodeModel" "rowNumbersKept" "[I", Cond.fieldLink RX6 48 "FountainCodeModel" "drawn" "[I", Cond.methodLink RX6 51 yX6_clear, Cond.instanceMethod yX6_clear, Cond.selects RX6 yX6_clear yX6_clear, Cond.code yX6_clear cX6_clear 2 none]
def wsL_law0_r8 : List Cond := [Cond.fieldLink RX6 68 "FountainCodeModel" "many" "I", Cond.fieldLink RX6 71 "FountainCodeModel" "drops" "I", Cond.fieldLink RX6 74 "FountainCodeModel" "peeled" "I", Cond.fieldLink RX6 77 "FountainCodeModel" "peeledMask" "J", Cond.methodLink RL 55 yL_start, Cond.static yL_start, Cond.initialized RL, Cond.codeWith yL_start cL_start 5 (some .int) [(0, 10, 13, 13)], Cond.classLink RL 13 "java/lang/IllegalArgumentException", Cond.methodLink RL 7 yX5_start, Cond.instanceMethod yX5_start, Cond.selects RX5 yX5_start yX5_start, Cond.code yX5_start cX5_start 3 (some .int), Cond.classLink RX5 48 "java/lang/IllegalArgumentException", Cond.initialized "java/lang/IllegalArgumentException", Cond.methodLink RL 60 yX6_start, Cond.instanceMethod yX6_start, Cond.selects RX6 yX6_start yX6_start, Cond.code yX6_start cX6_start 7 (some .int), Cond.methodLink RX6 57 yX6_within, Cond.static yX6_within, Cond.code yX6_within cX6_within 3 (some .boolean), Cond.methodLink RX6 65 yX6_refused, Cond.instanceMethod yX6_refused]
def wsL_law0_r9 : List Cond := [Cond.selects RX6 yX6_refused yX6_refused, Cond.code yX6_refused cX6_refused 2 (some .boolean), Cond.fieldLink RX6 54 "FountainCodeModel" "refusal" "I", Cond.methodLink RX6 81 yX6_covers, Cond.static yX6_covers, Cond.code yX6_covers cX6_covers 2 (some .boolean), Cond.methodLink RX6 121 yX6_addEquation, Cond.instanceMethod yX6_addEquation, Cond.selects RX6 yX6_addEquation yX6_addEquation, Cond.code yX6_addEquation cX6_addEquation 4 none, Cond.methodLink RX6 112 yX6_reduce, Cond.instanceMethod yX6_reduce, Cond.selects RX6 yX6_reduce yX6_reduce, Cond.code yX6_reduce cX6_reduce 5 none, Cond.fieldLink RX6 106 "FountainCodeModel" "reduced" "J", Cond.fieldLink RX6 109 "FountainCodeModel" "reducedNumber" "I", Cond.methodLink RX6 116 yX6_layRow, Cond.instanceMethod yX6_layRow, Cond.selects RX6 yX6_layRow yX6_layRow, Cond.code yX6_layRow cX6_layRow 3 none, Cond.methodLink RX6 124 yX6_peel, Cond.instanceMethod yX6_peel, Cond.selects RX6 yX6_peel yX6_peel, Cond.code yX6_peel cX6_peel 7 (some .int)]
def wsL_law0_r10 : List Cond := [Cond.constantLong RX6 119 (-1), Cond.methodLink RL 61 yX6_thrown, Cond.instanceMethod yX6_thrown, Cond.selects RX6 yX6_thrown yX6_thrown, Cond.code yX6_thrown cX6_thrown 1 (some .int), Cond.methodLink RL 65 yL_setWeight, Cond.static yL_setWeight, Cond.codeWith yL_setWeight cL_setWeight 5 (some .int) [(0, 10, 13, 13), (0, 10, 17, 18)], Cond.classLink RL 18 "java/lang/IllegalStateException", Cond.methodLink RL 15 yX5_setWeight, Cond.instanceMethod yX5_setWeight, Cond.selects RX5 yX5_setWeight yX5_setWeight, Cond.code yX5_setWeight cX5_setWeight 4 (some .int), Cond.classLink RX5 65 "java/lang/IllegalStateException", Cond.initialized "java/lang/IllegalStateException", Cond.methodLink RX5 57 yX4_weightOf, Cond.instanceMethod yX4_weightOf, Cond.selects RX4 yX4_weightOf yX4_weightOf, Cond.code yX4_weightOf cX4_weightOf 3 (some .int), Cond.methodLink RX5 61 yX4_sum, Cond.instanceMethod yX4_sum, Cond.selects RX4 yX4_sum yX4_sum, Cond.code yX4_sum cX4_sum 3 (some .int), Cond.methodLink RX5 70 yX4_change]
def wsL_law0_r11 : List Cond := [Cond.instanceMethod yX4_change, Cond.selects RX4 yX4_change yX4_change, Cond.code yX4_change cX4_change 4 none, Cond.methodLink RL 67 yX6_setWeight, Cond.instanceMethod yX6_setWeight, Cond.selects RX6 yX6_setWeight yX6_setWeight, Cond.code yX6_setWeight cX6_setWeight 6 (some .int), Cond.methodLink RL 68 yL_setBlock, Cond.static yL_setBlock, Cond.codeWith yL_setBlock cL_setBlock 5 (some .int) [(0, 10, 13, 23)], Cond.classLink RL 23 "java/lang/IndexOutOfBoundsException", Cond.methodLink RL 20 yX5_setBlock, Cond.instanceMethod yX5_setBlock, Cond.selects RX5 yX5_setBlock yX5_setBlock, Cond.code yX5_setBlock cX5_setBlock 4 (some .int), Cond.classLink RX5 77 "java/lang/IndexOutOfBoundsException", Cond.initialized "java/lang/IndexOutOfBoundsException", Cond.methodLink RX5 74 yX3_sourceCount, Cond.instanceMethod yX3_sourceCount, Cond.selects RX3 yX3_sourceCount yX3_sourceCount, Cond.code yX3_sourceCount cX3_sourceCount 1 (some .int), Cond.methodLink RX5 82 yX3_valueOfBlock, Cond.instanceMethod yX3_valueOfBlock, Cond.selects RX3 yX3_valueOfBlock yX3_valueOfBlock]
def wsL_law0_r12 : List Cond := [Cond.code yX3_valueOfBlock cX3_valueOfBlock 2 (some .int), Cond.methodLink RX3 32 yX3_coveredBy, Cond.methodLink RX3 35 yX3_valueOfSources, Cond.instanceMethod yX3_valueOfSources, Cond.selects RX3 yX3_valueOfSources yX3_valueOfSources, Cond.code yX3_valueOfSources cX3_valueOfSources 5 (some .int), Cond.methodLink RX5 85 yX3_change, Cond.instanceMethod yX3_change, Cond.selects RX3 yX3_change yX3_change, Cond.code yX3_change cX3_change 3 none, Cond.methodLink RL 70 yX6_setBlock, Cond.instanceMethod yX6_setBlock, Cond.selects RX6 yX6_setBlock yX6_setBlock, Cond.code yX6_setBlock cX6_setBlock 4 (some .int), Cond.methodLink RL 71 yX5_blocks, Cond.instanceMethod yX5_blocks, Cond.selects RX5 yX5_blocks yX5_blocks, Cond.code yX5_blocks cX5_blocks 1 (some .int), Cond.methodLink RX5 86 yX3_blockCount, Cond.instanceMethod yX3_blockCount, Cond.selects RX3 yX3_blockCount yX3_blockCount, Cond.code yX3_blockCount cX3_blockCount 1 (some .int), Cond.methodLink RL 74 yX6_blocks, Cond.instanceMethod yX6_blocks]
def wsL_law0_r13 : List Cond := [Cond.selects RX6 yX6_blocks yX6_blocks, Cond.code yX6_blocks cX6_blocks 1 (some .int), Cond.methodLink RX6 128 yX6_told, Cond.instanceMethod yX6_told, Cond.selects RX6 yX6_told yX6_told, Cond.code yX6_told cX6_told 2 (some .int), Cond.methodLink RL 75 yL_blockAt, Cond.static yL_blockAt, Cond.codeWith yL_blockAt cL_blockAt 4 (some .int) [(0, 9, 12, 23)], Cond.methodLink RL 25 yX5_blockAt, Cond.instanceMethod yX5_blockAt, Cond.selects RX5 yX5_blockAt yX5_blockAt, Cond.code yX5_blockAt cX5_blockAt 2 (some .int), Cond.methodLink RX5 89 yX5_isBlock, Cond.instanceMethod yX5_isBlock, Cond.selects RX5 yX5_isBlock yX5_isBlock, Cond.code yX5_isBlock cX5_isBlock 2 (some .boolean), Cond.methodLink RL 78 yX6_blockAt, Cond.instanceMethod yX6_blockAt, Cond.selects RX6 yX6_blockAt yX6_blockAt, Cond.code yX6_blockAt cX6_blockAt 2 (some .int), Cond.methodLink RX6 131 yX6_noBlock, Cond.instanceMethod yX6_noBlock, Cond.selects RX6 yX6_noBlock yX6_noBlock]
def wsL_law0_r14 : List Cond := [Cond.code yX6_noBlock cX6_noBlock 2 (some .boolean), Cond.methodLink RX6 61 yX6_isBlock, Cond.instanceMethod yX6_isBlock, Cond.selects RX6 yX6_isBlock yX6_isBlock, Cond.code yX6_isBlock cX6_isBlock 2 (some .boolean), Cond.methodLink RX6 103 yX6_valueAt, Cond.instanceMethod yX6_valueAt, Cond.selects RX6 yX6_valueAt yX6_valueAt, Cond.code yX6_valueAt cX6_valueAt 4 (some .int), Cond.methodLink RL 79 yX5_degree, Cond.instanceMethod yX5_degree, Cond.selects RX5 yX5_degree yX5_degree, Cond.code yX5_degree cX5_degree 2 (some .int), Cond.methodLink RX5 95 yX5_drawn, Cond.instanceMethod yX5_drawn, Cond.selects RX5 yX5_drawn yX5_drawn, Cond.code yX5_drawn cX5_drawn 2 (some (.object "FountainCode$Drop")), Cond.methodLink RX5 184 yX0_draw, Cond.instanceMethod yX0_draw, Cond.selects RX0 yX0_draw yX0_draw, Cond.code yX0_draw cX0_draw 5 none, Cond.fieldLink RX0 15 "FountainCode$Drop" "generator" "J", Cond.methodLink RX0 32 Lib.Math.min.name, Cond.static Lib.Math.min.name]
def wsL_law0_r15 : List Cond := [Cond.initialized "java/lang/Math", Cond.code Lib.Math.min.name Lib.Math.min.code 2 (some .int), Cond.fieldLink RX0 38 "FountainCode$Drop" "size" "I", Cond.fieldLink RX0 46 "FountainCode$Drop" "blockSet" "J", Cond.methodLink RX0 19 yX4_sum, Cond.methodLink RX0 25 yX0_numberBelow, Cond.instanceMethod yX0_numberBelow, Cond.selects RX0 yX0_numberBelow yX0_numberBelow, Cond.code yX0_numberBelow cX0_numberBelow 2 (some .int), Cond.constantLong RX0 57 (6364136223846793005), Cond.constantLong RX0 59 (1442695040888963407), Cond.methodLink RX0 29 yX4_degreeFor, Cond.instanceMethod yX4_degreeFor, Cond.selects RX4 yX4_degreeFor yX4_degreeFor, Cond.code yX4_degreeFor cX4_degreeFor 4 (some .int), Cond.methodLink RX0 42 yX0_lineUp, Cond.instanceMethod yX0_lineUp, Cond.selects RX0 yX0_lineUp yX0_lineUp, Cond.code yX0_lineUp cX0_lineUp 3 none, Cond.methodLink RX0 49 yX0_swap, Cond.instanceMethod yX0_swap, Cond.selects RX0 yX0_swap yX0_swap, Cond.code yX0_swap cX0_swap 4 none, Cond.methodLink RX5 99 yX0_size]
def wsL_law0_r16 : List Cond := [Cond.instanceMethod yX0_size, Cond.selects RX0 yX0_size yX0_size, Cond.code yX0_size cX0_size 1 (some .int), Cond.methodLink RL 82 yX6_degree, Cond.instanceMethod yX6_degree, Cond.selects RX6 yX6_degree yX6_degree, Cond.code yX6_degree cX6_degree 2 (some .int), Cond.fieldLink RX6 96 "FountainCodeModel" "drawnMany" "I", Cond.methodLink RX6 99 yX6_drawDrop, Cond.instanceMethod yX6_drawDrop, Cond.selects RX6 yX6_drawDrop yX6_drawDrop, Cond.code yX6_drawDrop cX6_drawDrop 9 none, Cond.fieldLink RX6 85 "FountainCodeModel" "generator" "J", Cond.methodLink RX6 92 yX6_draw, Cond.instanceMethod yX6_draw, Cond.selects RX6 yX6_draw yX6_draw, Cond.code yX6_draw cX6_draw 2 (some .int), Cond.constantLong RX6 88 (6364136223846793005), Cond.constantLong RX6 90 (1442695040888963407), Cond.methodLink RL 83 yL_blockOf, Cond.static yL_blockOf, Cond.codeWith yL_blockOf cL_blockOf 5 (some .int) [(0, 10, 13, 23)], Cond.methodLink RL 29 yX5_blockOf, Cond.instanceMethod yX5_blockOf]
def wsL_law0_r17 : List Cond := [Cond.selects RX5 yX5_blockOf yX5_blockOf, Cond.code yX5_blockOf cX5_blockOf 4 (some .int), Cond.methodLink RX5 104 yX0_blockInPlace, Cond.instanceMethod yX0_blockInPlace, Cond.selects RX0 yX0_blockInPlace yX0_blockInPlace, Cond.code yX0_blockInPlace cX0_blockInPlace 2 (some .int), Cond.methodLink RL 85 yX6_blockOf, Cond.instanceMethod yX6_blockOf, Cond.selects RX6 yX6_blockOf yX6_blockOf, Cond.code yX6_blockOf cX6_blockOf 3 (some .int), Cond.methodLink RL 86 yX5_valueOf, Cond.instanceMethod yX5_valueOf, Cond.selects RX5 yX5_valueOf yX5_valueOf, Cond.code yX5_valueOf cX5_valueOf 2 (some .int), Cond.methodLink RX5 107 yX0_blockSet, Cond.instanceMethod yX0_blockSet, Cond.selects RX0 yX0_blockSet yX0_blockSet, Cond.code yX0_blockSet cX0_blockSet 1 (some .long), Cond.methodLink RX5 111 yX3_valueOfSet, Cond.instanceMethod yX3_valueOfSet, Cond.selects RX3 yX3_valueOfSet yX3_valueOfSet, Cond.code yX3_valueOfSet cX3_valueOfSet 5 (some .int), Cond.methodLink RX3 39 yX3_blockCount, Cond.methodLink RX3 47 yX3_valueOfBlock]
def wsL_law0_r18 : List Cond := [Cond.methodLink RL 89 yX6_valueOf, Cond.instanceMethod yX6_valueOf, Cond.selects RX6 yX6_valueOf yX6_valueOf, Cond.code yX6_valueOf cX6_valueOf 2 (some .int), Cond.methodLink RX6 134 yX6_numberOf, Cond.instanceMethod yX6_numberOf, Cond.selects RX6 yX6_numberOf yX6_numberOf, Cond.code yX6_numberOf cX6_numberOf 4 (some .int), Cond.methodLink RL 90 yL_receive, Cond.static yL_receive, Cond.codeWith yL_receive cL_receive 5 (some .int) [(0, 10, 13, 18)], Cond.methodLink RL 32 yX5_receive, Cond.instanceMethod yX5_receive, Cond.selects RX5 yX5_receive yX5_receive, Cond.code yX5_receive cX5_receive 5 (some .int), Cond.methodLink RX5 115 yX5_canTake, Cond.instanceMethod yX5_canTake, Cond.selects RX5 yX5_canTake yX5_canTake, Cond.code yX5_canTake cX5_canTake 5 (some .boolean), Cond.methodLink RX5 127 yX2_equationCount, Cond.instanceMethod yX2_equationCount, Cond.selects RX2 yX2_equationCount yX2_equationCount, Cond.code yX2_equationCount cX2_equationCount 1 (some .int), Cond.methodLink RX5 188 yX3_parityCount]
def wsL_law0_r19 : List Cond := [Cond.instanceMethod yX3_parityCount, Cond.selects RX3 yX3_parityCount yX3_parityCount, Cond.code yX3_parityCount cX3_parityCount 1 (some .int), Cond.methodLink RX5 191 yX1_contradicts, Cond.instanceMethod yX1_contradicts, Cond.selects RX1 yX1_contradicts yX1_contradicts, Cond.code yX1_contradicts cX1_contradicts 4 (some .boolean), Cond.methodLink RX5 121 yX5_take, Cond.instanceMethod yX5_take, Cond.selects RX5 yX5_take yX5_take, Cond.code yX5_take cX5_take 4 (some .int), Cond.methodLink RL 92 yX6_receive, Cond.instanceMethod yX6_receive, Cond.selects RX6 yX6_receive yX6_receive, Cond.code yX6_receive cX6_receive 3 (some .int), Cond.methodLink RX6 141 yX6_isRefused, Cond.instanceMethod yX6_isRefused, Cond.selects RX6 yX6_isRefused yX6_isRefused, Cond.code yX6_isRefused cX6_isRefused 3 (some .boolean), Cond.methodLink RX6 137 yX6_maskOf, Cond.instanceMethod yX6_maskOf, Cond.selects RX6 yX6_maskOf yX6_maskOf, Cond.code yX6_maskOf cX6_maskOf 5 (some .long), Cond.methodLink RX6 144 yX6_take]
def wsL_law0_r20 : List Cond := [Cond.instanceMethod yX6_take, Cond.selects RX6 yX6_take yX6_take, Cond.code yX6_take cX6_take 3 (some .int), Cond.methodLink RL 93 yL_receiveAll, Cond.static yL_receiveAll, Cond.codeWith yL_receiveAll cL_receiveAll 5 (some .int) [(0, 10, 13, 13)], Cond.methodLink RL 35 yX5_receiveAll, Cond.instanceMethod yX5_receiveAll, Cond.selects RX5 yX5_receiveAll yX5_receiveAll, Cond.code yX5_receiveAll cX5_receiveAll 7 (some .int), Cond.methodLink RL 95 yX6_receiveAll, Cond.instanceMethod yX6_receiveAll, Cond.selects RX6 yX6_receiveAll yX6_receiveAll, Cond.code yX6_receiveAll cX6_receiveAll 5 (some .int), Cond.methodLink RL 96 yX5_equations, Cond.instanceMethod yX5_equations, Cond.selects RX5 yX5_equations yX5_equations, Cond.code yX5_equations cX5_equations 1 (some .int), Cond.methodLink RL 99 yX6_equations, Cond.instanceMethod yX6_equations, Cond.selects RX6 yX6_equations yX6_equations, Cond.code yX6_equations cX6_equations 1 (some .int), Cond.methodLink RL 100 yX5_rank, Cond.instanceMethod yX5_rank]
def wsL_law0_r21 : List Cond := [Cond.selects RX5 yX5_rank yX5_rank, Cond.code yX5_rank cX5_rank 1 (some .int), Cond.methodLink RX5 130 yX1_rowCount, Cond.instanceMethod yX1_rowCount, Cond.selects RX1 yX1_rowCount yX1_rowCount, Cond.code yX1_rowCount cX1_rowCount 1 (some .int), Cond.methodLink RL 103 yX6_rank, Cond.instanceMethod yX6_rank, Cond.selects RX6 yX6_rank yX6_rank, Cond.code yX6_rank cX6_rank 1 (some .int), Cond.methodLink RX6 148 yX6_rankOf, Cond.instanceMethod yX6_rankOf, Cond.selects RX6 yX6_rankOf yX6_rankOf, Cond.code yX6_rankOf cX6_rankOf 3 (some .int), Cond.methodLink RL 104 yX5_peeled, Cond.instanceMethod yX5_peeled, Cond.selects RX5 yX5_peeled yX5_peeled, Cond.code yX5_peeled cX5_peeled 1 (some .int), Cond.methodLink RX5 133 yX2_peeledCount, Cond.instanceMethod yX2_peeledCount, Cond.selects RX2 yX2_peeledCount yX2_peeledCount, Cond.code yX2_peeledCount cX2_peeledCount 1 (some .int), Cond.methodLink RL 107 yX6_peeled, Cond.instanceMethod yX6_peeled]
def wsL_law0_r22 : List Cond := [Cond.selects RX6 yX6_peeled yX6_peeled, Cond.code yX6_peeled cX6_peeled 1 (some .int), Cond.methodLink RL 108 yL_peeledAt, Cond.static yL_peeledAt, Cond.codeWith yL_peeledAt cL_peeledAt 4 (some .int) [(0, 9, 12, 23)], Cond.methodLink RL 38 yX5_peeledAt, Cond.instanceMethod yX5_peeledAt, Cond.selects RX5 yX5_peeledAt yX5_peeledAt, Cond.code yX5_peeledAt cX5_peeledAt 2 (some .int), Cond.methodLink RX5 136 yX2_peeledInPlace, Cond.instanceMethod yX2_peeledInPlace, Cond.selects RX2 yX2_peeledInPlace yX2_peeledInPlace, Cond.code yX2_peeledInPlace cX2_peeledInPlace 2 (some .int), Cond.methodLink RL 110 yX6_peeledAt, Cond.instanceMethod yX6_peeledAt, Cond.selects RX6 yX6_peeledAt yX6_peeledAt, Cond.code yX6_peeledAt cX6_peeledAt 2 (some .int), Cond.methodLink RL 111 yL_peeledBy, Cond.static yL_peeledBy, Cond.codeWith yL_peeledBy cL_peeledBy 4 (some .int) [(0, 9, 12, 23)], Cond.methodLink RL 41 yX5_peeledBy, Cond.instanceMethod yX5_peeledBy, Cond.selects RX5 yX5_peeledBy yX5_peeledBy, Cond.code yX5_peeledBy cX5_peeledBy 2 (some .int)]
def wsL_law0_r23 : List Cond := [Cond.methodLink RX5 139 yX2_equationThatPeeled, Cond.instanceMethod yX2_equationThatPeeled, Cond.selects RX2 yX2_equationThatPeeled yX2_equationThatPeeled, Cond.code yX2_equationThatPeeled cX2_equationThatPeeled 2 (some .int), Cond.methodLink RL 113 yX6_peeledBy, Cond.instanceMethod yX6_peeledBy, Cond.selects RX6 yX6_peeledBy yX6_peeledBy, Cond.code yX6_peeledBy cX6_peeledBy 2 (some .int), Cond.methodLink RL 114 yX5_determined, Cond.instanceMethod yX5_determined, Cond.selects RX5 yX5_determined yX5_determined, Cond.code yX5_determined cX5_determined 1 (some .int), Cond.methodLink RX5 142 yX1_countLeaving, Cond.instanceMethod yX1_countLeaving, Cond.selects RX1 yX1_countLeaving yX1_countLeaving, Cond.code yX1_countLeaving cX1_countLeaving 6 (some .int), Cond.methodLink RX1 44 yX1_remainderOfBlock, Cond.instanceMethod yX1_remainderOfBlock, Cond.selects RX1 yX1_remainderOfBlock yX1_remainderOfBlock, Cond.code yX1_remainderOfBlock cX1_remainderOfBlock 4 (some .long), Cond.methodLink RL 117 yX6_determined, Cond.instanceMethod yX6_determined, Cond.selects RX6 yX6_determined yX6_determined, Cond.code yX6_determined cX6_determined 1 (some .int)]
def wsL_law0_r24 : List Cond := [Cond.methodLink RX6 151 yX6_determinedMany, Cond.instanceMethod yX6_determinedMany, Cond.selects RX6 yX6_determinedMany yX6_determinedMany, Cond.code yX6_determinedMany cX6_determinedMany 3 (some .int), Cond.methodLink RL 118 yL_isDetermined, Cond.static yL_isDetermined, Cond.codeWith yL_isDetermined cL_isDetermined 4 (some .int) [(0, 16, 19, 23)], Cond.methodLink RL 44 yX5_isDetermined, Cond.instanceMethod yX5_isDetermined, Cond.selects RX5 yX5_isDetermined yX5_isDetermined, Cond.code yX5_isDetermined cX5_isDetermined 2 (some .boolean), Cond.methodLink RX5 145 yX1_fixes, Cond.instanceMethod yX1_fixes, Cond.selects RX1 yX1_fixes yX1_fixes, Cond.code yX1_fixes cX1_fixes 2 (some .boolean), Cond.methodLink RL 120 yX6_isDetermined, Cond.instanceMethod yX6_isDetermined, Cond.selects RX6 yX6_isDetermined yX6_isDetermined, Cond.code yX6_isDetermined cX6_isDetermined 2 (some .boolean), Cond.methodLink RX6 154 yX6_isKnown, Cond.instanceMethod yX6_isKnown, Cond.selects RX6 yX6_isKnown yX6_isKnown, Cond.code yX6_isKnown cX6_isKnown 2 (some .boolean), Cond.methodLink RL 121 yL_recovered]
def wsL_law0_r25 : List Cond := [Cond.static yL_recovered, Cond.codeWith yL_recovered cL_recovered 4 (some .int) [(0, 9, 12, 23), (0, 9, 15, 18)], Cond.methodLink RL 48 yX5_recovered, Cond.instanceMethod yX5_recovered, Cond.selects RX5 yX5_recovered yX5_recovered, Cond.code yX5_recovered cX5_recovered 2 (some .int), Cond.methodLink RX5 154 yX1_knownValue, Cond.methodLink RL 123 yX6_recovered, Cond.instanceMethod yX6_recovered, Cond.selects RX6 yX6_recovered yX6_recovered, Cond.code yX6_recovered cX6_recovered 2 (some .int), Cond.methodLink RL 124 yX5_wouldHelp, Cond.instanceMethod yX5_wouldHelp, Cond.selects RX5 yX5_wouldHelp yX5_wouldHelp, Cond.code yX5_wouldHelp cX5_wouldHelp 2 (some .boolean), Cond.methodLink RX5 157 yX1_remainder, Cond.methodLink RL 127 yX6_wouldHelp, Cond.instanceMethod yX6_wouldHelp, Cond.selects RX6 yX6_wouldHelp yX6_wouldHelp, Cond.code yX6_wouldHelp cX6_wouldHelp 2 (some .boolean), Cond.methodLink RX6 157 yX6_helps, Cond.instanceMethod yX6_helps, Cond.selects RX6 yX6_helps yX6_helps, Cond.code yX6_helps cX6_helps 2 (some .boolean)]
def wsL_law0_r26 : List Cond := [Cond.methodLink RL 128 yX5_wouldDetermine, Cond.instanceMethod yX5_wouldDetermine, Cond.selects RX5 yX5_wouldDetermine yX5_wouldDetermine, Cond.code yX5_wouldDetermine cX5_wouldDetermine 4 (some .int), Cond.methodLink RL 131 yX6_wouldDetermine, Cond.instanceMethod yX6_wouldDetermine, Cond.selects RX6 yX6_wouldDetermine yX6_wouldDetermine, Cond.code yX6_wouldDetermine cX6_wouldDetermine 5 (some .int), Cond.methodLink RL 132 yX5_nextHelpful, Cond.instanceMethod yX5_nextHelpful, Cond.selects RX5 yX5_nextHelpful yX5_nextHelpful, Cond.code yX5_nextHelpful cX5_nextHelpful 3 (some .int), Cond.methodLink RX5 161 yX5_missing, Cond.instanceMethod yX5_missing, Cond.selects RX5 yX5_missing yX5_missing, Cond.code yX5_missing cX5_missing 1 (some .int), Cond.methodLink RX5 164 yX5_wouldHelp, Cond.methodLink RL 135 yX6_nextHelpful, Cond.instanceMethod yX6_nextHelpful, Cond.selects RX6 yX6_nextHelpful yX6_nextHelpful, Cond.code yX6_nextHelpful cX6_nextHelpful 3 (some .int), Cond.methodLink RL 136 yX5_missing, Cond.methodLink RL 139 yX6_missing, Cond.instanceMethod yX6_missing]
def wsL_law0_r27 : List Cond := [Cond.selects RX6 yX6_missing yX6_missing, Cond.code yX6_missing cX6_missing 1 (some .int)]
def wsL_law0 : List Cond := (wsL_law0_r1 ++ (wsL_law0_r2 ++ (wsL_law0_r3 ++ (wsL_law0_r4 ++ (wsL_law0_r5 ++ (wsL_law0_r6 ++ (wsL_law0_r7 ++ (wsL_law0_r8 ++ (wsL_law0_r9 ++ (wsL_law0_r10 ++ (wsL_law0_r11 ++ (wsL_law0_r12 ++ (wsL_law0_r13 ++ (wsL_law0_r14 ++ (wsL_law0_r15 ++ (wsL_law0_r16 ++ (wsL_law0_r17 ++ (wsL_law0_r18 ++ (wsL_law0_r19 ++ (wsL_law0_r20 ++ (wsL_law0_r21 ++ (wsL_law0_r22 ++ (wsL_law0_r23 ++ (wsL_law0_r24 ++ (wsL_law0_r25 ++ (wsL_law0_r26 ++ wsL_law0_r27)))))))))))))))))))))))))) ++ wsX50 ++ wsX60 ++ wsX40 ++ wsX30 ++ wsX20 ++ wsX10 ++ wsX00 ++ ([] : List Cond)
def wsL_law : List Cond := wsL_law0 ++ (vx_atS RX5 52 "java/lang/IllegalArgumentException" ["java/lang/RuntimeException", "java/lang/Exception"]).filter goodWord ++ (vx_atS RX5 69 "java/lang/IllegalStateException" ["java/lang/RuntimeException", "java/lang/Exception"]).filter goodWord ++ (vx_atS RX5 81 "java/lang/IndexOutOfBoundsException" ["java/lang/RuntimeException", "java/lang/Exception"]).filter goodWord
abbrev vwCl : List vw_C := [(RX0, TX0, 4), (RX1, TX1, 3), (RX2, TX2, 6), (RX3, TX3, 3), (RX4, TX4, 1), (RX5, TX5, 5), (RX6, TX6, 22)]
end
section
theorem dX0_init_0 : decode cX0_init 0 = .ok (.aload_n 0, 1) := by decide +kernel
theorem dX0_init_1 : decode cX0_init 1 = .ok (.invokespecial 3, 3) := by decide +kernel
theorem dX0_init_4 : decode cX0_init 4 = .ok (.aload_n 0, 1) := by decide +kernel
theorem dX0_init_5 : decode cX0_init 5 = .ok (.bipush 38, 2) := by decide +kernel
theorem dX0_init_7 : decode cX0_init 7 = .ok (.newarray .int, 2) := by decide +kernel
theorem dX0_init_9 : decode cX0_init 9 = .ok (.putfield 9, 3) := by decide +kernel
theorem dX0_init_12 : decode cX0_init 12 = .ok (.return_, 1) := by decide +kernel
set_option maxRecDepth 20000 in
theorem ggX0_draw_X4_sum : GoodIn wsX0_draw wsX4_sum := goodIn_r _ [13, 14, 41] (by decide +kernel) (by decide +kernel)
set_option maxRecDepth 20000 in
theorem gX0_draw_X4_sum : GoodIn wsX0_draw (wsV RX0 19 RX4 yX4_sum wsX4_sum) := goodIn_app (goodIn_of _ (by decide +kernel)) ggX0_draw_X4_sum
set_option maxRecDepth 20000 in
theorem ggX0_draw_X0_numberBelow : GoodIn wsX0_draw wsX0_numberBelow := goodIn_r _ [19, 1, 20, 21, 37, 38, 39, 40] (by decide +kernel) (by decide +kernel)
set_option maxRecDepth 20000 in
theorem gX0_draw_X0_numberBelow : GoodIn wsX0_draw (wsV RX0 25 RX0 yX0_numberBelow wsX0_numberBelow) := goodIn_app (goodIn_of _ (by decide +kernel)) ggX0_draw_X0_numberBelow
set_option maxRecDepth 20000 in
theorem ggX0_draw_X4_degreeFor : GoodIn wsX0_draw wsX4_degreeFor := goodIn_r _ [25, 14, 41] (by decide +kernel) (by decide +kernel)
set_option maxRecDepth 20000 in
theorem gX0_draw_X4_degreeFor : GoodIn wsX0_draw (wsV RX0 29 RX4 yX4_degreeFor wsX4_degreeFor) := goodIn_app (goodIn_of _ (by decide +kernel)) ggX0_draw_X4_degreeFor
set_option maxRecDepth 20000 in
theorem ggX0_draw_X0_lineUp : GoodIn wsX0_draw wsX0_lineUp := goodIn_r _ [29, 8, 37, 38, 39, 40] (by decide +kernel) (by decide +kernel)
set_option maxRecDepth 20000 in
theorem gX0_draw_X0_lineUp : GoodIn wsX0_draw (wsV RX0 42 RX0 yX0_lineUp wsX0_lineUp) := goodIn_app (goodIn_of _ (by decide +kernel)) ggX0_draw_X0_lineUp
set_option maxRecDepth 20000 in
theorem ggX0_draw_X0_swap : GoodIn wsX0_draw wsX0_swap := goodIn_r _ [33, 8, 37, 38, 39, 40] (by decide +kernel) (by decide +kernel)
set_option maxRecDepth 20000 in
theorem gX0_draw_X0_swap : GoodIn wsX0_draw (wsV RX0 49 RX0 yX0_swap wsX0_swap) := goodIn_app (goodIn_of _ (by decide +kernel)) ggX0_draw_X0_swap
set_option maxRecDepth 20000 in
theorem ggX0_draw_X5_setOf : GoodIn wsX0_draw wsX5_setOf := goodIn_r _ [36] (by decide +kernel) (by decide +kernel)
set_option maxRecDepth 20000 in
theorem gX0_draw_X5_setOf_n53 : GoodIn wsX0_draw (wsX5_setOf) := ggX0_draw_X5_setOf
theorem dX0_draw_0 : decode cX0_draw 0 = .ok (.aload_n 0, 1) := by decide +kernel
theorem dX0_draw_1 : decode cX0_draw 1 = .ok (.iload_n 1, 1) := by decide +kernel
theorem dX0_draw_2 : decode cX0_draw 2 = .ok (.i2l, 1) := by decide +kernel
theorem dX0_draw_3 : decode cX0_draw 3 = .ok (.putfield 15, 3) := by decide +kernel
theorem dX0_draw_6 : decode cX0_draw 6 = .ok (.aload_n 0, 1) := by decide +kernel
theorem dX0_draw_7 : decode cX0_draw 7 = .ok (.aload_n 2, 1) := by decide +kernel
theorem dX0_draw_8 : decode cX0_draw 8 = .ok (.aload_n 0, 1) := by decide +kernel
theorem dX0_draw_9 : decode cX0_draw 9 = .ok (.aload_n 2, 1) := by decide +kernel
theorem dX0_draw_10 : decode cX0_draw 10 = .ok (.invokevirtual 19, 3) := by decide +kernel
theorem dX0_draw_13 : decode cX0_draw 13 = .ok (.invokevirtual 25, 3) := by decide +kernel
theorem dX0_draw_16 : decode cX0_draw 16 = .ok (.invokevirtual 29, 3) := by decide +kernel
theorem dX0_draw_19 : decode cX0_draw 19 = .ok (.iload_n 3, 1) := by decide +kernel
theorem dX0_draw_20 : decode cX0_draw 20 = .ok (.invokestatic 32, 3) := by decide +kernel
theorem dX0_draw_23 : decode cX0_draw 23 = .ok (.putfield 38, 3) := by decide +kernel
theorem dX0_draw_26 : decode cX0_draw 26 = .ok (.aload_n 0, 1) := by decide +kernel
theorem dX0_draw_27 : decode cX0_draw 27 = .ok (.iload_n 3, 1) := by decide +kernel
theorem dX0_draw_28 : decode cX0_draw 28 = .ok (.invokevirtual 42, 3) := by decide +kernel
theorem dX0_draw_31 : decode cX0_draw 31 = .ok (.aload_n 0, 1) := by decide +kernel
theorem dX0_draw_32 : decode cX0_draw 32 = .ok (.lconst 0, 1) := by decide +kernel
theorem dX0_draw_33 : decode cX0_draw 33 = .ok (.putfield 46, 3) := by decide +kernel
theorem dX0_draw_36 : decode cX0_draw 36 = .ok (.iconst 0, 1) := by decide +kernel
theorem dX0_draw_37 : decode cX0_draw 37 = .ok (.istore 4, 2) := by decide +kernel
theorem dX0_draw_39 : decode cX0_draw 39 = .ok (.iload 4, 2) := by decide +kernel
theorem dX0_draw_41 : decode cX0_draw 41 = .ok (.aload_n 0, 1) := by decide +kernel
theorem dX0_draw_42 : decode cX0_draw 42 = .ok (.getfield 38, 3) := by decide +kernel
theorem dX0_draw_45 : decode cX0_draw 45 = .ok (.if_icmp .ge 55, 3) := by decide +kernel
theorem dX0_draw_48 : decode cX0_draw 48 = .ok (.iload 4, 2) := by decide +kernel
theorem dX0_draw_50 : decode cX0_draw 50 = .ok (.aload_n 0, 1) := by decide +kernel
theorem dX0_draw_51 : decode cX0_draw 51 = .ok (.getfield 9, 3) := by decide +kernel
theorem dX0_draw_54 : decode cX0_draw 54 = .ok (.arraylength, 1) := by decide +kernel
theorem dX0_draw_55 : decode cX0_draw 55 = .ok (.if_icmp .ge 45, 3) := by decide +kernel
theorem dX0_draw_58 : decode cX0_draw 58 = .ok (.aload_n 0, 1) := by decide +kernel
theorem dX0_draw_59 : decode cX0_draw 59 = .ok (.iload 4, 2) := by decide +kernel
theorem dX0_draw_61 : decode cX0_draw 61 = .ok (.iload 4, 2) := by decide +kernel
theorem dX0_draw_63 : decode cX0_draw 63 = .ok (.aload_n 0, 1) := by decide +kernel
theorem dX0_draw_64 : decode cX0_draw 64 = .ok (.iload_n 3, 1) := by decide +kernel
theorem dX0_draw_65 : decode cX0_draw 65 = .ok (.iload 4, 2) := by decide +kernel
theorem dX0_draw_67 : decode cX0_draw 67 = .ok (.isub, 1) := by decide +kernel
theorem dX0_draw_68 : decode cX0_draw 68 = .ok (.invokevirtual 25, 3) := by decide +kernel
theorem dX0_draw_71 : decode cX0_draw 71 = .ok (.iadd, 1) := by decide +kernel
theorem dX0_draw_72 : decode cX0_draw 72 = .ok (.invokevirtual 49, 3) := by decide +kernel
theorem dX0_draw_75 : decode cX0_draw 75 = .ok (.aload_n 0, 1) := by decide +kernel
theorem dX0_draw_76 : decode cX0_draw 76 = .ok (.dup, 1) := by decide +kernel
theorem dX0_draw_77 : decode cX0_draw 77 = .ok (.getfield 46, 3) := by decide +kernel
theorem dX0_draw_80 : decode cX0_draw 80 = .ok (.aload_n 0, 1) := by decide +kernel
theorem dX0_draw_81 : decode cX0_draw 81 = .ok (.getfield 9, 3) := by decide +kernel
theorem dX0_draw_84 : decode cX0_draw 84 = .ok (.iload 4, 2) := by decide +kernel
theorem dX0_draw_86 : decode cX0_draw 86 = .ok (.iaload, 1) := by decide +kernel
theorem dX0_draw_87 : decode cX0_draw 87 = .ok (.invokestatic 53, 3) := by decide +kernel
theorem dX0_draw_90 : decode cX0_draw 90 = .ok (.lor, 1) := by decide +kernel
theorem dX0_draw_91 : decode cX0_draw 91 = .ok (.putfield 46, 3) := by decide +kernel
theorem dX0_draw_94 : decode cX0_draw 94 = .ok (.iinc 4 1, 3) := by decide +kernel
theorem dX0_draw_97 : decode cX0_draw 97 = .ok (.goto (-58), 3) := by decide +kernel
theorem dX0_draw_100 : decode cX0_draw 100 = .ok (.return_, 1) := by decide +kernel
theorem dX0_size_0 : decode cX0_size 0 = .ok (.aload_n 0, 1) := by decide +kernel
theorem dX0_size_1 : decode cX0_size 1 = .ok (.getfield 38, 3) := by decide +kernel
theorem dX0_size_4 : decode cX0_size 4 = .ok (.ireturn, 1) := by decide +kernel
theorem dX0_blockSet_0 : decode cX0_blockSet 0 = .ok (.aload_n 0, 1) := by decide +kernel
theorem dX0_blockSet_1 : decode cX0_blockSet 1 = .ok (.getfield 46, 3) := by decide +kernel
theorem dX0_blockSet_4 : decode cX0_blockSet 4 = .ok (.lreturn, 1) := by decide +kernel
theorem dX0_blockInPlace_0 : decode cX0_blockInPlace 0 = .ok (.iload_n 1, 1) := by decide +kernel
theorem dX0_blockInPlace_1 : decode cX0_blockInPlace 1 = .ok (.ifCond .lt 21, 3) := by decide +kernel
theorem dX0_blockInPlace_4 : decode cX0_blockInPlace 4 = .ok (.iload_n 1, 1) := by decide +kernel
theorem dX0_blockInPlace_5 : decode cX0_blockInPlace 5 = .ok (.aload_n 0, 1) := by decide +kernel
theorem dX0_blockInPlace_6 : decode cX0_blockInPlace 6 = .ok (.getfield 9, 3) := by decide +kernel
theorem dX0_blockInPlace_9 : decode cX0_blockInPlace 9 = .ok (.arraylength, 1) := by decide +kernel
theorem dX0_blockInPlace_10 : decode cX0_blockInPlace 10 = .ok (.if_icmp .ge 12, 3) := by decide +kernel
theorem dX0_blockInPlace_13 : decode cX0_blockInPlace 13 = .ok (.aload_n 0, 1) := by decide +kernel
theorem dX0_blockInPlace_14 : decode cX0_blockInPlace 14 = .ok (.getfield 9, 3) := by decide +kernel
theorem dX0_blockInPlace_17 : decode cX0_blockInPlace 17 = .ok (.iload_n 1, 1) := by decide +kernel
theorem dX0_blockInPlace_18 : decode cX0_blockInPlace 18 = .ok (.iaload, 1) := by decide +kernel
theorem dX0_blockInPlace_19 : decode cX0_blockInPlace 19 = .ok (.goto 4, 3) := by decide +kernel
theorem dX0_blockInPlace_22 : decode cX0_blockInPlace 22 = .ok (.iconst (-1), 1) := by decide +kernel
theorem dX0_blockInPlace_23 : decode cX0_blockInPlace 23 = .ok (.ireturn, 1) := by decide +kernel
theorem dX0_numberBelow_0 : decode cX0_numberBelow 0 = .ok (.aload_n 0, 1) := by decide +kernel
theorem dX0_numberBelow_1 : decode cX0_numberBelow 1 = .ok (.aload_n 0, 1) := by decide +kernel
theorem dX0_numberBelow_2 : decode cX0_numberBelow 2 = .ok (.getfield 15, 3) := by decide +kernel
theorem dX0_numberBelow_5 : decode cX0_numberBelow 5 = .ok (.ldc2_w 57, 3) := by decide +kernel
theorem dX0_numberBelow_8 : decode cX0_numberBelow 8 = .ok (.lmul, 1) := by decide +kernel
theorem dX0_numberBelow_9 : decode cX0_numberBelow 9 = .ok (.ldc2_w 59, 3) := by decide +kernel
theorem dX0_numberBelow_12 : decode cX0_numberBelow 12 = .ok (.ladd, 1) := by decide +kernel
theorem dX0_numberBelow_13 : decode cX0_numberBelow 13 = .ok (.putfield 15, 3) := by decide +kernel
theorem dX0_numberBelow_16 : decode cX0_numberBelow 16 = .ok (.iload_n 1, 1) := by decide +kernel
theorem dX0_numberBelow_17 : decode cX0_numberBelow 17 = .ok (.ifCond .gt 5, 3) := by decide +kernel
theorem dX0_numberBelow_20 : decode cX0_numberBelow 20 = .ok (.iconst 0, 1) := by decide +kernel
theorem dX0_numberBelow_21 : decode cX0_numberBelow 21 = .ok (.ireturn, 1) := by decide +kernel
theorem dX0_numberBelow_22 : decode cX0_numberBelow 22 = .ok (.aload_n 0, 1) := by decide +kernel
theorem dX0_numberBelow_23 : decode cX0_numberBelow 23 = .ok (.getfield 15, 3) := by decide +kernel
theorem dX0_numberBelow_26 : decode cX0_numberBelow 26 = .ok (.bipush 33, 2) := by decide +kernel
theorem dX0_numberBelow_28 : decode cX0_numberBelow 28 = .ok (.lushr, 1) := by decide +kernel
theorem dX0_numberBelow_29 : decode cX0_numberBelow 29 = .ok (.iload_n 1, 1) := by decide +kernel
theorem dX0_numberBelow_30 : decode cX0_numberBelow 30 = .ok (.i2l, 1) := by decide +kernel
theorem dX0_numberBelow_31 : decode cX0_numberBelow 31 = .ok (.lrem, 1) := by decide +kernel
theorem dX0_numberBelow_32 : decode cX0_numberBelow 32 = .ok (.l2i, 1) := by decide +kernel
theorem dX0_numberBelow_33 : decode cX0_numberBelow 33 = .ok (.ireturn, 1) := by decide +kernel
theorem dX0_lineUp_0 : decode cX0_lineUp 0 = .ok (.iconst 0, 1) := by decide +kernel
theorem dX0_lineUp_1 : decode cX0_lineUp 1 = .ok (.istore_n 2, 1) := by decide +kernel
theorem dX0_lineUp_2 : decode cX0_lineUp 2 = .ok (.iload_n 2, 1) := by decide +kernel
theorem dX0_lineUp_3 : decode cX0_lineUp 3 = .ok (.iload_n 1, 1) := by decide +kernel
theorem dX0_lineUp_4 : decode cX0_lineUp 4 = .ok (.if_icmp .ge 25, 3) := by decide +kernel
theorem dX0_lineUp_7 : decode cX0_lineUp 7 = .ok (.iload_n 2, 1) := by decide +kernel
theorem dX0_lineUp_8 : decode cX0_lineUp 8 = .ok (.aload_n 0, 1) := by decide +kernel
theorem dX0_lineUp_9 : decode cX0_lineUp 9 = .ok (.getfield 9, 3) := by decide +kernel
theorem dX0_lineUp_12 : decode cX0_lineUp 12 = .ok (.arraylength, 1) := by decide +kernel
theorem dX0_lineUp_13 : decode cX0_lineUp 13 = .ok (.if_icmp .ge 16, 3) := by decide +kernel
theorem dX0_lineUp_16 : decode cX0_lineUp 16 = .ok (.aload_n 0, 1) := by decide +kernel
theorem dX0_lineUp_17 : decode cX0_lineUp 17 = .ok (.getfield 9, 3) := by decide +kernel
theorem dX0_lineUp_20 : decode cX0_lineUp 20 = .ok (.iload_n 2, 1) := by decide +kernel
theorem dX0_lineUp_21 : decode cX0_lineUp 21 = .ok (.iload_n 2, 1) := by decide +kernel
theorem dX0_lineUp_22 : decode cX0_lineUp 22 = .ok (.iastore, 1) := by decide +kernel
theorem dX0_lineUp_23 : decode cX0_lineUp 23 = .ok (.iinc 2 1, 3) := by decide +kernel
theorem dX0_lineUp_26 : decode cX0_lineUp 26 = .ok (.goto (-24), 3) := by decide +kernel
theorem dX0_lineUp_29 : decode cX0_lineUp 29 = .ok (.return_, 1) := by decide +kernel
theorem dX0_swap_0 : decode cX0_swap 0 = .ok (.iload_n 1, 1) := by decide +kernel
theorem dX0_swap_1 : decode cX0_swap 1 = .ok (.ifCond .lt 25, 3) := by decide +kernel
theorem dX0_swap_4 : decode cX0_swap 4 = .ok (.iload_n 1, 1) := by decide +kernel
theorem dX0_swap_5 : decode cX0_swap 5 = .ok (.aload_n 0, 1) := by decide +kernel
theorem dX0_swap_6 : decode cX0_swap 6 = .ok (.getfield 9, 3) := by decide +kernel
theorem dX0_swap_9 : decode cX0_swap 9 = .ok (.arraylength, 1) := by decide +kernel
theorem dX0_swap_10 : decode cX0_swap 10 = .ok (.if_icmp .ge 16, 3) := by decide +kernel
theorem dX0_swap_13 : decode cX0_swap 13 = .ok (.iload_n 2, 1) := by decide +kernel
theorem dX0_swap_14 : decode cX0_swap 14 = .ok (.ifCond .lt 12, 3) := by decide +kernel
theorem dX0_swap_17 : decode cX0_swap 17 = .ok (.iload_n 2, 1) := by decide +kernel
theorem dX0_swap_18 : decode cX0_swap 18 = .ok (.aload_n 0, 1) := by decide +kernel
theorem dX0_swap_19 : decode cX0_swap 19 = .ok (.getfield 9, 3) := by decide +kernel
theorem dX0_swap_22 : decode cX0_swap 22 = .ok (.arraylength, 1) := by decide +kernel
theorem dX0_swap_23 : decode cX0_swap 23 = .ok (.if_icmp .lt 4, 3) := by decide +kernel
theorem dX0_swap_26 : decode cX0_swap 26 = .ok (.return_, 1) := by decide +kernel
theorem dX0_swap_27 : decode cX0_swap 27 = .ok (.aload_n 0, 1) := by decide +kernel
theorem dX0_swap_28 : decode cX0_swap 28 = .ok (.getfield 9, 3) := by decide +kernel
theorem dX0_swap_31 : decode cX0_swap 31 = .ok (.iload_n 1, 1) := by decide +kernel
theorem dX0_swap_32 : decode cX0_swap 32 = .ok (.iaload, 1) := by decide +kernel
theorem dX0_swap_33 : decode cX0_swap 33 = .ok (.istore_n 3, 1) := by decide +kernel
theorem dX0_swap_34 : decode cX0_swap 34 = .ok (.aload_n 0, 1) := by decide +kernel
theorem dX0_swap_35 : decode cX0_swap 35 = .ok (.getfield 9, 3) := by decide +kernel
theorem dX0_swap_38 : decode cX0_swap 38 = .ok (.iload_n 1, 1) := by decide +kernel
theorem dX0_swap_39 : decode cX0_swap 39 = .ok (.aload_n 0, 1) := by decide +kernel
theorem dX0_swap_40 : decode cX0_swap 40 = .ok (.getfield 9, 3) := by decide +kernel
theorem dX0_swap_43 : decode cX0_swap 43 = .ok (.iload_n 2, 1) := by decide +kernel
theorem dX0_swap_44 : decode cX0_swap 44 = .ok (.iaload, 1) := by decide +kernel
theorem dX0_swap_45 : decode cX0_swap 45 = .ok (.iastore, 1) := by decide +kernel
theorem dX0_swap_46 : decode cX0_swap 46 = .ok (.aload_n 0, 1) := by decide +kernel
theorem dX0_swap_47 : decode cX0_swap 47 = .ok (.getfield 9, 3) := by decide +kernel
theorem dX0_swap_50 : decode cX0_swap 50 = .ok (.iload_n 2, 1) := by decide +kernel
theorem dX0_swap_51 : decode cX0_swap 51 = .ok (.iload_n 3, 1) := by decide +kernel
theorem dX0_swap_52 : decode cX0_swap 52 = .ok (.iastore, 1) := by decide +kernel
theorem dX0_swap_53 : decode cX0_swap 53 = .ok (.return_, 1) := by decide +kernel
theorem dX1_init_0 : decode cX1_init 0 = .ok (.aload_n 0, 1) := by decide +kernel
theorem dX1_init_1 : decode cX1_init 1 = .ok (.invokespecial 3, 3) := by decide +kernel
theorem dX1_init_4 : decode cX1_init 4 = .ok (.aload_n 0, 1) := by decide +kernel
theorem dX1_init_5 : decode cX1_init 5 = .ok (.bipush 38, 2) := by decide +kernel
theorem dX1_init_7 : decode cX1_init 7 = .ok (.newarray .long, 2) := by decide +kernel
theorem dX1_init_9 : decode cX1_init 9 = .ok (.putfield 9, 3) := by decide +kernel
theorem dX1_init_12 : decode cX1_init 12 = .ok (.aload_n 0, 1) := by decide +kernel
theorem dX1_init_13 : decode cX1_init 13 = .ok (.bipush 38, 2) := by decide +kernel
theorem dX1_init_15 : decode cX1_init 15 = .ok (.newarray .int, 2) := by decide +kernel
theorem dX1_init_17 : decode cX1_init 17 = .ok (.putfield 15, 3) := by decide +kernel
theorem dX1_init_20 : decode cX1_init 20 = .ok (.return_, 1) := by decide +kernel
set_option maxRecDepth 20000 in
theorem ggX1_clear_J7_fill_d0a16 : GoodIn wsX1_clear wsJ7_fill_d0a16 := goodIn_r _ [7] (by decide +kernel) (by decide +kernel)
set_option maxRecDepth 20000 in
theorem gX1_clear_J7_fill_d0a16 : GoodIn wsX1_clear (va_wsS RX1 23 yJ7_fill_d0a16 wsJ7_fill_d0a16) := goodIn_app (goodIn_of _ (by decide +kernel)) ggX1_clear_J7_fill_d0a16
set_option maxRecDepth 20000 in
theorem ggX1_clear_J7_fill_53178 : GoodIn wsX1_clear wsJ7_fill_53178 := goodIn_r _ [10] (by decide +kernel) (by decide +kernel)
set_option maxRecDepth 20000 in
theorem gX1_clear_J7_fill_53178 : GoodIn wsX1_clear (va_wsS RX1 29 yJ7_fill_53178 wsJ7_fill_53178) := goodIn_app (goodIn_of _ (by decide +kernel)) ggX1_clear_J7_fill_53178
theorem dX1_clear_0 : decode cX1_clear 0 = .ok (.aload_n 0, 1) := by decide +kernel
theorem dX1_clear_1 : decode cX1_clear 1 = .ok (.iconst 0, 1) := by decide +kernel
theorem dX1_clear_2 : decode cX1_clear 2 = .ok (.putfield 19, 3) := by decide +kernel
theorem dX1_clear_5 : decode cX1_clear 5 = .ok (.aload_n 0, 1) := by decide +kernel
theorem dX1_clear_6 : decode cX1_clear 6 = .ok (.getfield 9, 3) := by decide +kernel
theorem dX1_clear_9 : decode cX1_clear 9 = .ok (.lconst 0, 1) := by decide +kernel
theorem dX1_clear_10 : decode cX1_clear 10 = .ok (.invokestatic 23, 3) := by decide +kernel
theorem dX1_clear_13 : decode cX1_clear 13 = .ok (.aload_n 0, 1) := by decide +kernel
theorem dX1_clear_14 : decode cX1_clear 14 = .ok (.getfield 15, 3) := by decide +kernel
theorem dX1_clear_17 : decode cX1_clear 17 = .ok (.iconst 0, 1) := by decide +kernel
theorem dX1_clear_18 : decode cX1_clear 18 = .ok (.invokestatic 29, 3) := by decide +kernel
theorem dX1_clear_21 : decode cX1_clear 21 = .ok (.return_, 1) := by decide +kernel
theorem dX1_rowCount_0 : decode cX1_rowCount 0 = .ok (.aload_n 0, 1) := by decide +kernel
theorem dX1_rowCount_1 : decode cX1_rowCount 1 = .ok (.getfield 19, 3) := by decide +kernel
theorem dX1_rowCount_4 : decode cX1_rowCount 4 = .ok (.ireturn, 1) := by decide +kernel
set_option maxRecDepth 20000 in
theorem ggX1_remainder_X5_holds : GoodIn wsX1_remainder wsX5_holds := goodIn_r _ [4, 5, 6, 3, 7] (by decide +kernel) (by decide +kernel)
set_option maxRecDepth 20000 in
theorem gX1_remainder_X5_holds_n32 : GoodIn wsX1_remainder (wsX5_holds) := ggX1_remainder_X5_holds
theorem dX1_remainder_0 : decode cX1_remainder 0 = .ok (.lload_n 1, 1) := by decide +kernel
theorem dX1_remainder_1 : decode cX1_remainder 1 = .ok (.lstore_n 3, 1) := by decide +kernel
theorem dX1_remainder_2 : decode cX1_remainder 2 = .ok (.iconst 0, 1) := by decide +kernel
theorem dX1_remainder_3 : decode cX1_remainder 3 = .ok (.istore 5, 2) := by decide +kernel
theorem dX1_remainder_5 : decode cX1_remainder 5 = .ok (.iload 5, 2) := by decide +kernel
theorem dX1_remainder_7 : decode cX1_remainder 7 = .ok (.bipush 38, 2) := by decide +kernel
theorem dX1_remainder_9 : decode cX1_remainder 9 = .ok (.if_icmp .ge 28, 3) := by decide +kernel
theorem dX1_remainder_12 : decode cX1_remainder 12 = .ok (.lload_n 1, 1) := by decide +kernel
theorem dX1_remainder_13 : decode cX1_remainder 13 = .ok (.iload 5, 2) := by decide +kernel
theorem dX1_remainder_15 : decode cX1_remainder 15 = .ok (.invokestatic 32, 3) := by decide +kernel
theorem dX1_remainder_18 : decode cX1_remainder 18 = .ok (.ifCond .eq 13, 3) := by decide +kernel
theorem dX1_remainder_21 : decode cX1_remainder 21 = .ok (.lload_n 3, 1) := by decide +kernel
theorem dX1_remainder_22 : decode cX1_remainder 22 = .ok (.aload_n 0, 1) := by decide +kernel
theorem dX1_remainder_23 : decode cX1_remainder 23 = .ok (.getfield 9, 3) := by decide +kernel
theorem dX1_remainder_26 : decode cX1_remainder 26 = .ok (.iload 5, 2) := by decide +kernel
theorem dX1_remainder_28 : decode cX1_remainder 28 = .ok (.laload, 1) := by decide +kernel
theorem dX1_remainder_29 : decode cX1_remainder 29 = .ok (.lxor, 1) := by decide +kernel
theorem dX1_remainder_30 : decode cX1_remainder 30 = .ok (.lstore_n 3, 1) := by decide +kernel
theorem dX1_remainder_31 : decode cX1_remainder 31 = .ok (.iinc 5 1, 3) := by decide +kernel
theorem dX1_remainder_34 : decode cX1_remainder 34 = .ok (.goto (-29), 3) := by decide +kernel
theorem dX1_remainder_37 : decode cX1_remainder 37 = .ok (.lload_n 3, 1) := by decide +kernel
theorem dX1_remainder_38 : decode cX1_remainder 38 = .ok (.lreturn, 1) := by decide +kernel
set_option maxRecDepth 20000 in
theorem ggX1_knownValue_X5_holds : GoodIn wsX1_knownValue wsX5_holds := goodIn_r _ [4, 5, 6, 3, 7] (by decide +kernel) (by decide +kernel)
set_option maxRecDepth 20000 in
theorem gX1_knownValue_X5_holds_n32 : GoodIn wsX1_knownValue (wsX5_holds) := ggX1_knownValue_X5_holds
theorem dX1_knownValue_0 : decode cX1_knownValue 0 = .ok (.iconst 0, 1) := by decide +kernel
theorem dX1_knownValue_1 : decode cX1_knownValue 1 = .ok (.istore_n 3, 1) := by decide +kernel
theorem dX1_knownValue_2 : decode cX1_knownValue 2 = .ok (.iconst 0, 1) := by decide +kernel
theorem dX1_knownValue_3 : decode cX1_knownValue 3 = .ok (.istore 4, 2) := by decide +kernel
theorem dX1_knownValue_5 : decode cX1_knownValue 5 = .ok (.iload 4, 2) := by decide +kernel
theorem dX1_knownValue_7 : decode cX1_knownValue 7 = .ok (.bipush 38, 2) := by decide +kernel
theorem dX1_knownValue_9 : decode cX1_knownValue 9 = .ok (.if_icmp .ge 28, 3) := by decide +kernel
theorem dX1_knownValue_12 : decode cX1_knownValue 12 = .ok (.lload_n 1, 1) := by decide +kernel
theorem dX1_knownValue_13 : decode cX1_knownValue 13 = .ok (.iload 4, 2) := by decide +kernel
theorem dX1_knownValue_15 : decode cX1_knownValue 15 = .ok (.invokestatic 32, 3) := by decide +kernel
theorem dX1_knownValue_18 : decode cX1_knownValue 18 = .ok (.ifCond .eq 13, 3) := by decide +kernel
theorem dX1_knownValue_21 : decode cX1_knownValue 21 = .ok (.iload_n 3, 1) := by decide +kernel
theorem dX1_knownValue_22 : decode cX1_knownValue 22 = .ok (.aload_n 0, 1) := by decide +kernel
theorem dX1_knownValue_23 : decode cX1_knownValue 23 = .ok (.getfield 15, 3) := by decide +kernel
theorem dX1_knownValue_26 : decode cX1_knownValue 26 = .ok (.iload 4, 2) := by decide +kernel
theorem dX1_knownValue_28 : decode cX1_knownValue 28 = .ok (.iaload, 1) := by decide +kernel
theorem dX1_knownValue_29 : decode cX1_knownValue 29 = .ok (.ixor, 1) := by decide +kernel
theorem dX1_knownValue_30 : decode cX1_knownValue 30 = .ok (.istore_n 3, 1) := by decide +kernel
theorem dX1_knownValue_31 : decode cX1_knownValue 31 = .ok (.iinc 4 1, 3) := by decide +kernel
theorem dX1_knownValue_34 : decode cX1_knownValue 34 = .ok (.goto (-29), 3) := by decide +kernel
theorem dX1_knownValue_37 : decode cX1_knownValue 37 = .ok (.iload_n 3, 1) := by decide +kernel
theorem dX1_knownValue_38 : decode cX1_knownValue 38 = .ok (.ireturn, 1) := by decide +kernel
set_option maxRecDepth 20000 in
theorem ggX1_contradicts_X1_remainder : GoodIn wsX1_contradicts wsX1_remainder := goodIn_r _ [5, 6, 7, 8, 9, 10, 11, 12, 18, 19, 20] (by decide +kernel) (by decide +kernel)
set_option maxRecDepth 20000 in
theorem gX1_contradicts_X1_remainder : GoodIn wsX1_contradicts (wsV RX1 36 RX1 yX1_remainder wsX1_remainder) := goodIn_app (goodIn_of _ (by decide +kernel)) ggX1_contradicts_X1_remainder
set_option maxRecDepth 20000 in
theorem ggX1_contradicts_X1_knownValue : GoodIn wsX1_contradicts wsX1_knownValue := goodIn_r _ [16, 17, 7, 8, 9, 10, 11, 12, 18, 19, 20] (by decide +kernel) (by decide +kernel)
set_option maxRecDepth 20000 in
theorem gX1_contradicts_X1_knownValue : GoodIn wsX1_contradicts (wsV RX1 40 RX1 yX1_knownValue wsX1_knownValue) := goodIn_app (goodIn_of _ (by decide +kernel)) ggX1_contradicts_X1_knownValue
theorem dX1_contradicts_0 : decode cX1_contradicts 0 = .ok (.aload_n 0, 1) := by decide +kernel
theorem dX1_contradicts_1 : decode cX1_contradicts 1 = .ok (.lload_n 1, 1) := by decide +kernel
theorem dX1_contradicts_2 : decode cX1_contradicts 2 = .ok (.invokevirtual 36, 3) := by decide +kernel
theorem dX1_contradicts_5 : decode cX1_contradicts 5 = .ok (.lconst 0, 1) := by decide +kernel
theorem dX1_contradicts_6 : decode cX1_contradicts 6 = .ok (.lcmp, 1) := by decide +kernel
theorem dX1_contradicts_7 : decode cX1_contradicts 7 = .ok (.ifCond .ne 16, 3) := by decide +kernel
theorem dX1_contradicts_10 : decode cX1_contradicts 10 = .ok (.aload_n 0, 1) := by decide +kernel
theorem dX1_contradicts_11 : decode cX1_contradicts 11 = .ok (.lload_n 1, 1) := by decide +kernel
theorem dX1_contradicts_12 : decode cX1_contradicts 12 = .ok (.invokevirtual 40, 3) := by decide +kernel
theorem dX1_contradicts_15 : decode cX1_contradicts 15 = .ok (.iload_n 3, 1) := by decide +kernel
theorem dX1_contradicts_16 : decode cX1_contradicts 16 = .ok (.if_icmp .eq 7, 3) := by decide +kernel
theorem dX1_contradicts_19 : decode cX1_contradicts 19 = .ok (.iconst 1, 1) := by decide +kernel
theorem dX1_contradicts_20 : decode cX1_contradicts 20 = .ok (.goto 4, 3) := by decide +kernel
theorem dX1_contradicts_23 : decode cX1_contradicts 23 = .ok (.iconst 0, 1) := by decide +kernel
theorem dX1_contradicts_24 : decode cX1_contradicts 24 = .ok (.ireturn, 1) := by decide +kernel
set_option maxRecDepth 20000 in
theorem ggX1_fixes_X1_remainderOfBlock : GoodIn wsX1_fixes wsX1_remainderOfBlock := goodIn_r _ [5, 6, 7, 8, 9, 10, 11, 12] (by decide +kernel) (by decide +kernel)
set_option maxRecDepth 20000 in
theorem gX1_fixes_X1_remainderOfBlock : GoodIn wsX1_fixes (wsV RX1 44 RX1 yX1_remainderOfBlock wsX1_remainderOfBlock) := goodIn_app (goodIn_of _ (by decide +kernel)) ggX1_fixes_X1_remainderOfBlock
theorem dX1_fixes_0 : decode cX1_fixes 0 = .ok (.aload_n 0, 1) := by decide +kernel
theorem dX1_fixes_1 : decode cX1_fixes 1 = .ok (.iload_n 1, 1) := by decide +kernel
theorem dX1_fixes_2 : decode cX1_fixes 2 = .ok (.invokevirtual 44, 3) := by decide +kernel
theorem dX1_fixes_5 : decode cX1_fixes 5 = .ok (.lconst 0, 1) := by decide +kernel
theorem dX1_fixes_6 : decode cX1_fixes 6 = .ok (.lcmp, 1) := by decide +kernel
theorem dX1_fixes_7 : decode cX1_fixes 7 = .ok (.ifCond .ne 7, 3) := by decide +kernel
theorem dX1_fixes_10 : decode cX1_fixes 10 = .ok (.iconst 1, 1) := by decide +kernel
theorem dX1_fixes_11 : decode cX1_fixes 11 = .ok (.goto 4, 3) := by decide +kernel
theorem dX1_fixes_14 : decode cX1_fixes 14 = .ok (.iconst 0, 1) := by decide +kernel
theorem dX1_fixes_15 : decode cX1_fixes 15 = .ok (.ireturn, 1) := by decide +kernel
set_option maxRecDepth 20000 in
theorem ggX1_countLeaving_X1_remainderOfBlock : GoodIn wsX1_countLeaving wsX1_remainderOfBlock := goodIn_r _ [5, 6, 7, 8, 9, 10, 11, 12] (by decide +kernel) (by decide +kernel)
set_option maxRecDepth 20000 in
theorem gX1_countLeaving_X1_remainderOfBlock : GoodIn wsX1_countLeaving (wsV RX1 44 RX1 yX1_remainderOfBlock wsX1_remainderOfBlock) := goodIn_app (goodIn_of _ (by decide +kernel)) ggX1_countLeaving_X1_remainderOfBlock
theorem dX1_countLeaving_0 : decode cX1_countLeaving 0 = .ok (.iconst 0, 1) := by decide +kernel
theorem dX1_countLeaving_1 : decode cX1_countLeaving 1 = .ok (.istore 4, 2) := by decide +kernel
theorem dX1_countLeaving_3 : decode cX1_countLeaving 3 = .ok (.iconst 0, 1) := by decide +kernel
theorem dX1_countLeaving_4 : decode cX1_countLeaving 4 = .ok (.istore 5, 2) := by decide +kernel
theorem dX1_countLeaving_6 : decode cX1_countLeaving 6 = .ok (.iload 5, 2) := by decide +kernel
theorem dX1_countLeaving_8 : decode cX1_countLeaving 8 = .ok (.iload_n 3, 1) := by decide +kernel
theorem dX1_countLeaving_9 : decode cX1_countLeaving 9 = .ok (.if_icmp .ge 23, 3) := by decide +kernel
theorem dX1_countLeaving_12 : decode cX1_countLeaving 12 = .ok (.aload_n 0, 1) := by decide +kernel
theorem dX1_countLeaving_13 : decode cX1_countLeaving 13 = .ok (.iload 5, 2) := by decide +kernel
theorem dX1_countLeaving_15 : decode cX1_countLeaving 15 = .ok (.invokevirtual 44, 3) := by decide +kernel
theorem dX1_countLeaving_18 : decode cX1_countLeaving 18 = .ok (.lload_n 1, 1) := by decide +kernel
theorem dX1_countLeaving_19 : decode cX1_countLeaving 19 = .ok (.lcmp, 1) := by decide +kernel
theorem dX1_countLeaving_20 : decode cX1_countLeaving 20 = .ok (.ifCond .ne 6, 3) := by decide +kernel
theorem dX1_countLeaving_23 : decode cX1_countLeaving 23 = .ok (.iinc 4 1, 3) := by decide +kernel
theorem dX1_countLeaving_26 : decode cX1_countLeaving 26 = .ok (.iinc 5 1, 3) := by decide +kernel
theorem dX1_countLeaving_29 : decode cX1_countLeaving 29 = .ok (.goto (-23), 3) := by decide +kernel
theorem dX1_countLeaving_32 : decode cX1_countLeaving 32 = .ok (.iload 4, 2) := by decide +kernel
theorem dX1_countLeaving_34 : decode cX1_countLeaving 34 = .ok (.ireturn, 1) := by decide +kernel
set_option maxRecDepth 20000 in
theorem ggX1_addEquation_X1_remainder : GoodIn wsX1_addEquation wsX1_remainder := goodIn_r _ [8, 1, 9, 10, 11, 12, 13, 14, 28, 29, 30] (by decide +kernel) (by decide +kernel)
set_option maxRecDepth 20000 in
theorem gX1_addEquation_X1_remainder : GoodIn wsX1_addEquation (wsV RX1 36 RX1 yX1_remainder wsX1_remainder) := goodIn_app (goodIn_of _ (by decide +kernel)) ggX1_addEquation_X1_remainder
set_option maxRecDepth 20000 in
theorem ggX1_addEquation_X5_lowestOf : GoodIn wsX1_addEquation wsX5_lowestOf := goodIn_r _ [16, 17, 18, 19, 20, 21, 22, 23] (by decide +kernel) (by decide +kernel)
set_option maxRecDepth 20000 in
theorem gX1_addEquation_X5_lowestOf_n48 : GoodIn wsX1_addEquation (wsX5_lowestOf) := ggX1_addEquation_X5_lowestOf
set_option maxRecDepth 20000 in
theorem ggX1_addEquation_X1_knownValue : GoodIn wsX1_addEquation wsX1_knownValue := goodIn_r _ [27, 2, 9, 10, 11, 12, 13, 14, 28, 29, 30] (by decide +kernel) (by decide +kernel)
set_option maxRecDepth 20000 in
theorem gX1_addEquation_X1_knownValue : GoodIn wsX1_addEquation (wsV RX1 40 RX1 yX1_knownValue wsX1_knownValue) := goodIn_app (goodIn_of _ (by decide +kernel)) ggX1_addEquation_X1_knownValue
set_option maxRecDepth 20000 in
theorem ggX1_addEquation_X5_holds : GoodIn wsX1_addEquation wsX5_holds := goodIn_r _ [11, 12, 13, 10, 14] (by decide +kernel) (by decide +kernel)
set_option maxRecDepth 20000 in
theorem gX1_addEquation_X5_holds_n32 : GoodIn wsX1_addEquation (wsX5_holds) := ggX1_addEquation_X5_holds
theorem dX1_addEquation_0 : decode cX1_addEquation 0 = .ok (.aload_n 0, 1) := by decide +kernel
theorem dX1_addEquation_1 : decode cX1_addEquation 1 = .ok (.lload_n 1, 1) := by decide +kernel
theorem dX1_addEquation_2 : decode cX1_addEquation 2 = .ok (.invokevirtual 36, 3) := by decide +kernel
theorem dX1_addEquation_5 : decode cX1_addEquation 5 = .ok (.lstore 4, 2) := by decide +kernel
theorem dX1_addEquation_7 : decode cX1_addEquation 7 = .ok (.lload 4, 2) := by decide +kernel
theorem dX1_addEquation_9 : decode cX1_addEquation 9 = .ok (.invokestatic 48, 3) := by decide +kernel
theorem dX1_addEquation_12 : decode cX1_addEquation 12 = .ok (.istore 6, 2) := by decide +kernel
theorem dX1_addEquation_14 : decode cX1_addEquation 14 = .ok (.lload 4, 2) := by decide +kernel
theorem dX1_addEquation_16 : decode cX1_addEquation 16 = .ok (.lconst 0, 1) := by decide +kernel
theorem dX1_addEquation_17 : decode cX1_addEquation 17 = .ok (.lcmp, 1) := by decide +kernel
theorem dX1_addEquation_18 : decode cX1_addEquation 18 = .ok (.ifCond .eq 10, 3) := by decide +kernel
theorem dX1_addEquation_21 : decode cX1_addEquation 21 = .ok (.iload 6, 2) := by decide +kernel
theorem dX1_addEquation_23 : decode cX1_addEquation 23 = .ok (.bipush 38, 2) := by decide +kernel
theorem dX1_addEquation_25 : decode cX1_addEquation 25 = .ok (.if_icmp .lt 4, 3) := by decide +kernel
theorem dX1_addEquation_28 : decode cX1_addEquation 28 = .ok (.return_, 1) := by decide +kernel
theorem dX1_addEquation_29 : decode cX1_addEquation 29 = .ok (.iload_n 3, 1) := by decide +kernel
theorem dX1_addEquation_30 : decode cX1_addEquation 30 = .ok (.aload_n 0, 1) := by decide +kernel
theorem dX1_addEquation_31 : decode cX1_addEquation 31 = .ok (.lload_n 1, 1) := by decide +kernel
theorem dX1_addEquation_32 : decode cX1_addEquation 32 = .ok (.invokevirtual 40, 3) := by decide +kernel
theorem dX1_addEquation_35 : decode cX1_addEquation 35 = .ok (.ixor, 1) := by decide +kernel
theorem dX1_addEquation_36 : decode cX1_addEquation 36 = .ok (.istore 7, 2) := by decide +kernel
theorem dX1_addEquation_38 : decode cX1_addEquation 38 = .ok (.iconst 0, 1) := by decide +kernel
theorem dX1_addEquation_39 : decode cX1_addEquation 39 = .ok (.istore 8, 2) := by decide +kernel
theorem dX1_addEquation_41 : decode cX1_addEquation 41 = .ok (.iload 8, 2) := by decide +kernel
theorem dX1_addEquation_43 : decode cX1_addEquation 43 = .ok (.bipush 38, 2) := by decide +kernel
theorem dX1_addEquation_45 : decode cX1_addEquation 45 = .ok (.if_icmp .ge 48, 3) := by decide +kernel
theorem dX1_addEquation_48 : decode cX1_addEquation 48 = .ok (.aload_n 0, 1) := by decide +kernel
theorem dX1_addEquation_49 : decode cX1_addEquation 49 = .ok (.getfield 9, 3) := by decide +kernel
theorem dX1_addEquation_52 : decode cX1_addEquation 52 = .ok (.iload 8, 2) := by decide +kernel
theorem dX1_addEquation_54 : decode cX1_addEquation 54 = .ok (.laload, 1) := by decide +kernel
theorem dX1_addEquation_55 : decode cX1_addEquation 55 = .ok (.iload 6, 2) := by decide +kernel
theorem dX1_addEquation_57 : decode cX1_addEquation 57 = .ok (.invokestatic 32, 3) := by decide +kernel
theorem dX1_addEquation_60 : decode cX1_addEquation 60 = .ok (.ifCond .eq 27, 3) := by decide +kernel
theorem dX1_addEquation_63 : decode cX1_addEquation 63 = .ok (.aload_n 0, 1) := by decide +kernel
theorem dX1_addEquation_64 : decode cX1_addEquation 64 = .ok (.getfield 9, 3) := by decide +kernel
theorem dX1_addEquation_67 : decode cX1_addEquation 67 = .ok (.iload 8, 2) := by decide +kernel
theorem dX1_addEquation_69 : decode cX1_addEquation 69 = .ok (.dup2, 1) := by decide +kernel
theorem dX1_addEquation_70 : decode cX1_addEquation 70 = .ok (.laload, 1) := by decide +kernel
theorem dX1_addEquation_71 : decode cX1_addEquation 71 = .ok (.lload 4, 2) := by decide +kernel
theorem dX1_addEquation_73 : decode cX1_addEquation 73 = .ok (.lxor, 1) := by decide +kernel
theorem dX1_addEquation_74 : decode cX1_addEquation 74 = .ok (.lastore, 1) := by decide +kernel
theorem dX1_addEquation_75 : decode cX1_addEquation 75 = .ok (.aload_n 0, 1) := by decide +kernel
theorem dX1_addEquation_76 : decode cX1_addEquation 76 = .ok (.getfield 15, 3) := by decide +kernel
theorem dX1_addEquation_79 : decode cX1_addEquation 79 = .ok (.iload 8, 2) := by decide +kernel
theorem dX1_addEquation_81 : decode cX1_addEquation 81 = .ok (.dup2, 1) := by decide +kernel
theorem dX1_addEquation_82 : decode cX1_addEquation 82 = .ok (.iaload, 1) := by decide +kernel
theorem dX1_addEquation_83 : decode cX1_addEquation 83 = .ok (.iload 7, 2) := by decide +kernel
theorem dX1_addEquation_85 : decode cX1_addEquation 85 = .ok (.ixor, 1) := by decide +kernel
theorem dX1_addEquation_86 : decode cX1_addEquation 86 = .ok (.iastore, 1) := by decide +kernel
theorem dX1_addEquation_87 : decode cX1_addEquation 87 = .ok (.iinc 8 1, 3) := by decide +kernel
theorem dX1_addEquation_90 : decode cX1_addEquation 90 = .ok (.goto (-49), 3) := by decide +kernel
theorem dX1_addEquation_93 : decode cX1_addEquation 93 = .ok (.aload_n 0, 1) := by decide +kernel
theorem dX1_addEquation_94 : decode cX1_addEquation 94 = .ok (.getfield 9, 3) := by decide +kernel
theorem dX1_addEquation_97 : decode cX1_addEquation 97 = .ok (.iload 6, 2) := by decide +kernel
theorem dX1_addEquation_99 : decode cX1_addEquation 99 = .ok (.lload 4, 2) := by decide +kernel
theorem dX1_addEquation_101 : decode cX1_addEquation 101 = .ok (.lastore, 1) := by decide +kernel
theorem dX1_addEquation_102 : decode cX1_addEquation 102 = .ok (.aload_n 0, 1) := by decide +kernel
theorem dX1_addEquation_103 : decode cX1_addEquation 103 = .ok (.getfield 15, 3) := by decide +kernel
theorem dX1_addEquation_106 : decode cX1_addEquation 106 = .ok (.iload 6, 2) := by decide +kernel
theorem dX1_addEquation_108 : decode cX1_addEquation 108 = .ok (.iload 7, 2) := by decide +kernel
theorem dX1_addEquation_110 : decode cX1_addEquation 110 = .ok (.iastore, 1) := by decide +kernel
theorem dX1_addEquation_111 : decode cX1_addEquation 111 = .ok (.aload_n 0, 1) := by decide +kernel
theorem dX1_addEquation_112 : decode cX1_addEquation 112 = .ok (.dup, 1) := by decide +kernel
theorem dX1_addEquation_113 : decode cX1_addEquation 113 = .ok (.getfield 19, 3) := by decide +kernel
theorem dX1_addEquation_116 : decode cX1_addEquation 116 = .ok (.iconst 1, 1) := by decide +kernel
theorem dX1_addEquation_117 : decode cX1_addEquation 117 = .ok (.iadd, 1) := by decide +kernel
theorem dX1_addEquation_118 : decode cX1_addEquation 118 = .ok (.putfield 19, 3) := by decide +kernel
theorem dX1_addEquation_121 : decode cX1_addEquation 121 = .ok (.return_, 1) := by decide +kernel
set_option maxRecDepth 20000 in
theorem ggX1_remainderOfBlock_X5_setOf : GoodIn wsX1_remainderOfBlock wsX5_setOf := goodIn_r _ [4] (by decide +kernel) (by decide +kernel)
set_option maxRecDepth 20000 in
theorem gX1_remainderOfBlock_X5_setOf_n51 : GoodIn wsX1_remainderOfBlock (wsX5_setOf) := ggX1_remainderOfBlock_X5_setOf
theorem dX1_remainderOfBlock_0 : decode cX1_remainderOfBlock 0 = .ok (.iload_n 1, 1) := by decide +kernel
theorem dX1_remainderOfBlock_1 : decode cX1_remainderOfBlock 1 = .ok (.ifCond .lt 18, 3) := by decide +kernel
theorem dX1_remainderOfBlock_4 : decode cX1_remainderOfBlock 4 = .ok (.iload_n 1, 1) := by decide +kernel
theorem dX1_remainderOfBlock_5 : decode cX1_remainderOfBlock 5 = .ok (.bipush 38, 2) := by decide +kernel
theorem dX1_remainderOfBlock_7 : decode cX1_remainderOfBlock 7 = .ok (.if_icmp .ge 12, 3) := by decide +kernel
theorem dX1_remainderOfBlock_10 : decode cX1_remainderOfBlock 10 = .ok (.aload_n 0, 1) := by decide +kernel
theorem dX1_remainderOfBlock_11 : decode cX1_remainderOfBlock 11 = .ok (.getfield 9, 3) := by decide +kernel
theorem dX1_remainderOfBlock_14 : decode cX1_remainderOfBlock 14 = .ok (.iload_n 1, 1) := by decide +kernel
theorem dX1_remainderOfBlock_15 : decode cX1_remainderOfBlock 15 = .ok (.laload, 1) := by decide +kernel
theorem dX1_remainderOfBlock_16 : decode cX1_remainderOfBlock 16 = .ok (.goto 4, 3) := by decide +kernel
theorem dX1_remainderOfBlock_19 : decode cX1_remainderOfBlock 19 = .ok (.lconst 0, 1) := by decide +kernel
theorem dX1_remainderOfBlock_20 : decode cX1_remainderOfBlock 20 = .ok (.lstore_n 2, 1) := by decide +kernel
theorem dX1_remainderOfBlock_21 : decode cX1_remainderOfBlock 21 = .ok (.iload_n 1, 1) := by decide +kernel
theorem dX1_remainderOfBlock_22 : decode cX1_remainderOfBlock 22 = .ok (.invokestatic 51, 3) := by decide +kernel
theorem dX1_remainderOfBlock_25 : decode cX1_remainderOfBlock 25 = .ok (.lload_n 2, 1) := by decide +kernel
theorem dX1_remainderOfBlock_26 : decode cX1_remainderOfBlock 26 = .ok (.lxor, 1) := by decide +kernel
theorem dX1_remainderOfBlock_27 : decode cX1_remainderOfBlock 27 = .ok (.lreturn, 1) := by decide +kernel
theorem dX2_init_0 : decode cX2_init 0 = .ok (.aload_n 0, 1) := by decide +kernel
theorem dX2_init_1 : decode cX2_init 1 = .ok (.invokespecial 3, 3) := by decide +kernel
theorem dX2_init_4 : decode cX2_init 4 = .ok (.aload_n 0, 1) := by decide +kernel
theorem dX2_init_5 : decode cX2_init 5 = .ok (.bipush 126, 2) := by decide +kernel
theorem dX2_init_7 : decode cX2_init 7 = .ok (.newarray .long, 2) := by decide +kernel
theorem dX2_init_9 : decode cX2_init 9 = .ok (.putfield 9, 3) := by decide +kernel
theorem dX2_init_12 : decode cX2_init 12 = .ok (.aload_n 0, 1) := by decide +kernel
theorem dX2_init_13 : decode cX2_init 13 = .ok (.bipush 38, 2) := by decide +kernel
theorem dX2_init_15 : decode cX2_init 15 = .ok (.newarray .int, 2) := by decide +kernel
theorem dX2_init_17 : decode cX2_init 17 = .ok (.putfield 15, 3) := by decide +kernel
theorem dX2_init_20 : decode cX2_init 20 = .ok (.aload_n 0, 1) := by decide +kernel
theorem dX2_init_21 : decode cX2_init 21 = .ok (.bipush 38, 2) := by decide +kernel
theorem dX2_init_23 : decode cX2_init 23 = .ok (.newarray .int, 2) := by decide +kernel
theorem dX2_init_25 : decode cX2_init 25 = .ok (.putfield 19, 3) := by decide +kernel
theorem dX2_init_28 : decode cX2_init 28 = .ok (.return_, 1) := by decide +kernel
set_option maxRecDepth 20000 in
theorem ggX2_clear_J7_fill_53178 : GoodIn wsX2_clear wsJ7_fill_53178 := goodIn_r _ [8] (by decide +kernel) (by decide +kernel)
set_option maxRecDepth 20000 in
theorem gX2_clear_J7_fill_53178 : GoodIn wsX2_clear (va_wsS RX2 33 yJ7_fill_53178 wsJ7_fill_53178) := goodIn_app (goodIn_of _ (by decide +kernel)) ggX2_clear_J7_fill_53178
theorem dX2_clear_0 : decode cX2_clear 0 = .ok (.aload_n 0, 1) := by decide +kernel
theorem dX2_clear_1 : decode cX2_clear 1 = .ok (.iconst 0, 1) := by decide +kernel
theorem dX2_clear_2 : decode cX2_clear 2 = .ok (.putfield 22, 3) := by decide +kernel
theorem dX2_clear_5 : decode cX2_clear 5 = .ok (.aload_n 0, 1) := by decide +kernel
theorem dX2_clear_6 : decode cX2_clear 6 = .ok (.iconst 0, 1) := by decide +kernel
theorem dX2_clear_7 : decode cX2_clear 7 = .ok (.putfield 26, 3) := by decide +kernel
theorem dX2_clear_10 : decode cX2_clear 10 = .ok (.aload_n 0, 1) := by decide +kernel
theorem dX2_clear_11 : decode cX2_clear 11 = .ok (.lconst 0, 1) := by decide +kernel
theorem dX2_clear_12 : decode cX2_clear 12 = .ok (.putfield 29, 3) := by decide +kernel
theorem dX2_clear_15 : decode cX2_clear 15 = .ok (.aload_n 0, 1) := by decide +kernel
theorem dX2_clear_16 : decode cX2_clear 16 = .ok (.getfield 19, 3) := by decide +kernel
theorem dX2_clear_19 : decode cX2_clear 19 = .ok (.iconst (-1), 1) := by decide +kernel
theorem dX2_clear_20 : decode cX2_clear 20 = .ok (.invokestatic 33, 3) := by decide +kernel
theorem dX2_clear_23 : decode cX2_clear 23 = .ok (.return_, 1) := by decide +kernel
theorem dX2_addEquation_0 : decode cX2_addEquation 0 = .ok (.aload_n 0, 1) := by decide +kernel
theorem dX2_addEquation_1 : decode cX2_addEquation 1 = .ok (.getfield 22, 3) := by decide +kernel
theorem dX2_addEquation_4 : decode cX2_addEquation 4 = .ok (.ifCond .lt 35, 3) := by decide +kernel
theorem dX2_addEquation_7 : decode cX2_addEquation 7 = .ok (.aload_n 0, 1) := by decide +kernel
theorem dX2_addEquation_8 : decode cX2_addEquation 8 = .ok (.getfield 22, 3) := by decide +kernel
theorem dX2_addEquation_11 : decode cX2_addEquation 11 = .ok (.aload_n 0, 1) := by decide +kernel
theorem dX2_addEquation_12 : decode cX2_addEquation 12 = .ok (.getfield 9, 3) := by decide +kernel
theorem dX2_addEquation_15 : decode cX2_addEquation 15 = .ok (.arraylength, 1) := by decide +kernel
theorem dX2_addEquation_16 : decode cX2_addEquation 16 = .ok (.if_icmp .ge 23, 3) := by decide +kernel
theorem dX2_addEquation_19 : decode cX2_addEquation 19 = .ok (.aload_n 0, 1) := by decide +kernel
theorem dX2_addEquation_20 : decode cX2_addEquation 20 = .ok (.getfield 9, 3) := by decide +kernel
theorem dX2_addEquation_23 : decode cX2_addEquation 23 = .ok (.aload_n 0, 1) := by decide +kernel
theorem dX2_addEquation_24 : decode cX2_addEquation 24 = .ok (.getfield 22, 3) := by decide +kernel
theorem dX2_addEquation_27 : decode cX2_addEquation 27 = .ok (.lload_n 1, 1) := by decide +kernel
theorem dX2_addEquation_28 : decode cX2_addEquation 28 = .ok (.lastore, 1) := by decide +kernel
theorem dX2_addEquation_29 : decode cX2_addEquation 29 = .ok (.aload_n 0, 1) := by decide +kernel
theorem dX2_addEquation_30 : decode cX2_addEquation 30 = .ok (.dup, 1) := by decide +kernel
theorem dX2_addEquation_31 : decode cX2_addEquation 31 = .ok (.getfield 22, 3) := by decide +kernel
theorem dX2_addEquation_34 : decode cX2_addEquation 34 = .ok (.iconst 1, 1) := by decide +kernel
theorem dX2_addEquation_35 : decode cX2_addEquation 35 = .ok (.iadd, 1) := by decide +kernel
theorem dX2_addEquation_36 : decode cX2_addEquation 36 = .ok (.putfield 22, 3) := by decide +kernel
theorem dX2_addEquation_39 : decode cX2_addEquation 39 = .ok (.return_, 1) := by decide +kernel
set_option maxRecDepth 20000 in
theorem ggX2_peelOn_X2_lowestReady : GoodIn wsX2_peelOn wsX2_lowestReady := goodIn_r _ [6, 7, 8, 9, 10, 11, 12, 13, 14, 15, 16, 17, 30, 31, 32, 33, 34, 35] (by decide +kernel) (by decide +kernel)
set_option maxRecDepth 20000 in
theorem gX2_peelOn_X2_lowestReady : GoodIn wsX2_peelOn (wsV RX2 39 RX2 yX2_lowestReady wsX2_lowestReady) := goodIn_app (goodIn_of _ (by decide +kernel)) ggX2_peelOn_X2_lowestReady
set_option maxRecDepth 20000 in
theorem ggX2_peelOn_X2_peelWith : GoodIn wsX2_peelOn wsX2_peelWith := goodIn_r _ [21, 8, 9, 10, 1, 22, 23, 24, 25, 26, 27, 12, 13, 14, 15, 16, 17, 28, 29, 30, 31, 32, 33, 34, 35] (by decide +kernel) (by decide +kernel)
set_option maxRecDepth 20000 in
theorem gX2_peelOn_X2_peelWith : GoodIn wsX2_peelOn (wsV RX2 43 RX2 yX2_peelWith wsX2_peelWith) := goodIn_app (goodIn_of _ (by decide +kernel)) ggX2_peelOn_X2_peelWith
theorem dX2_peelOn_0 : decode cX2_peelOn 0 = .ok (.aload_n 0, 1) := by decide +kernel
theorem dX2_peelOn_1 : decode cX2_peelOn 1 = .ok (.getfield 26, 3) := by decide +kernel
theorem dX2_peelOn_4 : decode cX2_peelOn 4 = .ok (.istore_n 1, 1) := by decide +kernel
theorem dX2_peelOn_5 : decode cX2_peelOn 5 = .ok (.iconst 0, 1) := by decide +kernel
theorem dX2_peelOn_6 : decode cX2_peelOn 6 = .ok (.istore_n 2, 1) := by decide +kernel
theorem dX2_peelOn_7 : decode cX2_peelOn 7 = .ok (.iload_n 2, 1) := by decide +kernel
theorem dX2_peelOn_8 : decode cX2_peelOn 8 = .ok (.bipush 38, 2) := by decide +kernel
theorem dX2_peelOn_10 : decode cX2_peelOn 10 = .ok (.if_icmp .ge 27, 3) := by decide +kernel
theorem dX2_peelOn_13 : decode cX2_peelOn 13 = .ok (.aload_n 0, 1) := by decide +kernel
theorem dX2_peelOn_14 : decode cX2_peelOn 14 = .ok (.invokevirtual 39, 3) := by decide +kernel
theorem dX2_peelOn_17 : decode cX2_peelOn 17 = .ok (.istore_n 3, 1) := by decide +kernel
theorem dX2_peelOn_18 : decode cX2_peelOn 18 = .ok (.iload_n 3, 1) := by decide +kernel
theorem dX2_peelOn_19 : decode cX2_peelOn 19 = .ok (.iconst (-1), 1) := by decide +kernel
theorem dX2_peelOn_20 : decode cX2_peelOn 20 = .ok (.if_icmp .ne 6, 3) := by decide +kernel
theorem dX2_peelOn_23 : decode cX2_peelOn 23 = .ok (.goto 14, 3) := by decide +kernel
theorem dX2_peelOn_26 : decode cX2_peelOn 26 = .ok (.aload_n 0, 1) := by decide +kernel
theorem dX2_peelOn_27 : decode cX2_peelOn 27 = .ok (.iload_n 3, 1) := by decide +kernel
theorem dX2_peelOn_28 : decode cX2_peelOn 28 = .ok (.invokevirtual 43, 3) := by decide +kernel
theorem dX2_peelOn_31 : decode cX2_peelOn 31 = .ok (.iinc 2 1, 3) := by decide +kernel
theorem dX2_peelOn_34 : decode cX2_peelOn 34 = .ok (.goto (-27), 3) := by decide +kernel
theorem dX2_peelOn_37 : decode cX2_peelOn 37 = .ok (.aload_n 0, 1) := by decide +kernel
theorem dX2_peelOn_38 : decode cX2_peelOn 38 = .ok (.getfield 26, 3) := by decide +kernel
theorem dX2_peelOn_41 : decode cX2_peelOn 41 = .ok (.iload_n 1, 1) := by decide +kernel
theorem dX2_peelOn_42 : decode cX2_peelOn 42 = .ok (.isub, 1) := by decide +kernel
theorem dX2_peelOn_43 : decode cX2_peelOn 43 = .ok (.ireturn, 1) := by decide +kernel
theorem dX2_equationCount_0 : decode cX2_equationCount 0 = .ok (.aload_n 0, 1) := by decide +kernel
theorem dX2_equationCount_1 : decode cX2_equationCount 1 = .ok (.getfield 22, 3) := by decide +kernel
theorem dX2_equationCount_4 : decode cX2_equationCount 4 = .ok (.ireturn, 1) := by decide +kernel
theorem dX2_peeledCount_0 : decode cX2_peeledCount 0 = .ok (.aload_n 0, 1) := by decide +kernel
theorem dX2_peeledCount_1 : decode cX2_peeledCount 1 = .ok (.getfield 26, 3) := by decide +kernel
theorem dX2_peeledCount_4 : decode cX2_peeledCount 4 = .ok (.ireturn, 1) := by decide +kernel
theorem dX2_peeledInPlace_0 : decode cX2_peeledInPlace 0 = .ok (.iload_n 1, 1) := by decide +kernel
theorem dX2_peeledInPlace_1 : decode cX2_peeledInPlace 1 = .ok (.ifCond .lt 21, 3) := by decide +kernel
theorem dX2_peeledInPlace_4 : decode cX2_peeledInPlace 4 = .ok (.iload_n 1, 1) := by decide +kernel
theorem dX2_peeledInPlace_5 : decode cX2_peeledInPlace 5 = .ok (.aload_n 0, 1) := by decide +kernel
theorem dX2_peeledInPlace_6 : decode cX2_peeledInPlace 6 = .ok (.getfield 15, 3) := by decide +kernel
theorem dX2_peeledInPlace_9 : decode cX2_peeledInPlace 9 = .ok (.arraylength, 1) := by decide +kernel
theorem dX2_peeledInPlace_10 : decode cX2_peeledInPlace 10 = .ok (.if_icmp .ge 12, 3) := by decide +kernel
theorem dX2_peeledInPlace_13 : decode cX2_peeledInPlace 13 = .ok (.aload_n 0, 1) := by decide +kernel
theorem dX2_peeledInPlace_14 : decode cX2_peeledInPlace 14 = .ok (.getfield 15, 3) := by decide +kernel
theorem dX2_peeledInPlace_17 : decode cX2_peeledInPlace 17 = .ok (.iload_n 1, 1) := by decide +kernel
theorem dX2_peeledInPlace_18 : decode cX2_peeledInPlace 18 = .ok (.iaload, 1) := by decide +kernel
theorem dX2_peeledInPlace_19 : decode cX2_peeledInPlace 19 = .ok (.goto 4, 3) := by decide +kernel
theorem dX2_peeledInPlace_22 : decode cX2_peeledInPlace 22 = .ok (.iconst (-1), 1) := by decide +kernel
theorem dX2_peeledInPlace_23 : decode cX2_peeledInPlace 23 = .ok (.ireturn, 1) := by decide +kernel
theorem dX2_equationThatPeeled_0 : decode cX2_equationThatPeeled 0 = .ok (.iload_n 1, 1) := by decide +kernel
theorem dX2_equationThatPeeled_1 : decode cX2_equationThatPeeled 1 = .ok (.ifCond .lt 21, 3) := by decide +kernel
theorem dX2_equationThatPeeled_4 : decode cX2_equationThatPeeled 4 = .ok (.iload_n 1, 1) := by decide +kernel
theorem dX2_equationThatPeeled_5 : decode cX2_equationThatPeeled 5 = .ok (.aload_n 0, 1) := by decide +kernel
theorem dX2_equationThatPeeled_6 : decode cX2_equationThatPeeled 6 = .ok (.getfield 19, 3) := by decide +kernel
theorem dX2_equationThatPeeled_9 : decode cX2_equationThatPeeled 9 = .ok (.arraylength, 1) := by decide +kernel
theorem dX2_equationThatPeeled_10 : decode cX2_equationThatPeeled 10 = .ok (.if_icmp .ge 12, 3) := by decide +kernel
theorem dX2_equationThatPeeled_13 : decode cX2_equationThatPeeled 13 = .ok (.aload_n 0, 1) := by decide +kernel
theorem dX2_equationThatPeeled_14 : decode cX2_equationThatPeeled 14 = .ok (.getfield 19, 3) := by decide +kernel
theorem dX2_equationThatPeeled_17 : decode cX2_equationThatPeeled 17 = .ok (.iload_n 1, 1) := by decide +kernel
theorem dX2_equationThatPeeled_18 : decode cX2_equationThatPeeled 18 = .ok (.iaload, 1) := by decide +kernel
theorem dX2_equationThatPeeled_19 : decode cX2_equationThatPeeled 19 = .ok (.goto 4, 3) := by decide +kernel
theorem dX2_equationThatPeeled_22 : decode cX2_equationThatPeeled 22 = .ok (.iconst (-1), 1) := by decide +kernel
theorem dX2_equationThatPeeled_23 : decode cX2_equationThatPeeled 23 = .ok (.ireturn, 1) := by decide +kernel
set_option maxRecDepth 20000 in
theorem ggX2_lowestReady_J13_bitCount_95d88 : GoodIn wsX2_lowestReady wsJ13_bitCount_95d88 := goodIn_r _ [8, 9, 10, 11] (by decide +kernel) (by decide +kernel)
set_option maxRecDepth 20000 in
theorem gX2_lowestReady_J13_bitCount_95d88 : GoodIn wsX2_lowestReady (va_wsS RX2 49 yJ13_bitCount_95d88 wsJ13_bitCount_95d88) := goodIn_app (goodIn_of _ (by decide +kernel)) ggX2_lowestReady_J13_bitCount_95d88
theorem dX2_lowestReady_0 : decode cX2_lowestReady 0 = .ok (.iconst 0, 1) := by decide +kernel
theorem dX2_lowestReady_1 : decode cX2_lowestReady 1 = .ok (.istore_n 1, 1) := by decide +kernel
theorem dX2_lowestReady_2 : decode cX2_lowestReady 2 = .ok (.iload_n 1, 1) := by decide +kernel
theorem dX2_lowestReady_3 : decode cX2_lowestReady 3 = .ok (.aload_n 0, 1) := by decide +kernel
theorem dX2_lowestReady_4 : decode cX2_lowestReady 4 = .ok (.getfield 22, 3) := by decide +kernel
theorem dX2_lowestReady_7 : decode cX2_lowestReady 7 = .ok (.if_icmp .ge 42, 3) := by decide +kernel
theorem dX2_lowestReady_10 : decode cX2_lowestReady 10 = .ok (.iload_n 1, 1) := by decide +kernel
theorem dX2_lowestReady_11 : decode cX2_lowestReady 11 = .ok (.aload_n 0, 1) := by decide +kernel
theorem dX2_lowestReady_12 : decode cX2_lowestReady 12 = .ok (.getfield 9, 3) := by decide +kernel
theorem dX2_lowestReady_15 : decode cX2_lowestReady 15 = .ok (.arraylength, 1) := by decide +kernel
theorem dX2_lowestReady_16 : decode cX2_lowestReady 16 = .ok (.if_icmp .ge 33, 3) := by decide +kernel
theorem dX2_lowestReady_19 : decode cX2_lowestReady 19 = .ok (.aload_n 0, 1) := by decide +kernel
theorem dX2_lowestReady_20 : decode cX2_lowestReady 20 = .ok (.getfield 9, 3) := by decide +kernel
theorem dX2_lowestReady_23 : decode cX2_lowestReady 23 = .ok (.iload_n 1, 1) := by decide +kernel
theorem dX2_lowestReady_24 : decode cX2_lowestReady 24 = .ok (.laload, 1) := by decide +kernel
theorem dX2_lowestReady_25 : decode cX2_lowestReady 25 = .ok (.aload_n 0, 1) := by decide +kernel
theorem dX2_lowestReady_26 : decode cX2_lowestReady 26 = .ok (.getfield 29, 3) := by decide +kernel
theorem dX2_lowestReady_29 : decode cX2_lowestReady 29 = .ok (.ldc2_w 47, 3) := by decide +kernel
theorem dX2_lowestReady_32 : decode cX2_lowestReady 32 = .ok (.lxor, 1) := by decide +kernel
theorem dX2_lowestReady_33 : decode cX2_lowestReady 33 = .ok (.land, 1) := by decide +kernel
theorem dX2_lowestReady_34 : decode cX2_lowestReady 34 = .ok (.invokestatic 49, 3) := by decide +kernel
theorem dX2_lowestReady_37 : decode cX2_lowestReady 37 = .ok (.iconst 1, 1) := by decide +kernel
theorem dX2_lowestReady_38 : decode cX2_lowestReady 38 = .ok (.if_icmp .ne 5, 3) := by decide +kernel
theorem dX2_lowestReady_41 : decode cX2_lowestReady 41 = .ok (.iload_n 1, 1) := by decide +kernel
theorem dX2_lowestReady_42 : decode cX2_lowestReady 42 = .ok (.ireturn, 1) := by decide +kernel
theorem dX2_lowestReady_43 : decode cX2_lowestReady 43 = .ok (.iinc 1 1, 3) := by decide +kernel
theorem dX2_lowestReady_46 : decode cX2_lowestReady 46 = .ok (.goto (-44), 3) := by decide +kernel
theorem dX2_lowestReady_49 : decode cX2_lowestReady 49 = .ok (.iconst (-1), 1) := by decide +kernel
theorem dX2_lowestReady_50 : decode cX2_lowestReady 50 = .ok (.ireturn, 1) := by decide +kernel
set_option maxRecDepth 20000 in
theorem ggX2_peelWith_X5_lowestOf : GoodIn wsX2_peelWith wsX5_lowestOf := goodIn_r _ [9, 10, 11, 12, 13, 14, 15, 16] (by decide +kernel) (by decide +kernel)
set_option maxRecDepth 20000 in
theorem gX2_peelWith_X5_lowestOf_n55 : GoodIn wsX2_peelWith (wsX5_lowestOf) := ggX2_peelWith_X5_lowestOf
set_option maxRecDepth 20000 in
theorem ggX2_peelWith_X5_setOf : GoodIn wsX2_peelWith wsX5_setOf := goodIn_r _ [18] (by decide +kernel) (by decide +kernel)
set_option maxRecDepth 20000 in
theorem gX2_peelWith_X5_setOf_n58 : GoodIn wsX2_peelWith (wsX5_setOf) := ggX2_peelWith_X5_setOf
theorem dX2_peelWith_0 : decode cX2_peelWith 0 = .ok (.iload_n 1, 1) := by decide +kernel
theorem dX2_peelWith_1 : decode cX2_peelWith 1 = .ok (.ifCond .lt 12, 3) := by decide +kernel
theorem dX2_peelWith_4 : decode cX2_peelWith 4 = .ok (.iload_n 1, 1) := by decide +kernel
theorem dX2_peelWith_5 : decode cX2_peelWith 5 = .ok (.aload_n 0, 1) := by decide +kernel
theorem dX2_peelWith_6 : decode cX2_peelWith 6 = .ok (.getfield 9, 3) := by decide +kernel
theorem dX2_peelWith_9 : decode cX2_peelWith 9 = .ok (.arraylength, 1) := by decide +kernel
theorem dX2_peelWith_10 : decode cX2_peelWith 10 = .ok (.if_icmp .lt 4, 3) := by decide +kernel
theorem dX2_peelWith_13 : decode cX2_peelWith 13 = .ok (.return_, 1) := by decide +kernel
theorem dX2_peelWith_14 : decode cX2_peelWith 14 = .ok (.aload_n 0, 1) := by decide +kernel
theorem dX2_peelWith_15 : decode cX2_peelWith 15 = .ok (.getfield 9, 3) := by decide +kernel
theorem dX2_peelWith_18 : decode cX2_peelWith 18 = .ok (.iload_n 1, 1) := by decide +kernel
theorem dX2_peelWith_19 : decode cX2_peelWith 19 = .ok (.laload, 1) := by decide +kernel
theorem dX2_peelWith_20 : decode cX2_peelWith 20 = .ok (.aload_n 0, 1) := by decide +kernel
theorem dX2_peelWith_21 : decode cX2_peelWith 21 = .ok (.getfield 29, 3) := by decide +kernel
theorem dX2_peelWith_24 : decode cX2_peelWith 24 = .ok (.ldc2_w 47, 3) := by decide +kernel
theorem dX2_peelWith_27 : decode cX2_peelWith 27 = .ok (.lxor, 1) := by decide +kernel
theorem dX2_peelWith_28 : decode cX2_peelWith 28 = .ok (.land, 1) := by decide +kernel
theorem dX2_peelWith_29 : decode cX2_peelWith 29 = .ok (.invokestatic 55, 3) := by decide +kernel
theorem dX2_peelWith_32 : decode cX2_peelWith 32 = .ok (.istore_n 2, 1) := by decide +kernel
theorem dX2_peelWith_33 : decode cX2_peelWith 33 = .ok (.iload_n 2, 1) := by decide +kernel
theorem dX2_peelWith_34 : decode cX2_peelWith 34 = .ok (.bipush 38, 2) := by decide +kernel
theorem dX2_peelWith_36 : decode cX2_peelWith 36 = .ok (.if_icmp .ge 19, 3) := by decide +kernel
theorem dX2_peelWith_39 : decode cX2_peelWith 39 = .ok (.aload_n 0, 1) := by decide +kernel
theorem dX2_peelWith_40 : decode cX2_peelWith 40 = .ok (.getfield 26, 3) := by decide +kernel
theorem dX2_peelWith_43 : decode cX2_peelWith 43 = .ok (.ifCond .lt 12, 3) := by decide +kernel
theorem dX2_peelWith_46 : decode cX2_peelWith 46 = .ok (.aload_n 0, 1) := by decide +kernel
theorem dX2_peelWith_47 : decode cX2_peelWith 47 = .ok (.getfield 26, 3) := by decide +kernel
theorem dX2_peelWith_50 : decode cX2_peelWith 50 = .ok (.bipush 38, 2) := by decide +kernel
theorem dX2_peelWith_52 : decode cX2_peelWith 52 = .ok (.if_icmp .lt 4, 3) := by decide +kernel
theorem dX2_peelWith_55 : decode cX2_peelWith 55 = .ok (.return_, 1) := by decide +kernel
theorem dX2_peelWith_56 : decode cX2_peelWith 56 = .ok (.aload_n 0, 1) := by decide +kernel
theorem dX2_peelWith_57 : decode cX2_peelWith 57 = .ok (.getfield 15, 3) := by decide +kernel
theorem dX2_peelWith_60 : decode cX2_peelWith 60 = .ok (.aload_n 0, 1) := by decide +kernel
theorem dX2_peelWith_61 : decode cX2_peelWith 61 = .ok (.getfield 26, 3) := by decide +kernel
theorem dX2_peelWith_64 : decode cX2_peelWith 64 = .ok (.iload_n 2, 1) := by decide +kernel
theorem dX2_peelWith_65 : decode cX2_peelWith 65 = .ok (.iastore, 1) := by decide +kernel
theorem dX2_peelWith_66 : decode cX2_peelWith 66 = .ok (.aload_n 0, 1) := by decide +kernel
theorem dX2_peelWith_67 : decode cX2_peelWith 67 = .ok (.getfield 19, 3) := by decide +kernel
theorem dX2_peelWith_70 : decode cX2_peelWith 70 = .ok (.iload_n 2, 1) := by decide +kernel
theorem dX2_peelWith_71 : decode cX2_peelWith 71 = .ok (.iload_n 1, 1) := by decide +kernel
theorem dX2_peelWith_72 : decode cX2_peelWith 72 = .ok (.iastore, 1) := by decide +kernel
theorem dX2_peelWith_73 : decode cX2_peelWith 73 = .ok (.aload_n 0, 1) := by decide +kernel
theorem dX2_peelWith_74 : decode cX2_peelWith 74 = .ok (.dup, 1) := by decide +kernel
theorem dX2_peelWith_75 : decode cX2_peelWith 75 = .ok (.getfield 29, 3) := by decide +kernel
theorem dX2_peelWith_78 : decode cX2_peelWith 78 = .ok (.iload_n 2, 1) := by decide +kernel
theorem dX2_peelWith_79 : decode cX2_peelWith 79 = .ok (.invokestatic 58, 3) := by decide +kernel
theorem dX2_peelWith_82 : decode cX2_peelWith 82 = .ok (.lor, 1) := by decide +kernel
theorem dX2_peelWith_83 : decode cX2_peelWith 83 = .ok (.putfield 29, 3) := by decide +kernel
theorem dX2_peelWith_86 : decode cX2_peelWith 86 = .ok (.aload_n 0, 1) := by decide +kernel
theorem dX2_peelWith_87 : decode cX2_peelWith 87 = .ok (.dup, 1) := by decide +kernel
theorem dX2_peelWith_88 : decode cX2_peelWith 88 = .ok (.getfield 26, 3) := by decide +kernel
theorem dX2_peelWith_91 : decode cX2_peelWith 91 = .ok (.iconst 1, 1) := by decide +kernel
theorem dX2_peelWith_92 : decode cX2_peelWith 92 = .ok (.iadd, 1) := by decide +kernel
theorem dX2_peelWith_93 : decode cX2_peelWith 93 = .ok (.putfield 26, 3) := by decide +kernel
theorem dX2_peelWith_96 : decode cX2_peelWith 96 = .ok (.return_, 1) := by decide +kernel
theorem dX3_init_0 : decode cX3_init 0 = .ok (.aload_n 0, 1) := by decide +kernel
theorem dX3_init_1 : decode cX3_init 1 = .ok (.invokespecial 3, 3) := by decide +kernel
theorem dX3_init_4 : decode cX3_init 4 = .ok (.aload_n 0, 1) := by decide +kernel
theorem dX3_init_5 : decode cX3_init 5 = .ok (.bipush 32, 2) := by decide +kernel
theorem dX3_init_7 : decode cX3_init 7 = .ok (.newarray .int, 2) := by decide +kernel
theorem dX3_init_9 : decode cX3_init 9 = .ok (.putfield 9, 3) := by decide +kernel
theorem dX3_init_12 : decode cX3_init 12 = .ok (.return_, 1) := by decide +kernel
set_option maxRecDepth 20000 in
theorem ggX3_begin_J7_fill_53178 : GoodIn wsX3_begin wsJ7_fill_53178 := goodIn_r _ [7] (by decide +kernel) (by decide +kernel)
set_option maxRecDepth 20000 in
theorem gX3_begin_J7_fill_53178 : GoodIn wsX3_begin (va_wsS RX3 22 yJ7_fill_53178 wsJ7_fill_53178) := goodIn_app (goodIn_of _ (by decide +kernel)) ggX3_begin_J7_fill_53178
theorem dX3_begin_0 : decode cX3_begin 0 = .ok (.aload_n 0, 1) := by decide +kernel
theorem dX3_begin_1 : decode cX3_begin 1 = .ok (.iload_n 1, 1) := by decide +kernel
theorem dX3_begin_2 : decode cX3_begin 2 = .ok (.putfield 15, 3) := by decide +kernel
theorem dX3_begin_5 : decode cX3_begin 5 = .ok (.aload_n 0, 1) := by decide +kernel
theorem dX3_begin_6 : decode cX3_begin 6 = .ok (.iload_n 2, 1) := by decide +kernel
theorem dX3_begin_7 : decode cX3_begin 7 = .ok (.putfield 19, 3) := by decide +kernel
theorem dX3_begin_10 : decode cX3_begin 10 = .ok (.aload_n 0, 1) := by decide +kernel
theorem dX3_begin_11 : decode cX3_begin 11 = .ok (.getfield 9, 3) := by decide +kernel
theorem dX3_begin_14 : decode cX3_begin 14 = .ok (.iconst 0, 1) := by decide +kernel
theorem dX3_begin_15 : decode cX3_begin 15 = .ok (.invokestatic 22, 3) := by decide +kernel
theorem dX3_begin_18 : decode cX3_begin 18 = .ok (.return_, 1) := by decide +kernel
theorem dX3_sourceCount_0 : decode cX3_sourceCount 0 = .ok (.aload_n 0, 1) := by decide +kernel
theorem dX3_sourceCount_1 : decode cX3_sourceCount 1 = .ok (.getfield 15, 3) := by decide +kernel
theorem dX3_sourceCount_4 : decode cX3_sourceCount 4 = .ok (.ireturn, 1) := by decide +kernel
theorem dX3_parityCount_0 : decode cX3_parityCount 0 = .ok (.aload_n 0, 1) := by decide +kernel
theorem dX3_parityCount_1 : decode cX3_parityCount 1 = .ok (.getfield 19, 3) := by decide +kernel
theorem dX3_parityCount_4 : decode cX3_parityCount 4 = .ok (.ireturn, 1) := by decide +kernel
theorem dX3_blockCount_0 : decode cX3_blockCount 0 = .ok (.aload_n 0, 1) := by decide +kernel
theorem dX3_blockCount_1 : decode cX3_blockCount 1 = .ok (.getfield 15, 3) := by decide +kernel
theorem dX3_blockCount_4 : decode cX3_blockCount 4 = .ok (.aload_n 0, 1) := by decide +kernel
theorem dX3_blockCount_5 : decode cX3_blockCount 5 = .ok (.getfield 19, 3) := by decide +kernel
theorem dX3_blockCount_8 : decode cX3_blockCount 8 = .ok (.iadd, 1) := by decide +kernel
theorem dX3_blockCount_9 : decode cX3_blockCount 9 = .ok (.ireturn, 1) := by decide +kernel
theorem dX3_change_0 : decode cX3_change 0 = .ok (.iload_n 1, 1) := by decide +kernel
theorem dX3_change_1 : decode cX3_change 1 = .ok (.ifCond .lt 19, 3) := by decide +kernel
theorem dX3_change_4 : decode cX3_change 4 = .ok (.iload_n 1, 1) := by decide +kernel
theorem dX3_change_5 : decode cX3_change 5 = .ok (.aload_n 0, 1) := by decide +kernel
theorem dX3_change_6 : decode cX3_change 6 = .ok (.getfield 9, 3) := by decide +kernel
theorem dX3_change_9 : decode cX3_change 9 = .ok (.arraylength, 1) := by decide +kernel
theorem dX3_change_10 : decode cX3_change 10 = .ok (.if_icmp .ge 10, 3) := by decide +kernel
theorem dX3_change_13 : decode cX3_change 13 = .ok (.aload_n 0, 1) := by decide +kernel
theorem dX3_change_14 : decode cX3_change 14 = .ok (.getfield 9, 3) := by decide +kernel
theorem dX3_change_17 : decode cX3_change 17 = .ok (.iload_n 1, 1) := by decide +kernel
theorem dX3_change_18 : decode cX3_change 18 = .ok (.iload_n 2, 1) := by decide +kernel
theorem dX3_change_19 : decode cX3_change 19 = .ok (.iastore, 1) := by decide +kernel
theorem dX3_change_20 : decode cX3_change 20 = .ok (.return_, 1) := by decide +kernel
set_option maxRecDepth 20000 in
theorem ggX3_coveredBy_X5_setOf : GoodIn wsX3_coveredBy wsX5_setOf := goodIn_r _ [4] (by decide +kernel) (by decide +kernel)
set_option maxRecDepth 20000 in
theorem gX3_coveredBy_X5_setOf_n28 : GoodIn wsX3_coveredBy (wsX5_setOf) := ggX3_coveredBy_X5_setOf
theorem dX3_coveredBy_0 : decode cX3_coveredBy 0 = .ok (.lconst 0, 1) := by decide +kernel
theorem dX3_coveredBy_1 : decode cX3_coveredBy 1 = .ok (.lstore_n 2, 1) := by decide +kernel
theorem dX3_coveredBy_2 : decode cX3_coveredBy 2 = .ok (.iconst 0, 1) := by decide +kernel
theorem dX3_coveredBy_3 : decode cX3_coveredBy 3 = .ok (.istore 4, 2) := by decide +kernel
theorem dX3_coveredBy_5 : decode cX3_coveredBy 5 = .ok (.iload 4, 2) := by decide +kernel
theorem dX3_coveredBy_7 : decode cX3_coveredBy 7 = .ok (.aload_n 0, 1) := by decide +kernel
theorem dX3_coveredBy_8 : decode cX3_coveredBy 8 = .ok (.getfield 15, 3) := by decide +kernel
theorem dX3_coveredBy_11 : decode cX3_coveredBy 11 = .ok (.if_icmp .ge 28, 3) := by decide +kernel
theorem dX3_coveredBy_14 : decode cX3_coveredBy 14 = .ok (.iload 4, 2) := by decide +kernel
theorem dX3_coveredBy_16 : decode cX3_coveredBy 16 = .ok (.iconst 1, 1) := by decide +kernel
theorem dX3_coveredBy_17 : decode cX3_coveredBy 17 = .ok (.iadd, 1) := by decide +kernel
theorem dX3_coveredBy_18 : decode cX3_coveredBy 18 = .ok (.iload_n 1, 1) := by decide +kernel
theorem dX3_coveredBy_19 : decode cX3_coveredBy 19 = .ok (.ishr, 1) := by decide +kernel
theorem dX3_coveredBy_20 : decode cX3_coveredBy 20 = .ok (.iconst 1, 1) := by decide +kernel
theorem dX3_coveredBy_21 : decode cX3_coveredBy 21 = .ok (.iand, 1) := by decide +kernel
theorem dX3_coveredBy_22 : decode cX3_coveredBy 22 = .ok (.ifCond .eq 11, 3) := by decide +kernel
theorem dX3_coveredBy_25 : decode cX3_coveredBy 25 = .ok (.lload_n 2, 1) := by decide +kernel
theorem dX3_coveredBy_26 : decode cX3_coveredBy 26 = .ok (.iload 4, 2) := by decide +kernel
theorem dX3_coveredBy_28 : decode cX3_coveredBy 28 = .ok (.invokestatic 28, 3) := by decide +kernel
theorem dX3_coveredBy_31 : decode cX3_coveredBy 31 = .ok (.lor, 1) := by decide +kernel
theorem dX3_coveredBy_32 : decode cX3_coveredBy 32 = .ok (.lstore_n 2, 1) := by decide +kernel
theorem dX3_coveredBy_33 : decode cX3_coveredBy 33 = .ok (.iinc 4 1, 3) := by decide +kernel
theorem dX3_coveredBy_36 : decode cX3_coveredBy 36 = .ok (.goto (-31), 3) := by decide +kernel
theorem dX3_coveredBy_39 : decode cX3_coveredBy 39 = .ok (.lload_n 2, 1) := by decide +kernel
theorem dX3_coveredBy_40 : decode cX3_coveredBy 40 = .ok (.lreturn, 1) := by decide +kernel
set_option maxRecDepth 20000 in
theorem ggX3_valueOfBlock_X3_coveredBy : GoodIn wsX3_valueOfBlock wsX3_coveredBy := goodIn_r _ [6, 1, 7, 8, 9, 18, 19, 20] (by decide +kernel) (by decide +kernel)
set_option maxRecDepth 20000 in
theorem gX3_valueOfBlock_X3_coveredBy : GoodIn wsX3_valueOfBlock (wsV RX3 32 RX3 yX3_coveredBy wsX3_coveredBy) := goodIn_app (goodIn_of _ (by decide +kernel)) ggX3_valueOfBlock_X3_coveredBy
set_option maxRecDepth 20000 in
theorem ggX3_valueOfBlock_X3_valueOfSources : GoodIn wsX3_valueOfBlock wsX3_valueOfSources := goodIn_r _ [13, 1, 14, 15, 8, 16, 17, 7, 9, 18, 19, 20] (by decide +kernel) (by decide +kernel)
set_option maxRecDepth 20000 in
theorem gX3_valueOfBlock_X3_valueOfSources : GoodIn wsX3_valueOfBlock (wsV RX3 35 RX3 yX3_valueOfSources wsX3_valueOfSources) := goodIn_app (goodIn_of _ (by decide +kernel)) ggX3_valueOfBlock_X3_valueOfSources
set_option maxRecDepth 20000 in
theorem ggX3_valueOfBlock_X5_setOf : GoodIn wsX3_valueOfBlock wsX5_setOf := goodIn_r _ [9] (by decide +kernel) (by decide +kernel)
set_option maxRecDepth 20000 in
theorem gX3_valueOfBlock_X5_setOf_n28 : GoodIn wsX3_valueOfBlock (wsX5_setOf) := ggX3_valueOfBlock_X5_setOf
theorem dX3_valueOfBlock_0 : decode cX3_valueOfBlock 0 = .ok (.iload_n 1, 1) := by decide +kernel
theorem dX3_valueOfBlock_1 : decode cX3_valueOfBlock 1 = .ok (.aload_n 0, 1) := by decide +kernel
theorem dX3_valueOfBlock_2 : decode cX3_valueOfBlock 2 = .ok (.getfield 15, 3) := by decide +kernel
theorem dX3_valueOfBlock_5 : decode cX3_valueOfBlock 5 = .ok (.if_icmp .lt 18, 3) := by decide +kernel
theorem dX3_valueOfBlock_8 : decode cX3_valueOfBlock 8 = .ok (.aload_n 0, 1) := by decide +kernel
theorem dX3_valueOfBlock_9 : decode cX3_valueOfBlock 9 = .ok (.aload_n 0, 1) := by decide +kernel
theorem dX3_valueOfBlock_10 : decode cX3_valueOfBlock 10 = .ok (.iload_n 1, 1) := by decide +kernel
theorem dX3_valueOfBlock_11 : decode cX3_valueOfBlock 11 = .ok (.aload_n 0, 1) := by decide +kernel
theorem dX3_valueOfBlock_12 : decode cX3_valueOfBlock 12 = .ok (.getfield 15, 3) := by decide +kernel
theorem dX3_valueOfBlock_15 : decode cX3_valueOfBlock 15 = .ok (.isub, 1) := by decide +kernel
theorem dX3_valueOfBlock_16 : decode cX3_valueOfBlock 16 = .ok (.invokevirtual 32, 3) := by decide +kernel
theorem dX3_valueOfBlock_19 : decode cX3_valueOfBlock 19 = .ok (.invokevirtual 35, 3) := by decide +kernel
theorem dX3_valueOfBlock_22 : decode cX3_valueOfBlock 22 = .ok (.ireturn, 1) := by decide +kernel
theorem dX3_valueOfBlock_23 : decode cX3_valueOfBlock 23 = .ok (.aload_n 0, 1) := by decide +kernel
theorem dX3_valueOfBlock_24 : decode cX3_valueOfBlock 24 = .ok (.iload_n 1, 1) := by decide +kernel
theorem dX3_valueOfBlock_25 : decode cX3_valueOfBlock 25 = .ok (.invokestatic 28, 3) := by decide +kernel
theorem dX3_valueOfBlock_28 : decode cX3_valueOfBlock 28 = .ok (.invokevirtual 35, 3) := by decide +kernel
theorem dX3_valueOfBlock_31 : decode cX3_valueOfBlock 31 = .ok (.ireturn, 1) := by decide +kernel
set_option maxRecDepth 20000 in
theorem ggX3_valueOfSet_X3_valueOfSources : GoodIn wsX3_valueOfSet wsX3_valueOfSources := goodIn_r _ [6, 1, 7, 8, 9, 10, 11, 12, 13, 27, 28, 29] (by decide +kernel) (by decide +kernel)
set_option maxRecDepth 20000 in
theorem gX3_valueOfSet_X3_valueOfSources : GoodIn wsX3_valueOfSet (wsV RX3 35 RX3 yX3_valueOfSources wsX3_valueOfSources) := goodIn_app (goodIn_of _ (by decide +kernel)) ggX3_valueOfSet_X3_valueOfSources
set_option maxRecDepth 20000 in
theorem ggX3_valueOfSet_X3_blockCount : GoodIn wsX3_valueOfSet wsX3_blockCount := goodIn_r _ [17, 1, 18, 27, 28, 29] (by decide +kernel) (by decide +kernel)
set_option maxRecDepth 20000 in
theorem gX3_valueOfSet_X3_blockCount : GoodIn wsX3_valueOfSet (wsV RX3 39 RX3 yX3_blockCount wsX3_blockCount) := goodIn_app (goodIn_of _ (by decide +kernel)) ggX3_valueOfSet_X3_blockCount
set_option maxRecDepth 20000 in
theorem ggX3_valueOfSet_X5_holds : GoodIn wsX3_valueOfSet wsX5_holds := goodIn_r _ [10, 11, 12, 9, 13] (by decide +kernel) (by decide +kernel)
set_option maxRecDepth 20000 in
theorem gX3_valueOfSet_X5_holds_n43 : GoodIn wsX3_valueOfSet (wsX5_holds) := ggX3_valueOfSet_X5_holds
set_option maxRecDepth 20000 in
theorem ggX3_valueOfSet_X3_valueOfBlock : GoodIn wsX3_valueOfSet wsX3_valueOfBlock := goodIn_r _ [22, 1, 23, 24, 25, 5, 26, 12, 9, 13, 2, 3, 4, 6, 7, 8, 10, 11, 27, 28, 29] (by decide +kernel) (by decide +kernel)
set_option maxRecDepth 20000 in
theorem gX3_valueOfSet_X3_valueOfBlock : GoodIn wsX3_valueOfSet (wsV RX3 47 RX3 yX3_valueOfBlock wsX3_valueOfBlock) := goodIn_app (goodIn_of _ (by decide +kernel)) ggX3_valueOfSet_X3_valueOfBlock
theorem dX3_valueOfSet_0 : decode cX3_valueOfSet 0 = .ok (.aload_n 0, 1) := by decide +kernel
theorem dX3_valueOfSet_1 : decode cX3_valueOfSet 1 = .ok (.lload_n 1, 1) := by decide +kernel
theorem dX3_valueOfSet_2 : decode cX3_valueOfSet 2 = .ok (.invokevirtual 35, 3) := by decide +kernel
theorem dX3_valueOfSet_5 : decode cX3_valueOfSet 5 = .ok (.istore_n 3, 1) := by decide +kernel
theorem dX3_valueOfSet_6 : decode cX3_valueOfSet 6 = .ok (.aload_n 0, 1) := by decide +kernel
theorem dX3_valueOfSet_7 : decode cX3_valueOfSet 7 = .ok (.getfield 15, 3) := by decide +kernel
theorem dX3_valueOfSet_10 : decode cX3_valueOfSet 10 = .ok (.istore 4, 2) := by decide +kernel
theorem dX3_valueOfSet_12 : decode cX3_valueOfSet 12 = .ok (.iload 4, 2) := by decide +kernel
theorem dX3_valueOfSet_14 : decode cX3_valueOfSet 14 = .ok (.aload_n 0, 1) := by decide +kernel
theorem dX3_valueOfSet_15 : decode cX3_valueOfSet 15 = .ok (.invokevirtual 39, 3) := by decide +kernel
theorem dX3_valueOfSet_18 : decode cX3_valueOfSet 18 = .ok (.if_icmp .ge 27, 3) := by decide +kernel
theorem dX3_valueOfSet_21 : decode cX3_valueOfSet 21 = .ok (.lload_n 1, 1) := by decide +kernel
theorem dX3_valueOfSet_22 : decode cX3_valueOfSet 22 = .ok (.iload 4, 2) := by decide +kernel
theorem dX3_valueOfSet_24 : decode cX3_valueOfSet 24 = .ok (.invokestatic 43, 3) := by decide +kernel
theorem dX3_valueOfSet_27 : decode cX3_valueOfSet 27 = .ok (.ifCond .eq 12, 3) := by decide +kernel
theorem dX3_valueOfSet_30 : decode cX3_valueOfSet 30 = .ok (.iload_n 3, 1) := by decide +kernel
theorem dX3_valueOfSet_31 : decode cX3_valueOfSet 31 = .ok (.aload_n 0, 1) := by decide +kernel
theorem dX3_valueOfSet_32 : decode cX3_valueOfSet 32 = .ok (.iload 4, 2) := by decide +kernel
theorem dX3_valueOfSet_34 : decode cX3_valueOfSet 34 = .ok (.invokevirtual 47, 3) := by decide +kernel
theorem dX3_valueOfSet_37 : decode cX3_valueOfSet 37 = .ok (.ixor, 1) := by decide +kernel
theorem dX3_valueOfSet_38 : decode cX3_valueOfSet 38 = .ok (.istore_n 3, 1) := by decide +kernel
theorem dX3_valueOfSet_39 : decode cX3_valueOfSet 39 = .ok (.iinc 4 1, 3) := by decide +kernel
theorem dX3_valueOfSet_42 : decode cX3_valueOfSet 42 = .ok (.goto (-30), 3) := by decide +kernel
theorem dX3_valueOfSet_45 : decode cX3_valueOfSet 45 = .ok (.iload_n 3, 1) := by decide +kernel
theorem dX3_valueOfSet_46 : decode cX3_valueOfSet 46 = .ok (.ireturn, 1) := by decide +kernel
set_option maxRecDepth 20000 in
theorem ggX3_valueOfSources_X5_holds : GoodIn wsX3_valueOfSources wsX5_holds := goodIn_r _ [5, 6, 7, 4, 8] (by decide +kernel) (by decide +kernel)
set_option maxRecDepth 20000 in
theorem gX3_valueOfSources_X5_holds_n43 : GoodIn wsX3_valueOfSources (wsX5_holds) := ggX3_valueOfSources_X5_holds
theorem dX3_valueOfSources_0 : decode cX3_valueOfSources 0 = .ok (.iconst 0, 1) := by decide +kernel
theorem dX3_valueOfSources_1 : decode cX3_valueOfSources 1 = .ok (.istore_n 3, 1) := by decide +kernel
theorem dX3_valueOfSources_2 : decode cX3_valueOfSources 2 = .ok (.iconst 0, 1) := by decide +kernel
theorem dX3_valueOfSources_3 : decode cX3_valueOfSources 3 = .ok (.istore 4, 2) := by decide +kernel
theorem dX3_valueOfSources_5 : decode cX3_valueOfSources 5 = .ok (.iload 4, 2) := by decide +kernel
theorem dX3_valueOfSources_7 : decode cX3_valueOfSources 7 = .ok (.aload_n 0, 1) := by decide +kernel
theorem dX3_valueOfSources_8 : decode cX3_valueOfSources 8 = .ok (.getfield 15, 3) := by decide +kernel
theorem dX3_valueOfSources_11 : decode cX3_valueOfSources 11 = .ok (.if_icmp .ge 38, 3) := by decide +kernel
theorem dX3_valueOfSources_14 : decode cX3_valueOfSources 14 = .ok (.iload 4, 2) := by decide +kernel
theorem dX3_valueOfSources_16 : decode cX3_valueOfSources 16 = .ok (.aload_n 0, 1) := by decide +kernel
theorem dX3_valueOfSources_17 : decode cX3_valueOfSources 17 = .ok (.getfield 9, 3) := by decide +kernel
theorem dX3_valueOfSources_20 : decode cX3_valueOfSources 20 = .ok (.arraylength, 1) := by decide +kernel
theorem dX3_valueOfSources_21 : decode cX3_valueOfSources 21 = .ok (.if_icmp .ge 28, 3) := by decide +kernel
theorem dX3_valueOfSources_24 : decode cX3_valueOfSources 24 = .ok (.lload_n 1, 1) := by decide +kernel
theorem dX3_valueOfSources_25 : decode cX3_valueOfSources 25 = .ok (.iload 4, 2) := by decide +kernel
theorem dX3_valueOfSources_27 : decode cX3_valueOfSources 27 = .ok (.invokestatic 43, 3) := by decide +kernel
theorem dX3_valueOfSources_30 : decode cX3_valueOfSources 30 = .ok (.ifCond .eq 13, 3) := by decide +kernel
theorem dX3_valueOfSources_33 : decode cX3_valueOfSources 33 = .ok (.iload_n 3, 1) := by decide +kernel
theorem dX3_valueOfSources_34 : decode cX3_valueOfSources 34 = .ok (.aload_n 0, 1) := by decide +kernel
theorem dX3_valueOfSources_35 : decode cX3_valueOfSources 35 = .ok (.getfield 9, 3) := by decide +kernel
theorem dX3_valueOfSources_38 : decode cX3_valueOfSources 38 = .ok (.iload 4, 2) := by decide +kernel
theorem dX3_valueOfSources_40 : decode cX3_valueOfSources 40 = .ok (.iaload, 1) := by decide +kernel
theorem dX3_valueOfSources_41 : decode cX3_valueOfSources 41 = .ok (.ixor, 1) := by decide +kernel
theorem dX3_valueOfSources_42 : decode cX3_valueOfSources 42 = .ok (.istore_n 3, 1) := by decide +kernel
theorem dX3_valueOfSources_43 : decode cX3_valueOfSources 43 = .ok (.iinc 4 1, 3) := by decide +kernel
theorem dX3_valueOfSources_46 : decode cX3_valueOfSources 46 = .ok (.goto (-41), 3) := by decide +kernel
theorem dX3_valueOfSources_49 : decode cX3_valueOfSources 49 = .ok (.iload_n 3, 1) := by decide +kernel
theorem dX3_valueOfSources_50 : decode cX3_valueOfSources 50 = .ok (.ireturn, 1) := by decide +kernel
theorem dX4_init_0 : decode cX4_init 0 = .ok (.aload_n 0, 1) := by decide +kernel
theorem dX4_init_1 : decode cX4_init 1 = .ok (.invokespecial 3, 3) := by decide +kernel
theorem dX4_init_4 : decode cX4_init 4 = .ok (.aload_n 0, 1) := by decide +kernel
theorem dX4_init_5 : decode cX4_init 5 = .ok (.getstatic 9, 3) := by decide +kernel
theorem dX4_init_8 : decode cX4_init 8 = .ok (.invokevirtual 15, 3) := by decide +kernel
theorem dX4_init_11 : decode cX4_init 11 = .ok (.checkcast 16, 3) := by decide +kernel
theorem dX4_init_14 : decode cX4_init 14 = .ok (.putfield 20, 3) := by decide +kernel
theorem dX4_init_17 : decode cX4_init 17 = .ok (.return_, 1) := by decide +kernel
theorem dX4_sum_0 : decode cX4_sum 0 = .ok (.iconst 0, 1) := by decide +kernel
theorem dX4_sum_1 : decode cX4_sum 1 = .ok (.istore_n 1, 1) := by decide +kernel
theorem dX4_sum_2 : decode cX4_sum 2 = .ok (.iconst 0, 1) := by decide +kernel
theorem dX4_sum_3 : decode cX4_sum 3 = .ok (.istore_n 2, 1) := by decide +kernel
theorem dX4_sum_4 : decode cX4_sum 4 = .ok (.iload_n 2, 1) := by decide +kernel
theorem dX4_sum_5 : decode cX4_sum 5 = .ok (.aload_n 0, 1) := by decide +kernel
theorem dX4_sum_6 : decode cX4_sum 6 = .ok (.getfield 20, 3) := by decide +kernel
theorem dX4_sum_9 : decode cX4_sum 9 = .ok (.arraylength, 1) := by decide +kernel
theorem dX4_sum_10 : decode cX4_sum 10 = .ok (.if_icmp .ge 18, 3) := by decide +kernel
theorem dX4_sum_13 : decode cX4_sum 13 = .ok (.iload_n 1, 1) := by decide +kernel
theorem dX4_sum_14 : decode cX4_sum 14 = .ok (.aload_n 0, 1) := by decide +kernel
theorem dX4_sum_15 : decode cX4_sum 15 = .ok (.getfield 20, 3) := by decide +kernel
theorem dX4_sum_18 : decode cX4_sum 18 = .ok (.iload_n 2, 1) := by decide +kernel
theorem dX4_sum_19 : decode cX4_sum 19 = .ok (.iaload, 1) := by decide +kernel
theorem dX4_sum_20 : decode cX4_sum 20 = .ok (.iadd, 1) := by decide +kernel
theorem dX4_sum_21 : decode cX4_sum 21 = .ok (.istore_n 1, 1) := by decide +kernel
theorem dX4_sum_22 : decode cX4_sum 22 = .ok (.iinc 2 1, 3) := by decide +kernel
theorem dX4_sum_25 : decode cX4_sum 25 = .ok (.goto (-21), 3) := by decide +kernel
theorem dX4_sum_28 : decode cX4_sum 28 = .ok (.iload_n 1, 1) := by decide +kernel
theorem dX4_sum_29 : decode cX4_sum 29 = .ok (.ireturn, 1) := by decide +kernel
theorem dX4_weightOf_0 : decode cX4_weightOf 0 = .ok (.iload_n 1, 1) := by decide +kernel
theorem dX4_weightOf_1 : decode cX4_weightOf 1 = .ok (.iconst 1, 1) := by decide +kernel
theorem dX4_weightOf_2 : decode cX4_weightOf 2 = .ok (.isub, 1) := by decide +kernel
theorem dX4_weightOf_3 : decode cX4_weightOf 3 = .ok (.istore_n 2, 1) := by decide +kernel
theorem dX4_weightOf_4 : decode cX4_weightOf 4 = .ok (.iload_n 2, 1) := by decide +kernel
theorem dX4_weightOf_5 : decode cX4_weightOf 5 = .ok (.ifCond .lt 21, 3) := by decide +kernel
theorem dX4_weightOf_8 : decode cX4_weightOf 8 = .ok (.iload_n 2, 1) := by decide +kernel
theorem dX4_weightOf_9 : decode cX4_weightOf 9 = .ok (.aload_n 0, 1) := by decide +kernel
theorem dX4_weightOf_10 : decode cX4_weightOf 10 = .ok (.getfield 20, 3) := by decide +kernel
theorem dX4_weightOf_13 : decode cX4_weightOf 13 = .ok (.arraylength, 1) := by decide +kernel
theorem dX4_weightOf_14 : decode cX4_weightOf 14 = .ok (.if_icmp .ge 12, 3) := by decide +kernel
theorem dX4_weightOf_17 : decode cX4_weightOf 17 = .ok (.aload_n 0, 1) := by decide +kernel
theorem dX4_weightOf_18 : decode cX4_weightOf 18 = .ok (.getfield 20, 3) := by decide +kernel
theorem dX4_weightOf_21 : decode cX4_weightOf 21 = .ok (.iload_n 2, 1) := by decide +kernel
theorem dX4_weightOf_22 : decode cX4_weightOf 22 = .ok (.iaload, 1) := by decide +kernel
theorem dX4_weightOf_23 : decode cX4_weightOf 23 = .ok (.goto 4, 3) := by decide +kernel
theorem dX4_weightOf_26 : decode cX4_weightOf 26 = .ok (.iconst 0, 1) := by decide +kernel
theorem dX4_weightOf_27 : decode cX4_weightOf 27 = .ok (.ireturn, 1) := by decide +kernel
theorem dX4_change_0 : decode cX4_change 0 = .ok (.iload_n 1, 1) := by decide +kernel
theorem dX4_change_1 : decode cX4_change 1 = .ok (.iconst 1, 1) := by decide +kernel
theorem dX4_change_2 : decode cX4_change 2 = .ok (.isub, 1) := by decide +kernel
theorem dX4_change_3 : decode cX4_change 3 = .ok (.istore_n 3, 1) := by decide +kernel
theorem dX4_change_4 : decode cX4_change 4 = .ok (.iload_n 3, 1) := by decide +kernel
theorem dX4_change_5 : decode cX4_change 5 = .ok (.ifCond .lt 19, 3) := by decide +kernel
theorem dX4_change_8 : decode cX4_change 8 = .ok (.iload_n 3, 1) := by decide +kernel
theorem dX4_change_9 : decode cX4_change 9 = .ok (.aload_n 0, 1) := by decide +kernel
theorem dX4_change_10 : decode cX4_change 10 = .ok (.getfield 20, 3) := by decide +kernel
theorem dX4_change_13 : decode cX4_change 13 = .ok (.arraylength, 1) := by decide +kernel
theorem dX4_change_14 : decode cX4_change 14 = .ok (.if_icmp .ge 10, 3) := by decide +kernel
theorem dX4_change_17 : decode cX4_change 17 = .ok (.aload_n 0, 1) := by decide +kernel
theorem dX4_change_18 : decode cX4_change 18 = .ok (.getfield 20, 3) := by decide +kernel
theorem dX4_change_21 : decode cX4_change 21 = .ok (.iload_n 3, 1) := by decide +kernel
theorem dX4_change_22 : decode cX4_change 22 = .ok (.iload_n 2, 1) := by decide +kernel
theorem dX4_change_23 : decode cX4_change 23 = .ok (.iastore, 1) := by decide +kernel
theorem dX4_change_24 : decode cX4_change 24 = .ok (.return_, 1) := by decide +kernel
theorem dX4_degreeFor_0 : decode cX4_degreeFor 0 = .ok (.iconst 0, 1) := by decide +kernel
theorem dX4_degreeFor_1 : decode cX4_degreeFor 1 = .ok (.istore_n 2, 1) := by decide +kernel
theorem dX4_degreeFor_2 : decode cX4_degreeFor 2 = .ok (.iconst 0, 1) := by decide +kernel
theorem dX4_degreeFor_3 : decode cX4_degreeFor 3 = .ok (.istore_n 3, 1) := by decide +kernel
theorem dX4_degreeFor_4 : decode cX4_degreeFor 4 = .ok (.iload_n 3, 1) := by decide +kernel
theorem dX4_degreeFor_5 : decode cX4_degreeFor 5 = .ok (.aload_n 0, 1) := by decide +kernel
theorem dX4_degreeFor_6 : decode cX4_degreeFor 6 = .ok (.getfield 20, 3) := by decide +kernel
theorem dX4_degreeFor_9 : decode cX4_degreeFor 9 = .ok (.arraylength, 1) := by decide +kernel
theorem dX4_degreeFor_10 : decode cX4_degreeFor 10 = .ok (.if_icmp .ge 27, 3) := by decide +kernel
theorem dX4_degreeFor_13 : decode cX4_degreeFor 13 = .ok (.iload_n 2, 1) := by decide +kernel
theorem dX4_degreeFor_14 : decode cX4_degreeFor 14 = .ok (.aload_n 0, 1) := by decide +kernel
theorem dX4_degreeFor_15 : decode cX4_degreeFor 15 = .ok (.getfield 20, 3) := by decide +kernel
theorem dX4_degreeFor_18 : decode cX4_degreeFor 18 = .ok (.iload_n 3, 1) := by decide +kernel
theorem dX4_degreeFor_19 : decode cX4_degreeFor 19 = .ok (.iaload, 1) := by decide +kernel
theorem dX4_degreeFor_20 : decode cX4_degreeFor 20 = .ok (.iadd, 1) := by decide +kernel
theorem dX4_degreeFor_21 : decode cX4_degreeFor 21 = .ok (.istore_n 2, 1) := by decide +kernel
theorem dX4_degreeFor_22 : decode cX4_degreeFor 22 = .ok (.iload_n 2, 1) := by decide +kernel
theorem dX4_degreeFor_23 : decode cX4_degreeFor 23 = .ok (.iload_n 1, 1) := by decide +kernel
theorem dX4_degreeFor_24 : decode cX4_degreeFor 24 = .ok (.if_icmp .le 7, 3) := by decide +kernel
theorem dX4_degreeFor_27 : decode cX4_degreeFor 27 = .ok (.iload_n 3, 1) := by decide +kernel
theorem dX4_degreeFor_28 : decode cX4_degreeFor 28 = .ok (.iconst 1, 1) := by decide +kernel
theorem dX4_degreeFor_29 : decode cX4_degreeFor 29 = .ok (.iadd, 1) := by decide +kernel
theorem dX4_degreeFor_30 : decode cX4_degreeFor 30 = .ok (.ireturn, 1) := by decide +kernel
theorem dX4_degreeFor_31 : decode cX4_degreeFor 31 = .ok (.iinc 3 1, 3) := by decide +kernel
theorem dX4_degreeFor_34 : decode cX4_degreeFor 34 = .ok (.goto (-30), 3) := by decide +kernel
theorem dX4_degreeFor_37 : decode cX4_degreeFor 37 = .ok (.bipush 12, 2) := by decide +kernel
theorem dX4_degreeFor_39 : decode cX4_degreeFor 39 = .ok (.ireturn, 1) := by decide +kernel
set_option maxRecDepth 20000 in
theorem ggX5_init_X4_init : GoodIn wsX5_init wsX4_init := goodIn_r _ [25, 26, 2, 3, 27, 28, 29, 30, 31, 32, 33, 34, 140] (by decide +kernel) (by decide +kernel)
set_option maxRecDepth 20000 in
theorem gX5_init_X4_init_n11 : GoodIn wsX5_init (wsX4_init) := ggX5_init_X4_init
set_option maxRecDepth 20000 in
theorem ggX5_init_X3_init : GoodIn wsX5_init wsX3_init := goodIn_r _ [36, 37, 2, 3, 38, 39, 146, 147, 148] (by decide +kernel) (by decide +kernel)
set_option maxRecDepth 20000 in
theorem gX5_init_X3_init_n18 : GoodIn wsX5_init (wsX3_init) := ggX5_init_X3_init
set_option maxRecDepth 20000 in
theorem ggX5_init_X2_init : GoodIn wsX5_init wsX2_init := goodIn_r _ [41, 42, 2, 3, 43, 44, 38, 45, 46, 149, 150, 151, 152, 153, 154] (by decide +kernel) (by decide +kernel)
set_option maxRecDepth 20000 in
theorem gX5_init_X2_init_n25 : GoodIn wsX5_init (wsX2_init) := ggX5_init_X2_init
set_option maxRecDepth 20000 in
theorem ggX5_init_X1_init : GoodIn wsX5_init wsX1_init := goodIn_r _ [48, 49, 2, 3, 43, 50, 38, 51, 155, 156, 157] (by decide +kernel) (by decide +kernel)
set_option maxRecDepth 20000 in
theorem gX5_init_X1_init_n32 : GoodIn wsX5_init (wsX1_init) := ggX5_init_X1_init
set_option maxRecDepth 20000 in
theorem ggX5_init_X0_init : GoodIn wsX5_init wsX0_init := goodIn_r _ [53, 54, 2, 3, 38, 55, 158, 159, 160, 161] (by decide +kernel) (by decide +kernel)
set_option maxRecDepth 20000 in
theorem gX5_init_X0_init_n39 : GoodIn wsX5_init (wsX0_init) := ggX5_init_X0_init
set_option maxRecDepth 20000 in
theorem ggX5_init_X5_beginTransfer : GoodIn wsX5_init wsX5_beginTransfer := goodIn_r _ [60, 11, 15, 19, 61, 62, 63, 10, 64, 65, 66, 39, 67, 68, 69, 70, 71, 72, 73, 14, 74, 75, 76, 77, 46, 78, 79, 80, 81, 18, 82, 83, 50, 51, 84, 85, 86, 87, 88, 89, 59, 90, 91, 92, 93, 94, 95, 96, 97, 98, 99, 100, 101, 102, 44, 103, 104, 105, 106, 107, 108, 109, 110, 111, 112, 113, 114, 115, 116, 117, 118, 119, 120, 121, 122, 123, 124, 125, 126, 127, 128, 129, 130, 131, 132, 133, 134, 135, 136, 137, 138, 139, 45, 141, 142, 143, 144, 145, 146, 147, 148, 149, 150, 151, 152, 153, 154, 155, 156, 157] (by decide +kernel) (by decide +kernel)
set_option maxRecDepth 20000 in
theorem gX5_init_X5_beginTransfer : GoodIn wsX5_init (wsV RX5 44 RX5 yX5_beginTransfer wsX5_beginTransfer) := goodIn_app (goodIn_of _ (by decide +kernel)) ggX5_init_X5_beginTransfer
end
section
theorem dX5_init_0 : decode cX5_init 0 = .ok (.aload_n 0, 1) := by decide +kernel
theorem dX5_init_1 : decode cX5_init 1 = .ok (.invokespecial 3, 3) := by decide +kernel
theorem dX5_init_4 : decode cX5_init 4 = .ok (.aload_n 0, 1) := by decide +kernel
theorem dX5_init_5 : decode cX5_init 5 = .ok (.new 9, 3) := by decide +kernel
theorem dX5_init_8 : decode cX5_init 8 = .ok (.dup, 1) := by decide +kernel
theorem dX5_init_9 : decode cX5_init 9 = .ok (.invokespecial 11, 3) := by decide +kernel
theorem dX5_init_12 : decode cX5_init 12 = .ok (.putfield 12, 3) := by decide +kernel
theorem dX5_init_15 : decode cX5_init 15 = .ok (.aload_n 0, 1) := by decide +kernel
theorem dX5_init_16 : decode cX5_init 16 = .ok (.new 16, 3) := by decide +kernel
theorem dX5_init_19 : decode cX5_init 19 = .ok (.dup, 1) := by decide +kernel
theorem dX5_init_20 : decode cX5_init 20 = .ok (.invokespecial 18, 3) := by decide +kernel
theorem dX5_init_23 : decode cX5_init 23 = .ok (.putfield 19, 3) := by decide +kernel
theorem dX5_init_26 : decode cX5_init 26 = .ok (.aload_n 0, 1) := by decide +kernel
theorem dX5_init_27 : decode cX5_init 27 = .ok (.new 23, 3) := by decide +kernel
theorem dX5_init_30 : decode cX5_init 30 = .ok (.dup, 1) := by decide +kernel
theorem dX5_init_31 : decode cX5_init 31 = .ok (.invokespecial 25, 3) := by decide +kernel
theorem dX5_init_34 : decode cX5_init 34 = .ok (.putfield 26, 3) := by decide +kernel
theorem dX5_init_37 : decode cX5_init 37 = .ok (.aload_n 0, 1) := by decide +kernel
theorem dX5_init_38 : decode cX5_init 38 = .ok (.new 30, 3) := by decide +kernel
theorem dX5_init_41 : decode cX5_init 41 = .ok (.dup, 1) := by decide +kernel
theorem dX5_init_42 : decode cX5_init 42 = .ok (.invokespecial 32, 3) := by decide +kernel
theorem dX5_init_45 : decode cX5_init 45 = .ok (.putfield 33, 3) := by decide +kernel
theorem dX5_init_48 : decode cX5_init 48 = .ok (.aload_n 0, 1) := by decide +kernel
theorem dX5_init_49 : decode cX5_init 49 = .ok (.new 37, 3) := by decide +kernel
theorem dX5_init_52 : decode cX5_init 52 = .ok (.dup, 1) := by decide +kernel
theorem dX5_init_53 : decode cX5_init 53 = .ok (.invokespecial 39, 3) := by decide +kernel
theorem dX5_init_56 : decode cX5_init 56 = .ok (.putfield 40, 3) := by decide +kernel
theorem dX5_init_59 : decode cX5_init 59 = .ok (.aload_n 0, 1) := by decide +kernel
theorem dX5_init_60 : decode cX5_init 60 = .ok (.iconst 1, 1) := by decide +kernel
theorem dX5_init_61 : decode cX5_init 61 = .ok (.iconst 0, 1) := by decide +kernel
theorem dX5_init_62 : decode cX5_init 62 = .ok (.invokevirtual 44, 3) := by decide +kernel
theorem dX5_init_65 : decode cX5_init 65 = .ok (.pop, 1) := by decide +kernel
theorem dX5_init_66 : decode cX5_init 66 = .ok (.return_, 1) := by decide +kernel
set_option maxRecDepth 20000 in
theorem ggX5_start_X5_beginTransfer : GoodIn wsX5_start wsX5_beginTransfer := goodIn_r _ [7, 8, 9, 10, 11, 12, 13, 14, 15, 16, 17, 18, 19, 20, 21, 22, 23, 24, 25, 26, 27, 28, 29, 30, 31, 32, 33, 34, 35, 36, 37, 38, 39, 40, 41, 42, 43, 44, 45, 46, 6, 47, 48, 49, 50, 51, 52, 53, 54, 55, 56, 57, 58, 59, 60, 61, 62, 63, 64, 65, 66, 67, 68, 69, 70, 71, 72, 73, 74, 75, 76, 77, 78, 79, 80, 81, 82, 83, 84, 85, 86, 87, 88, 89, 90, 91, 92, 93, 94, 95, 96, 97, 98, 99, 100, 101, 102, 103, 104, 105, 106, 107, 108, 109, 110, 111, 112, 113, 114, 115] (by decide +kernel) (by decide +kernel)
set_option maxRecDepth 20000 in
theorem gX5_start_X5_beginTransfer : GoodIn wsX5_start (wsV RX5 44 RX5 yX5_beginTransfer wsX5_beginTransfer) := goodIn_app (goodIn_of _ (by decide +kernel)) ggX5_start_X5_beginTransfer
theorem dX5_start_0 : decode cX5_start 0 = .ok (.iload_n 1, 1) := by decide +kernel
theorem dX5_start_1 : decode cX5_start 1 = .ok (.iconst 1, 1) := by decide +kernel
theorem dX5_start_2 : decode cX5_start 2 = .ok (.if_icmp .lt 19, 3) := by decide +kernel
theorem dX5_start_5 : decode cX5_start 5 = .ok (.iload_n 1, 1) := by decide +kernel
theorem dX5_start_6 : decode cX5_start 6 = .ok (.bipush 32, 2) := by decide +kernel
theorem dX5_start_8 : decode cX5_start 8 = .ok (.if_icmp .gt 13, 3) := by decide +kernel
theorem dX5_start_11 : decode cX5_start 11 = .ok (.iload_n 2, 1) := by decide +kernel
theorem dX5_start_12 : decode cX5_start 12 = .ok (.ifCond .lt 9, 3) := by decide +kernel
theorem dX5_start_15 : decode cX5_start 15 = .ok (.iload_n 2, 1) := by decide +kernel
theorem dX5_start_16 : decode cX5_start 16 = .ok (.bipush 6, 2) := by decide +kernel
theorem dX5_start_18 : decode cX5_start 18 = .ok (.if_icmp .le 13, 3) := by decide +kernel
theorem dX5_start_21 : decode cX5_start 21 = .ok (.new 48, 3) := by decide +kernel
theorem dX5_start_24 : decode cX5_start 24 = .ok (.dup, 1) := by decide +kernel
theorem dX5_start_25 : decode cX5_start 25 = .ok (.ldc 50, 2) := by decide +kernel
theorem dX5_start_27 : decode cX5_start 27 = .ok (.invokespecial 52, 3) := by decide +kernel
theorem dX5_start_30 : decode cX5_start 30 = .ok (.athrow, 1) := by decide +kernel
theorem dX5_start_31 : decode cX5_start 31 = .ok (.aload_n 0, 1) := by decide +kernel
theorem dX5_start_32 : decode cX5_start 32 = .ok (.iload_n 1, 1) := by decide +kernel
theorem dX5_start_33 : decode cX5_start 33 = .ok (.iload_n 2, 1) := by decide +kernel
theorem dX5_start_34 : decode cX5_start 34 = .ok (.invokevirtual 44, 3) := by decide +kernel
theorem dX5_start_37 : decode cX5_start 37 = .ok (.ireturn, 1) := by decide +kernel
set_option maxRecDepth 20000 in
theorem ggX5_setWeight_X4_weightOf : GoodIn wsX5_setWeight wsX4_weightOf := goodIn_r _ [10, 11, 25] (by decide +kernel) (by decide +kernel)
set_option maxRecDepth 20000 in
theorem gX5_setWeight_X4_weightOf : GoodIn wsX5_setWeight (wsV RX5 57 RX4 yX4_weightOf wsX4_weightOf) := goodIn_app (goodIn_of _ (by decide +kernel)) ggX5_setWeight_X4_weightOf
set_option maxRecDepth 20000 in
theorem ggX5_setWeight_X4_sum : GoodIn wsX5_setWeight wsX4_sum := goodIn_r _ [15, 11, 25] (by decide +kernel) (by decide +kernel)
set_option maxRecDepth 20000 in
theorem gX5_setWeight_X4_sum : GoodIn wsX5_setWeight (wsV RX5 61 RX4 yX4_sum wsX4_sum) := goodIn_app (goodIn_of _ (by decide +kernel)) ggX5_setWeight_X4_sum
set_option maxRecDepth 20000 in
theorem ggX5_setWeight_X4_change : GoodIn wsX5_setWeight wsX4_change := goodIn_r _ [19, 11, 25] (by decide +kernel) (by decide +kernel)
set_option maxRecDepth 20000 in
theorem gX5_setWeight_X4_change : GoodIn wsX5_setWeight (wsV RX5 70 RX4 yX4_change wsX4_change) := goodIn_app (goodIn_of _ (by decide +kernel)) ggX5_setWeight_X4_change
theorem dX5_setWeight_0 : decode cX5_setWeight 0 = .ok (.iload_n 1, 1) := by decide +kernel
theorem dX5_setWeight_1 : decode cX5_setWeight 1 = .ok (.iconst 1, 1) := by decide +kernel
theorem dX5_setWeight_2 : decode cX5_setWeight 2 = .ok (.if_icmp .lt 20, 3) := by decide +kernel
theorem dX5_setWeight_5 : decode cX5_setWeight 5 = .ok (.iload_n 1, 1) := by decide +kernel
theorem dX5_setWeight_6 : decode cX5_setWeight 6 = .ok (.bipush 12, 2) := by decide +kernel
theorem dX5_setWeight_8 : decode cX5_setWeight 8 = .ok (.if_icmp .gt 14, 3) := by decide +kernel
theorem dX5_setWeight_11 : decode cX5_setWeight 11 = .ok (.iload_n 2, 1) := by decide +kernel
theorem dX5_setWeight_12 : decode cX5_setWeight 12 = .ok (.ifCond .lt 10, 3) := by decide +kernel
theorem dX5_setWeight_15 : decode cX5_setWeight 15 = .ok (.iload_n 2, 1) := by decide +kernel
theorem dX5_setWeight_16 : decode cX5_setWeight 16 = .ok (.sipush 1000, 3) := by decide +kernel
theorem dX5_setWeight_19 : decode cX5_setWeight 19 = .ok (.if_icmp .le 13, 3) := by decide +kernel
theorem dX5_setWeight_22 : decode cX5_setWeight 22 = .ok (.new 48, 3) := by decide +kernel
theorem dX5_setWeight_25 : decode cX5_setWeight 25 = .ok (.dup, 1) := by decide +kernel
theorem dX5_setWeight_26 : decode cX5_setWeight 26 = .ok (.ldc 55, 2) := by decide +kernel
theorem dX5_setWeight_28 : decode cX5_setWeight 28 = .ok (.invokespecial 52, 3) := by decide +kernel
theorem dX5_setWeight_31 : decode cX5_setWeight 31 = .ok (.athrow, 1) := by decide +kernel
theorem dX5_setWeight_32 : decode cX5_setWeight 32 = .ok (.aload_n 0, 1) := by decide +kernel
theorem dX5_setWeight_33 : decode cX5_setWeight 33 = .ok (.getfield 12, 3) := by decide +kernel
theorem dX5_setWeight_36 : decode cX5_setWeight 36 = .ok (.iload_n 1, 1) := by decide +kernel
theorem dX5_setWeight_37 : decode cX5_setWeight 37 = .ok (.invokevirtual 57, 3) := by decide +kernel
theorem dX5_setWeight_40 : decode cX5_setWeight 40 = .ok (.istore_n 3, 1) := by decide +kernel
theorem dX5_setWeight_41 : decode cX5_setWeight 41 = .ok (.aload_n 0, 1) := by decide +kernel
theorem dX5_setWeight_42 : decode cX5_setWeight 42 = .ok (.getfield 12, 3) := by decide +kernel
theorem dX5_setWeight_45 : decode cX5_setWeight 45 = .ok (.invokevirtual 61, 3) := by decide +kernel
theorem dX5_setWeight_48 : decode cX5_setWeight 48 = .ok (.iload_n 3, 1) := by decide +kernel
theorem dX5_setWeight_49 : decode cX5_setWeight 49 = .ok (.isub, 1) := by decide +kernel
theorem dX5_setWeight_50 : decode cX5_setWeight 50 = .ok (.iload_n 2, 1) := by decide +kernel
theorem dX5_setWeight_51 : decode cX5_setWeight 51 = .ok (.iadd, 1) := by decide +kernel
theorem dX5_setWeight_52 : decode cX5_setWeight 52 = .ok (.ifCond .ne 13, 3) := by decide +kernel
theorem dX5_setWeight_55 : decode cX5_setWeight 55 = .ok (.new 65, 3) := by decide +kernel
theorem dX5_setWeight_58 : decode cX5_setWeight 58 = .ok (.dup, 1) := by decide +kernel
theorem dX5_setWeight_59 : decode cX5_setWeight 59 = .ok (.ldc 67, 2) := by decide +kernel
theorem dX5_setWeight_61 : decode cX5_setWeight 61 = .ok (.invokespecial 69, 3) := by decide +kernel
theorem dX5_setWeight_64 : decode cX5_setWeight 64 = .ok (.athrow, 1) := by decide +kernel
theorem dX5_setWeight_65 : decode cX5_setWeight 65 = .ok (.aload_n 0, 1) := by decide +kernel
theorem dX5_setWeight_66 : decode cX5_setWeight 66 = .ok (.getfield 12, 3) := by decide +kernel
theorem dX5_setWeight_69 : decode cX5_setWeight 69 = .ok (.iload_n 1, 1) := by decide +kernel
theorem dX5_setWeight_70 : decode cX5_setWeight 70 = .ok (.iload_n 2, 1) := by decide +kernel
theorem dX5_setWeight_71 : decode cX5_setWeight 71 = .ok (.invokevirtual 70, 3) := by decide +kernel
theorem dX5_setWeight_74 : decode cX5_setWeight 74 = .ok (.iload_n 3, 1) := by decide +kernel
theorem dX5_setWeight_75 : decode cX5_setWeight 75 = .ok (.ireturn, 1) := by decide +kernel
set_option maxRecDepth 20000 in
theorem ggX5_setBlock_X3_sourceCount : GoodIn wsX5_setBlock wsX3_sourceCount := goodIn_r _ [8, 9, 38, 39, 40] (by decide +kernel) (by decide +kernel)
set_option maxRecDepth 20000 in
theorem gX5_setBlock_X3_sourceCount : GoodIn wsX5_setBlock (wsV RX5 74 RX3 yX3_sourceCount wsX3_sourceCount) := goodIn_app (goodIn_of _ (by decide +kernel)) ggX5_setBlock_X3_sourceCount
set_option maxRecDepth 20000 in
theorem ggX5_setBlock_X3_valueOfBlock : GoodIn wsX5_setBlock wsX3_valueOfBlock := goodIn_r _ [13, 9, 14, 15, 16, 7, 17, 18, 19, 20, 21, 22, 23, 24, 25, 26, 27, 28, 38, 39, 40] (by decide +kernel) (by decide +kernel)
set_option maxRecDepth 20000 in
theorem gX5_setBlock_X3_valueOfBlock : GoodIn wsX5_setBlock (wsV RX5 82 RX3 yX3_valueOfBlock wsX3_valueOfBlock) := goodIn_app (goodIn_of _ (by decide +kernel)) ggX5_setBlock_X3_valueOfBlock
set_option maxRecDepth 20000 in
theorem ggX5_setBlock_X3_change : GoodIn wsX5_setBlock wsX3_change := goodIn_r _ [32, 25, 38, 39, 40] (by decide +kernel) (by decide +kernel)
set_option maxRecDepth 20000 in
theorem gX5_setBlock_X3_change : GoodIn wsX5_setBlock (wsV RX5 85 RX3 yX3_change wsX3_change) := goodIn_app (goodIn_of _ (by decide +kernel)) ggX5_setBlock_X3_change
theorem dX5_setBlock_0 : decode cX5_setBlock 0 = .ok (.iload_n 1, 1) := by decide +kernel
theorem dX5_setBlock_1 : decode cX5_setBlock 1 = .ok (.ifCond .lt 14, 3) := by decide +kernel
theorem dX5_setBlock_4 : decode cX5_setBlock 4 = .ok (.iload_n 1, 1) := by decide +kernel
theorem dX5_setBlock_5 : decode cX5_setBlock 5 = .ok (.aload_n 0, 1) := by decide +kernel
theorem dX5_setBlock_6 : decode cX5_setBlock 6 = .ok (.getfield 19, 3) := by decide +kernel
theorem dX5_setBlock_9 : decode cX5_setBlock 9 = .ok (.invokevirtual 74, 3) := by decide +kernel
theorem dX5_setBlock_12 : decode cX5_setBlock 12 = .ok (.if_icmp .lt 13, 3) := by decide +kernel
theorem dX5_setBlock_15 : decode cX5_setBlock 15 = .ok (.new 77, 3) := by decide +kernel
theorem dX5_setBlock_18 : decode cX5_setBlock 18 = .ok (.dup, 1) := by decide +kernel
theorem dX5_setBlock_19 : decode cX5_setBlock 19 = .ok (.ldc 79, 2) := by decide +kernel
theorem dX5_setBlock_21 : decode cX5_setBlock 21 = .ok (.invokespecial 81, 3) := by decide +kernel
theorem dX5_setBlock_24 : decode cX5_setBlock 24 = .ok (.athrow, 1) := by decide +kernel
theorem dX5_setBlock_25 : decode cX5_setBlock 25 = .ok (.aload_n 0, 1) := by decide +kernel
theorem dX5_setBlock_26 : decode cX5_setBlock 26 = .ok (.getfield 19, 3) := by decide +kernel
theorem dX5_setBlock_29 : decode cX5_setBlock 29 = .ok (.iload_n 1, 1) := by decide +kernel
theorem dX5_setBlock_30 : decode cX5_setBlock 30 = .ok (.invokevirtual 82, 3) := by decide +kernel
theorem dX5_setBlock_33 : decode cX5_setBlock 33 = .ok (.istore_n 3, 1) := by decide +kernel
theorem dX5_setBlock_34 : decode cX5_setBlock 34 = .ok (.aload_n 0, 1) := by decide +kernel
theorem dX5_setBlock_35 : decode cX5_setBlock 35 = .ok (.getfield 19, 3) := by decide +kernel
theorem dX5_setBlock_38 : decode cX5_setBlock 38 = .ok (.iload_n 1, 1) := by decide +kernel
theorem dX5_setBlock_39 : decode cX5_setBlock 39 = .ok (.iload_n 2, 1) := by decide +kernel
theorem dX5_setBlock_40 : decode cX5_setBlock 40 = .ok (.invokevirtual 85, 3) := by decide +kernel
theorem dX5_setBlock_43 : decode cX5_setBlock 43 = .ok (.iload_n 3, 1) := by decide +kernel
theorem dX5_setBlock_44 : decode cX5_setBlock 44 = .ok (.ireturn, 1) := by decide +kernel
set_option maxRecDepth 20000 in
theorem ggX5_blocks_X3_blockCount : GoodIn wsX5_blocks wsX3_blockCount := goodIn_r _ [6, 7, 8, 14, 15, 16] (by decide +kernel) (by decide +kernel)
set_option maxRecDepth 20000 in
theorem gX5_blocks_X3_blockCount : GoodIn wsX5_blocks (wsV RX5 86 RX3 yX3_blockCount wsX3_blockCount) := goodIn_app (goodIn_of _ (by decide +kernel)) ggX5_blocks_X3_blockCount
theorem dX5_blocks_0 : decode cX5_blocks 0 = .ok (.aload_n 0, 1) := by decide +kernel
theorem dX5_blocks_1 : decode cX5_blocks 1 = .ok (.getfield 19, 3) := by decide +kernel
theorem dX5_blocks_4 : decode cX5_blocks 4 = .ok (.invokevirtual 86, 3) := by decide +kernel
theorem dX5_blocks_7 : decode cX5_blocks 7 = .ok (.ireturn, 1) := by decide +kernel
set_option maxRecDepth 20000 in
theorem ggX5_blockAt_X5_isBlock : GoodIn wsX5_blockAt wsX5_isBlock := goodIn_r _ [8, 3, 9, 10, 11, 12, 13, 14, 15, 34, 35, 36, 37, 38, 39, 40, 41] (by decide +kernel) (by decide +kernel)
set_option maxRecDepth 20000 in
theorem gX5_blockAt_X5_isBlock : GoodIn wsX5_blockAt (wsV RX5 89 RX5 yX5_isBlock wsX5_isBlock) := goodIn_app (goodIn_of _ (by decide +kernel)) ggX5_blockAt_X5_isBlock
set_option maxRecDepth 20000 in
theorem ggX5_blockAt_X3_valueOfBlock : GoodIn wsX5_blockAt wsX3_valueOfBlock := goodIn_r _ [19, 14, 20, 21, 22, 12, 23, 24, 7, 25, 26, 27, 28, 29, 30, 31, 32, 33, 39, 40, 41] (by decide +kernel) (by decide +kernel)
set_option maxRecDepth 20000 in
theorem gX5_blockAt_X3_valueOfBlock : GoodIn wsX5_blockAt (wsV RX5 82 RX3 yX3_valueOfBlock wsX3_valueOfBlock) := goodIn_app (goodIn_of _ (by decide +kernel)) ggX5_blockAt_X3_valueOfBlock
theorem dX5_blockAt_0 : decode cX5_blockAt 0 = .ok (.aload_n 0, 1) := by decide +kernel
theorem dX5_blockAt_1 : decode cX5_blockAt 1 = .ok (.iload_n 1, 1) := by decide +kernel
theorem dX5_blockAt_2 : decode cX5_blockAt 2 = .ok (.invokevirtual 89, 3) := by decide +kernel
theorem dX5_blockAt_5 : decode cX5_blockAt 5 = .ok (.ifCond .ne 13, 3) := by decide +kernel
theorem dX5_blockAt_8 : decode cX5_blockAt 8 = .ok (.new 77, 3) := by decide +kernel
theorem dX5_blockAt_11 : decode cX5_blockAt 11 = .ok (.dup, 1) := by decide +kernel
theorem dX5_blockAt_12 : decode cX5_blockAt 12 = .ok (.ldc 93, 2) := by decide +kernel
theorem dX5_blockAt_14 : decode cX5_blockAt 14 = .ok (.invokespecial 81, 3) := by decide +kernel
theorem dX5_blockAt_17 : decode cX5_blockAt 17 = .ok (.athrow, 1) := by decide +kernel
theorem dX5_blockAt_18 : decode cX5_blockAt 18 = .ok (.aload_n 0, 1) := by decide +kernel
theorem dX5_blockAt_19 : decode cX5_blockAt 19 = .ok (.getfield 19, 3) := by decide +kernel
theorem dX5_blockAt_22 : decode cX5_blockAt 22 = .ok (.iload_n 1, 1) := by decide +kernel
theorem dX5_blockAt_23 : decode cX5_blockAt 23 = .ok (.invokevirtual 82, 3) := by decide +kernel
theorem dX5_blockAt_26 : decode cX5_blockAt 26 = .ok (.ireturn, 1) := by decide +kernel
set_option maxRecDepth 20000 in
theorem ggX5_degree_X5_drawn : GoodIn wsX5_degree wsX5_drawn := goodIn_r _ [5, 6, 7, 8, 9, 10, 11, 12, 13, 14, 15, 16, 17, 18, 19, 20, 21, 22, 23, 24, 25, 26, 27, 28, 29, 30, 31, 32, 33, 34, 35, 36, 37, 38, 39, 40, 41, 42, 43, 44, 45, 46, 47, 48, 49, 50, 51, 52, 53, 4, 54, 59, 60, 61, 62, 63, 64, 65, 66, 67, 68, 69, 70, 71] (by decide +kernel) (by decide +kernel)
set_option maxRecDepth 20000 in
theorem gX5_degree_X5_drawn : GoodIn wsX5_degree (wsV RX5 95 RX5 yX5_drawn wsX5_drawn) := goodIn_app (goodIn_of _ (by decide +kernel)) ggX5_degree_X5_drawn
set_option maxRecDepth 20000 in
theorem ggX5_degree_X0_size : GoodIn wsX5_degree wsX0_size := goodIn_r _ [58, 26, 67, 68, 69, 70] (by decide +kernel) (by decide +kernel)
set_option maxRecDepth 20000 in
theorem gX5_degree_X0_size : GoodIn wsX5_degree (wsV RX5 99 RX0 yX0_size wsX0_size) := goodIn_app (goodIn_of _ (by decide +kernel)) ggX5_degree_X0_size
theorem dX5_degree_0 : decode cX5_degree 0 = .ok (.aload_n 0, 1) := by decide +kernel
theorem dX5_degree_1 : decode cX5_degree 1 = .ok (.iload_n 1, 1) := by decide +kernel
theorem dX5_degree_2 : decode cX5_degree 2 = .ok (.invokevirtual 95, 3) := by decide +kernel
theorem dX5_degree_5 : decode cX5_degree 5 = .ok (.invokevirtual 99, 3) := by decide +kernel
theorem dX5_degree_8 : decode cX5_degree 8 = .ok (.ireturn, 1) := by decide +kernel
set_option maxRecDepth 20000 in
theorem ggX5_blockOf_X5_drawn : GoodIn wsX5_blockOf wsX5_drawn := goodIn_r _ [7, 8, 9, 10, 11, 12, 13, 14, 15, 16, 17, 18, 19, 20, 21, 22, 23, 24, 25, 26, 27, 28, 29, 30, 31, 32, 33, 34, 35, 36, 37, 38, 39, 40, 41, 42, 43, 44, 45, 46, 47, 48, 49, 50, 51, 52, 53, 54, 55, 6, 56, 65, 66, 67, 68, 69, 70, 71, 72, 73, 74, 75, 76, 77] (by decide +kernel) (by decide +kernel)
set_option maxRecDepth 20000 in
theorem gX5_blockOf_X5_drawn : GoodIn wsX5_blockOf (wsV RX5 95 RX5 yX5_drawn wsX5_drawn) := goodIn_app (goodIn_of _ (by decide +kernel)) ggX5_blockOf_X5_drawn
set_option maxRecDepth 20000 in
theorem ggX5_blockOf_X0_size : GoodIn wsX5_blockOf wsX0_size := goodIn_r _ [60, 28, 73, 74, 75, 76] (by decide +kernel) (by decide +kernel)
set_option maxRecDepth 20000 in
theorem gX5_blockOf_X0_size : GoodIn wsX5_blockOf (wsV RX5 99 RX0 yX0_size wsX0_size) := goodIn_app (goodIn_of _ (by decide +kernel)) ggX5_blockOf_X0_size
set_option maxRecDepth 20000 in
theorem ggX5_blockOf_X0_blockInPlace : GoodIn wsX5_blockOf wsX0_blockInPlace := goodIn_r _ [64, 30, 73, 74, 75, 76] (by decide +kernel) (by decide +kernel)
set_option maxRecDepth 20000 in
theorem gX5_blockOf_X0_blockInPlace : GoodIn wsX5_blockOf (wsV RX5 104 RX0 yX0_blockInPlace wsX0_blockInPlace) := goodIn_app (goodIn_of _ (by decide +kernel)) ggX5_blockOf_X0_blockInPlace
theorem dX5_blockOf_0 : decode cX5_blockOf 0 = .ok (.aload_n 0, 1) := by decide +kernel
theorem dX5_blockOf_1 : decode cX5_blockOf 1 = .ok (.iload_n 1, 1) := by decide +kernel
theorem dX5_blockOf_2 : decode cX5_blockOf 2 = .ok (.invokevirtual 95, 3) := by decide +kernel
theorem dX5_blockOf_5 : decode cX5_blockOf 5 = .ok (.astore_n 3, 1) := by decide +kernel
theorem dX5_blockOf_6 : decode cX5_blockOf 6 = .ok (.iload_n 2, 1) := by decide +kernel
theorem dX5_blockOf_7 : decode cX5_blockOf 7 = .ok (.ifCond .lt 11, 3) := by decide +kernel
theorem dX5_blockOf_10 : decode cX5_blockOf 10 = .ok (.iload_n 2, 1) := by decide +kernel
theorem dX5_blockOf_11 : decode cX5_blockOf 11 = .ok (.aload_n 3, 1) := by decide +kernel
theorem dX5_blockOf_12 : decode cX5_blockOf 12 = .ok (.invokevirtual 99, 3) := by decide +kernel
theorem dX5_blockOf_15 : decode cX5_blockOf 15 = .ok (.if_icmp .lt 13, 3) := by decide +kernel
theorem dX5_blockOf_18 : decode cX5_blockOf 18 = .ok (.new 77, 3) := by decide +kernel
theorem dX5_blockOf_21 : decode cX5_blockOf 21 = .ok (.dup, 1) := by decide +kernel
theorem dX5_blockOf_22 : decode cX5_blockOf 22 = .ok (.ldc 102, 2) := by decide +kernel
theorem dX5_blockOf_24 : decode cX5_blockOf 24 = .ok (.invokespecial 81, 3) := by decide +kernel
theorem dX5_blockOf_27 : decode cX5_blockOf 27 = .ok (.athrow, 1) := by decide +kernel
theorem dX5_blockOf_28 : decode cX5_blockOf 28 = .ok (.aload_n 3, 1) := by decide +kernel
theorem dX5_blockOf_29 : decode cX5_blockOf 29 = .ok (.iload_n 2, 1) := by decide +kernel
theorem dX5_blockOf_30 : decode cX5_blockOf 30 = .ok (.invokevirtual 104, 3) := by decide +kernel
theorem dX5_blockOf_33 : decode cX5_blockOf 33 = .ok (.ireturn, 1) := by decide +kernel
set_option maxRecDepth 20000 in
theorem ggX5_valueOf_X5_drawn : GoodIn wsX5_valueOf wsX5_drawn := goodIn_r _ [6, 7, 8, 1, 9, 10, 11, 12, 13, 14, 15, 16, 17, 18, 19, 20, 21, 22, 23, 24, 25, 26, 27, 28, 29, 30, 31, 32, 33, 34, 35, 36, 37, 38, 39, 40, 41, 42, 43, 44, 45, 46, 47, 48, 49, 50, 51, 52, 53, 5, 54, 80, 81, 82, 83, 84, 85, 86, 87, 88, 89, 90, 91, 92] (by decide +kernel) (by decide +kernel)
set_option maxRecDepth 20000 in
theorem gX5_valueOf_X5_drawn : GoodIn wsX5_valueOf (wsV RX5 95 RX5 yX5_drawn wsX5_drawn) := goodIn_app (goodIn_of _ (by decide +kernel)) ggX5_valueOf_X5_drawn
set_option maxRecDepth 20000 in
theorem ggX5_valueOf_X0_blockSet : GoodIn wsX5_valueOf wsX0_blockSet := goodIn_r _ [58, 27, 88, 89, 90, 91] (by decide +kernel) (by decide +kernel)
set_option maxRecDepth 20000 in
theorem gX5_valueOf_X0_blockSet : GoodIn wsX5_valueOf (wsV RX5 107 RX0 yX0_blockSet wsX0_blockSet) := goodIn_app (goodIn_of _ (by decide +kernel)) ggX5_valueOf_X0_blockSet
set_option maxRecDepth 20000 in
theorem ggX5_valueOf_X3_valueOfSet : GoodIn wsX5_valueOf wsX3_valueOfSet := goodIn_r _ [62, 14, 63, 64, 65, 12, 66, 67, 68, 5, 69, 70, 53, 54, 71, 10, 11, 13, 15, 72, 73, 74, 75, 76, 77, 78, 79, 85, 86, 87] (by decide +kernel) (by decide +kernel)
set_option maxRecDepth 20000 in
theorem gX5_valueOf_X3_valueOfSet : GoodIn wsX5_valueOf (wsV RX5 111 RX3 yX3_valueOfSet wsX3_valueOfSet) := goodIn_app (goodIn_of _ (by decide +kernel)) ggX5_valueOf_X3_valueOfSet
theorem dX5_valueOf_0 : decode cX5_valueOf 0 = .ok (.aload_n 0, 1) := by decide +kernel
theorem dX5_valueOf_1 : decode cX5_valueOf 1 = .ok (.getfield 19, 3) := by decide +kernel
theorem dX5_valueOf_4 : decode cX5_valueOf 4 = .ok (.aload_n 0, 1) := by decide +kernel
theorem dX5_valueOf_5 : decode cX5_valueOf 5 = .ok (.iload_n 1, 1) := by decide +kernel
theorem dX5_valueOf_6 : decode cX5_valueOf 6 = .ok (.invokevirtual 95, 3) := by decide +kernel
theorem dX5_valueOf_9 : decode cX5_valueOf 9 = .ok (.invokevirtual 107, 3) := by decide +kernel
theorem dX5_valueOf_12 : decode cX5_valueOf 12 = .ok (.invokevirtual 111, 3) := by decide +kernel
theorem dX5_valueOf_15 : decode cX5_valueOf 15 = .ok (.ireturn, 1) := by decide +kernel
set_option maxRecDepth 20000 in
theorem ggX5_receive_X5_drawn : GoodIn wsX5_receive wsX5_drawn := goodIn_r _ [7, 8, 9, 10, 11, 12, 13, 14, 15, 16, 17, 18, 19, 20, 21, 22, 23, 24, 25, 26, 27, 28, 29, 30, 31, 32, 33, 34, 35, 36, 37, 38, 39, 40, 41, 42, 43, 44, 45, 46, 47, 48, 49, 50, 51, 52, 53, 54, 55, 6, 56, 140, 141, 142, 143, 144, 145, 146, 147, 148, 149, 150, 151, 152] (by decide +kernel) (by decide +kernel)
set_option maxRecDepth 20000 in
theorem gX5_receive_X5_drawn : GoodIn wsX5_receive (wsV RX5 95 RX5 yX5_drawn wsX5_drawn) := goodIn_app (goodIn_of _ (by decide +kernel)) ggX5_receive_X5_drawn
set_option maxRecDepth 20000 in
theorem ggX5_receive_X0_blockSet : GoodIn wsX5_receive wsX0_blockSet := goodIn_r _ [60, 29, 148, 149, 150, 151] (by decide +kernel) (by decide +kernel)
set_option maxRecDepth 20000 in
theorem gX5_receive_X0_blockSet : GoodIn wsX5_receive (wsV RX5 107 RX0 yX0_blockSet wsX0_blockSet) := goodIn_app (goodIn_of _ (by decide +kernel)) ggX5_receive_X0_blockSet
set_option maxRecDepth 20000 in
theorem ggX5_receive_X5_canTake : GoodIn wsX5_receive wsX5_canTake := goodIn_r _ [64, 65, 10, 66, 67, 68, 69, 70, 71, 72, 73, 74, 75, 14, 76, 17, 77, 78, 79, 80, 81, 82, 83, 84, 85, 86, 87, 6, 88, 89, 55, 56, 90, 91, 92, 93, 94, 140, 141, 142, 143, 144, 153, 154, 155, 156, 157, 158, 145, 146, 147, 159, 160, 161] (by decide +kernel) (by decide +kernel)
set_option maxRecDepth 20000 in
theorem gX5_receive_X5_canTake : GoodIn wsX5_receive (wsV RX5 115 RX5 yX5_canTake wsX5_canTake) := goodIn_app (goodIn_of _ (by decide +kernel)) ggX5_receive_X5_canTake
set_option maxRecDepth 20000 in
theorem ggX5_receive_X5_take : GoodIn wsX5_receive wsX5_take := goodIn_r _ [98, 65, 99, 100, 101, 6, 102, 66, 103, 104, 105, 70, 106, 72, 107, 108, 109, 110, 80, 111, 86, 94, 112, 82, 83, 84, 85, 87, 88, 89, 55, 56, 113, 114, 115, 116, 117, 118, 119, 120, 121, 90, 91, 92, 93, 122, 123, 124, 125, 126, 127, 128, 129, 130, 131, 132, 133, 134, 135, 136, 137, 138, 139, 140, 141, 142, 143, 144, 153, 154, 155, 156, 157, 158, 159, 160, 161] (by decide +kernel) (by decide +kernel)
set_option maxRecDepth 20000 in
theorem gX5_receive_X5_take : GoodIn wsX5_receive (wsV RX5 121 RX5 yX5_take wsX5_take) := goodIn_app (goodIn_of _ (by decide +kernel)) ggX5_receive_X5_take
theorem dX5_receive_0 : decode cX5_receive 0 = .ok (.aload_n 0, 1) := by decide +kernel
theorem dX5_receive_1 : decode cX5_receive 1 = .ok (.iload_n 1, 1) := by decide +kernel
theorem dX5_receive_2 : decode cX5_receive 2 = .ok (.invokevirtual 95, 3) := by decide +kernel
theorem dX5_receive_5 : decode cX5_receive 5 = .ok (.invokevirtual 107, 3) := by decide +kernel
theorem dX5_receive_8 : decode cX5_receive 8 = .ok (.lstore_n 3, 1) := by decide +kernel
theorem dX5_receive_9 : decode cX5_receive 9 = .ok (.aload_n 0, 1) := by decide +kernel
theorem dX5_receive_10 : decode cX5_receive 10 = .ok (.lload_n 3, 1) := by decide +kernel
theorem dX5_receive_11 : decode cX5_receive 11 = .ok (.iload_n 2, 1) := by decide +kernel
theorem dX5_receive_12 : decode cX5_receive 12 = .ok (.invokevirtual 115, 3) := by decide +kernel
theorem dX5_receive_15 : decode cX5_receive 15 = .ok (.ifCond .ne 13, 3) := by decide +kernel
theorem dX5_receive_18 : decode cX5_receive 18 = .ok (.new 65, 3) := by decide +kernel
theorem dX5_receive_21 : decode cX5_receive 21 = .ok (.dup, 1) := by decide +kernel
theorem dX5_receive_22 : decode cX5_receive 22 = .ok (.ldc 119, 2) := by decide +kernel
theorem dX5_receive_24 : decode cX5_receive 24 = .ok (.invokespecial 69, 3) := by decide +kernel
theorem dX5_receive_27 : decode cX5_receive 27 = .ok (.athrow, 1) := by decide +kernel
theorem dX5_receive_28 : decode cX5_receive 28 = .ok (.aload_n 0, 1) := by decide +kernel
theorem dX5_receive_29 : decode cX5_receive 29 = .ok (.lload_n 3, 1) := by decide +kernel
theorem dX5_receive_30 : decode cX5_receive 30 = .ok (.iload_n 2, 1) := by decide +kernel
theorem dX5_receive_31 : decode cX5_receive 31 = .ok (.invokevirtual 121, 3) := by decide +kernel
theorem dX5_receive_34 : decode cX5_receive 34 = .ok (.ireturn, 1) := by decide +kernel
set_option maxRecDepth 20000 in
theorem ggX5_receiveAll_X5_drawn : GoodIn wsX5_receiveAll wsX5_drawn := goodIn_r _ [8, 9, 10, 3, 11, 12, 13, 14, 15, 16, 17, 18, 19, 20, 21, 22, 23, 24, 25, 26, 27, 28, 29, 30, 31, 32, 33, 34, 35, 36, 37, 38, 39, 40, 41, 42, 43, 44, 45, 46, 47, 48, 49, 50, 51, 52, 53, 54, 55, 7, 56, 158, 159, 160, 161, 162, 163, 164, 165, 166, 167, 168, 169, 170] (by decide +kernel) (by decide +kernel)
set_option maxRecDepth 20000 in
theorem gX5_receiveAll_X5_drawn : GoodIn wsX5_receiveAll (wsV RX5 95 RX5 yX5_drawn wsX5_drawn) := goodIn_app (goodIn_of _ (by decide +kernel)) ggX5_receiveAll_X5_drawn
set_option maxRecDepth 20000 in
theorem ggX5_receiveAll_X0_blockSet : GoodIn wsX5_receiveAll wsX0_blockSet := goodIn_r _ [60, 29, 166, 167, 168, 169] (by decide +kernel) (by decide +kernel)
set_option maxRecDepth 20000 in
theorem gX5_receiveAll_X0_blockSet : GoodIn wsX5_receiveAll (wsV RX5 107 RX0 yX0_blockSet wsX0_blockSet) := goodIn_app (goodIn_of _ (by decide +kernel)) ggX5_receiveAll_X0_blockSet
set_option maxRecDepth 20000 in
theorem ggX5_receiveAll_X3_valueOfSet : GoodIn wsX5_receiveAll wsX3_valueOfSet := goodIn_r _ [64, 16, 65, 66, 67, 14, 68, 69, 70, 7, 71, 72, 55, 56, 73, 12, 13, 15, 17, 74, 75, 76, 77, 78, 79, 80, 81, 163, 164, 165] (by decide +kernel) (by decide +kernel)
set_option maxRecDepth 20000 in
theorem gX5_receiveAll_X3_valueOfSet : GoodIn wsX5_receiveAll (wsV RX5 111 RX3 yX3_valueOfSet wsX3_valueOfSet) := goodIn_app (goodIn_of _ (by decide +kernel)) ggX5_receiveAll_X3_valueOfSet
set_option maxRecDepth 20000 in
theorem ggX5_receiveAll_X5_canTake : GoodIn wsX5_receiveAll wsX5_canTake := goodIn_r _ [85, 86, 3, 87, 88, 89, 90, 91, 92, 93, 94, 95, 96, 14, 97, 17, 98, 99, 100, 101, 102, 103, 104, 105, 106, 107, 70, 7, 71, 72, 55, 56, 108, 109, 110, 111, 112, 158, 159, 160, 161, 162, 171, 172, 173, 174, 175, 176, 163, 164, 165, 177, 178, 179] (by decide +kernel) (by decide +kernel)
set_option maxRecDepth 20000 in
theorem gX5_receiveAll_X5_canTake : GoodIn wsX5_receiveAll (wsV RX5 115 RX5 yX5_canTake wsX5_canTake) := goodIn_app (goodIn_of _ (by decide +kernel)) ggX5_receiveAll_X5_canTake
set_option maxRecDepth 20000 in
theorem ggX5_receiveAll_X5_take : GoodIn wsX5_receiveAll wsX5_take := goodIn_r _ [116, 86, 117, 118, 119, 7, 120, 87, 121, 122, 123, 91, 124, 93, 125, 126, 127, 128, 101, 129, 107, 112, 130, 103, 104, 105, 106, 70, 71, 72, 55, 56, 131, 132, 133, 134, 135, 136, 137, 138, 139, 108, 109, 110, 111, 140, 141, 142, 143, 144, 145, 146, 147, 148, 149, 150, 151, 152, 153, 154, 155, 156, 157, 158, 159, 160, 161, 162, 171, 172, 173, 174, 175, 176, 177, 178, 179] (by decide +kernel) (by decide +kernel)
set_option maxRecDepth 20000 in
theorem gX5_receiveAll_X5_take : GoodIn wsX5_receiveAll (wsV RX5 121 RX5 yX5_take wsX5_take) := goodIn_app (goodIn_of _ (by decide +kernel)) ggX5_receiveAll_X5_take
theorem dX5_receiveAll_0 : decode cX5_receiveAll 0 = .ok (.iload_n 2, 1) := by decide +kernel
theorem dX5_receiveAll_1 : decode cX5_receiveAll 1 = .ok (.iconst 1, 1) := by decide +kernel
theorem dX5_receiveAll_2 : decode cX5_receiveAll 2 = .ok (.if_icmp .lt 9, 3) := by decide +kernel
theorem dX5_receiveAll_5 : decode cX5_receiveAll 5 = .ok (.iload_n 2, 1) := by decide +kernel
theorem dX5_receiveAll_6 : decode cX5_receiveAll 6 = .ok (.bipush 40, 2) := by decide +kernel
theorem dX5_receiveAll_8 : decode cX5_receiveAll 8 = .ok (.if_icmp .le 13, 3) := by decide +kernel
theorem dX5_receiveAll_11 : decode cX5_receiveAll 11 = .ok (.new 48, 3) := by decide +kernel
theorem dX5_receiveAll_14 : decode cX5_receiveAll 14 = .ok (.dup, 1) := by decide +kernel
theorem dX5_receiveAll_15 : decode cX5_receiveAll 15 = .ok (.ldc 125, 2) := by decide +kernel
theorem dX5_receiveAll_17 : decode cX5_receiveAll 17 = .ok (.invokespecial 52, 3) := by decide +kernel
theorem dX5_receiveAll_20 : decode cX5_receiveAll 20 = .ok (.athrow, 1) := by decide +kernel
theorem dX5_receiveAll_21 : decode cX5_receiveAll 21 = .ok (.iconst 0, 1) := by decide +kernel
theorem dX5_receiveAll_22 : decode cX5_receiveAll 22 = .ok (.istore_n 3, 1) := by decide +kernel
theorem dX5_receiveAll_23 : decode cX5_receiveAll 23 = .ok (.iload_n 3, 1) := by decide +kernel
theorem dX5_receiveAll_24 : decode cX5_receiveAll 24 = .ok (.iload_n 2, 1) := by decide +kernel
theorem dX5_receiveAll_25 : decode cX5_receiveAll 25 = .ok (.if_icmp .ge 54, 3) := by decide +kernel
theorem dX5_receiveAll_28 : decode cX5_receiveAll 28 = .ok (.aload_n 0, 1) := by decide +kernel
theorem dX5_receiveAll_29 : decode cX5_receiveAll 29 = .ok (.iload_n 1, 1) := by decide +kernel
theorem dX5_receiveAll_30 : decode cX5_receiveAll 30 = .ok (.iload_n 3, 1) := by decide +kernel
theorem dX5_receiveAll_31 : decode cX5_receiveAll 31 = .ok (.iadd, 1) := by decide +kernel
theorem dX5_receiveAll_32 : decode cX5_receiveAll 32 = .ok (.invokevirtual 95, 3) := by decide +kernel
theorem dX5_receiveAll_35 : decode cX5_receiveAll 35 = .ok (.invokevirtual 107, 3) := by decide +kernel
theorem dX5_receiveAll_38 : decode cX5_receiveAll 38 = .ok (.lstore 4, 2) := by decide +kernel
theorem dX5_receiveAll_40 : decode cX5_receiveAll 40 = .ok (.aload_n 0, 1) := by decide +kernel
theorem dX5_receiveAll_41 : decode cX5_receiveAll 41 = .ok (.getfield 19, 3) := by decide +kernel
theorem dX5_receiveAll_44 : decode cX5_receiveAll 44 = .ok (.lload 4, 2) := by decide +kernel
theorem dX5_receiveAll_46 : decode cX5_receiveAll 46 = .ok (.invokevirtual 111, 3) := by decide +kernel
theorem dX5_receiveAll_49 : decode cX5_receiveAll 49 = .ok (.istore 6, 2) := by decide +kernel
theorem dX5_receiveAll_51 : decode cX5_receiveAll 51 = .ok (.aload_n 0, 1) := by decide +kernel
theorem dX5_receiveAll_52 : decode cX5_receiveAll 52 = .ok (.lload 4, 2) := by decide +kernel
theorem dX5_receiveAll_54 : decode cX5_receiveAll 54 = .ok (.iload 6, 2) := by decide +kernel
theorem dX5_receiveAll_56 : decode cX5_receiveAll 56 = .ok (.invokevirtual 115, 3) := by decide +kernel
theorem dX5_receiveAll_59 : decode cX5_receiveAll 59 = .ok (.ifCond .ne 5, 3) := by decide +kernel
theorem dX5_receiveAll_62 : decode cX5_receiveAll 62 = .ok (.iload_n 3, 1) := by decide +kernel
theorem dX5_receiveAll_63 : decode cX5_receiveAll 63 = .ok (.ireturn, 1) := by decide +kernel
theorem dX5_receiveAll_64 : decode cX5_receiveAll 64 = .ok (.aload_n 0, 1) := by decide +kernel
theorem dX5_receiveAll_65 : decode cX5_receiveAll 65 = .ok (.lload 4, 2) := by decide +kernel
theorem dX5_receiveAll_67 : decode cX5_receiveAll 67 = .ok (.iload 6, 2) := by decide +kernel
theorem dX5_receiveAll_69 : decode cX5_receiveAll 69 = .ok (.invokevirtual 121, 3) := by decide +kernel
theorem dX5_receiveAll_72 : decode cX5_receiveAll 72 = .ok (.pop, 1) := by decide +kernel
theorem dX5_receiveAll_73 : decode cX5_receiveAll 73 = .ok (.iinc 3 1, 3) := by decide +kernel
theorem dX5_receiveAll_76 : decode cX5_receiveAll 76 = .ok (.goto (-53), 3) := by decide +kernel
theorem dX5_receiveAll_79 : decode cX5_receiveAll 79 = .ok (.iload_n 2, 1) := by decide +kernel
theorem dX5_receiveAll_80 : decode cX5_receiveAll 80 = .ok (.ireturn, 1) := by decide +kernel
set_option maxRecDepth 20000 in
theorem ggX5_equations_X2_equationCount : GoodIn wsX5_equations wsX2_equationCount := goodIn_r _ [6, 7, 13, 14, 15, 16, 17, 18] (by decide +kernel) (by decide +kernel)
set_option maxRecDepth 20000 in
theorem gX5_equations_X2_equationCount : GoodIn wsX5_equations (wsV RX5 127 RX2 yX2_equationCount wsX2_equationCount) := goodIn_app (goodIn_of _ (by decide +kernel)) ggX5_equations_X2_equationCount
theorem dX5_equations_0 : decode cX5_equations 0 = .ok (.aload_n 0, 1) := by decide +kernel
theorem dX5_equations_1 : decode cX5_equations 1 = .ok (.getfield 26, 3) := by decide +kernel
theorem dX5_equations_4 : decode cX5_equations 4 = .ok (.invokevirtual 127, 3) := by decide +kernel
theorem dX5_equations_7 : decode cX5_equations 7 = .ok (.ireturn, 1) := by decide +kernel
set_option maxRecDepth 20000 in
theorem ggX5_rank_X1_rowCount : GoodIn wsX5_rank wsX1_rowCount := goodIn_r _ [6, 7, 13, 14, 15] (by decide +kernel) (by decide +kernel)
set_option maxRecDepth 20000 in
theorem gX5_rank_X1_rowCount : GoodIn wsX5_rank (wsV RX5 130 RX1 yX1_rowCount wsX1_rowCount) := goodIn_app (goodIn_of _ (by decide +kernel)) ggX5_rank_X1_rowCount
theorem dX5_rank_0 : decode cX5_rank 0 = .ok (.aload_n 0, 1) := by decide +kernel
theorem dX5_rank_1 : decode cX5_rank 1 = .ok (.getfield 33, 3) := by decide +kernel
theorem dX5_rank_4 : decode cX5_rank 4 = .ok (.invokevirtual 130, 3) := by decide +kernel
theorem dX5_rank_7 : decode cX5_rank 7 = .ok (.ireturn, 1) := by decide +kernel
set_option maxRecDepth 20000 in
theorem ggX5_peeled_X2_peeledCount : GoodIn wsX5_peeled wsX2_peeledCount := goodIn_r _ [6, 7, 13, 14, 15, 16, 17, 18] (by decide +kernel) (by decide +kernel)
set_option maxRecDepth 20000 in
theorem gX5_peeled_X2_peeledCount : GoodIn wsX5_peeled (wsV RX5 133 RX2 yX2_peeledCount wsX2_peeledCount) := goodIn_app (goodIn_of _ (by decide +kernel)) ggX5_peeled_X2_peeledCount
theorem dX5_peeled_0 : decode cX5_peeled 0 = .ok (.aload_n 0, 1) := by decide +kernel
theorem dX5_peeled_1 : decode cX5_peeled 1 = .ok (.getfield 26, 3) := by decide +kernel
theorem dX5_peeled_4 : decode cX5_peeled 4 = .ok (.invokevirtual 133, 3) := by decide +kernel
theorem dX5_peeled_7 : decode cX5_peeled 7 = .ok (.ireturn, 1) := by decide +kernel
set_option maxRecDepth 20000 in
theorem ggX5_peeledAt_X2_peeledCount : GoodIn wsX5_peeledAt wsX2_peeledCount := goodIn_r _ [8, 9, 20, 21, 22, 23, 24, 25] (by decide +kernel) (by decide +kernel)
set_option maxRecDepth 20000 in
theorem gX5_peeledAt_X2_peeledCount : GoodIn wsX5_peeledAt (wsV RX5 133 RX2 yX2_peeledCount wsX2_peeledCount) := goodIn_app (goodIn_of _ (by decide +kernel)) ggX5_peeledAt_X2_peeledCount
set_option maxRecDepth 20000 in
theorem ggX5_peeledAt_X2_peeledInPlace : GoodIn wsX5_peeledAt wsX2_peeledInPlace := goodIn_r _ [13, 14, 20, 21, 22, 23, 24, 25] (by decide +kernel) (by decide +kernel)
set_option maxRecDepth 20000 in
theorem gX5_peeledAt_X2_peeledInPlace : GoodIn wsX5_peeledAt (wsV RX5 136 RX2 yX2_peeledInPlace wsX2_peeledInPlace) := goodIn_app (goodIn_of _ (by decide +kernel)) ggX5_peeledAt_X2_peeledInPlace
theorem dX5_peeledAt_0 : decode cX5_peeledAt 0 = .ok (.iload_n 1, 1) := by decide +kernel
theorem dX5_peeledAt_1 : decode cX5_peeledAt 1 = .ok (.ifCond .lt 14, 3) := by decide +kernel
theorem dX5_peeledAt_4 : decode cX5_peeledAt 4 = .ok (.iload_n 1, 1) := by decide +kernel
theorem dX5_peeledAt_5 : decode cX5_peeledAt 5 = .ok (.aload_n 0, 1) := by decide +kernel
theorem dX5_peeledAt_6 : decode cX5_peeledAt 6 = .ok (.getfield 26, 3) := by decide +kernel
theorem dX5_peeledAt_9 : decode cX5_peeledAt 9 = .ok (.invokevirtual 133, 3) := by decide +kernel
theorem dX5_peeledAt_12 : decode cX5_peeledAt 12 = .ok (.if_icmp .lt 13, 3) := by decide +kernel
theorem dX5_peeledAt_15 : decode cX5_peeledAt 15 = .ok (.new 77, 3) := by decide +kernel
theorem dX5_peeledAt_18 : decode cX5_peeledAt 18 = .ok (.dup, 1) := by decide +kernel
theorem dX5_peeledAt_19 : decode cX5_peeledAt 19 = .ok (.ldc 102, 2) := by decide +kernel
theorem dX5_peeledAt_21 : decode cX5_peeledAt 21 = .ok (.invokespecial 81, 3) := by decide +kernel
theorem dX5_peeledAt_24 : decode cX5_peeledAt 24 = .ok (.athrow, 1) := by decide +kernel
theorem dX5_peeledAt_25 : decode cX5_peeledAt 25 = .ok (.aload_n 0, 1) := by decide +kernel
theorem dX5_peeledAt_26 : decode cX5_peeledAt 26 = .ok (.getfield 26, 3) := by decide +kernel
theorem dX5_peeledAt_29 : decode cX5_peeledAt 29 = .ok (.iload_n 1, 1) := by decide +kernel
theorem dX5_peeledAt_30 : decode cX5_peeledAt 30 = .ok (.invokevirtual 136, 3) := by decide +kernel
theorem dX5_peeledAt_33 : decode cX5_peeledAt 33 = .ok (.ireturn, 1) := by decide +kernel
set_option maxRecDepth 20000 in
theorem ggX5_peeledBy_X5_isBlock : GoodIn wsX5_peeledBy wsX5_isBlock := goodIn_r _ [8, 9, 10, 11, 12, 13, 14, 15, 16, 23, 24, 25, 26, 27, 28, 29, 30] (by decide +kernel) (by decide +kernel)
set_option maxRecDepth 20000 in
theorem gX5_peeledBy_X5_isBlock : GoodIn wsX5_peeledBy (wsV RX5 89 RX5 yX5_isBlock wsX5_isBlock) := goodIn_app (goodIn_of _ (by decide +kernel)) ggX5_peeledBy_X5_isBlock
set_option maxRecDepth 20000 in
theorem ggX5_peeledBy_X2_equationThatPeeled : GoodIn wsX5_peeledBy wsX2_equationThatPeeled := goodIn_r _ [21, 22, 31, 32, 33, 34, 35, 36] (by decide +kernel) (by decide +kernel)
set_option maxRecDepth 20000 in
theorem gX5_peeledBy_X2_equationThatPeeled : GoodIn wsX5_peeledBy (wsV RX5 139 RX2 yX2_equationThatPeeled wsX2_equationThatPeeled) := goodIn_app (goodIn_of _ (by decide +kernel)) ggX5_peeledBy_X2_equationThatPeeled
theorem dX5_peeledBy_0 : decode cX5_peeledBy 0 = .ok (.aload_n 0, 1) := by decide +kernel
theorem dX5_peeledBy_1 : decode cX5_peeledBy 1 = .ok (.iload_n 1, 1) := by decide +kernel
theorem dX5_peeledBy_2 : decode cX5_peeledBy 2 = .ok (.invokevirtual 89, 3) := by decide +kernel
theorem dX5_peeledBy_5 : decode cX5_peeledBy 5 = .ok (.ifCond .ne 13, 3) := by decide +kernel
theorem dX5_peeledBy_8 : decode cX5_peeledBy 8 = .ok (.new 77, 3) := by decide +kernel
theorem dX5_peeledBy_11 : decode cX5_peeledBy 11 = .ok (.dup, 1) := by decide +kernel
theorem dX5_peeledBy_12 : decode cX5_peeledBy 12 = .ok (.ldc 93, 2) := by decide +kernel
theorem dX5_peeledBy_14 : decode cX5_peeledBy 14 = .ok (.invokespecial 81, 3) := by decide +kernel
theorem dX5_peeledBy_17 : decode cX5_peeledBy 17 = .ok (.athrow, 1) := by decide +kernel
theorem dX5_peeledBy_18 : decode cX5_peeledBy 18 = .ok (.aload_n 0, 1) := by decide +kernel
theorem dX5_peeledBy_19 : decode cX5_peeledBy 19 = .ok (.getfield 26, 3) := by decide +kernel
theorem dX5_peeledBy_22 : decode cX5_peeledBy 22 = .ok (.iload_n 1, 1) := by decide +kernel
theorem dX5_peeledBy_23 : decode cX5_peeledBy 23 = .ok (.invokevirtual 139, 3) := by decide +kernel
theorem dX5_peeledBy_26 : decode cX5_peeledBy 26 = .ok (.ireturn, 1) := by decide +kernel
set_option maxRecDepth 20000 in
theorem ggX5_determined_X3_blockCount : GoodIn wsX5_determined wsX3_blockCount := goodIn_r _ [7, 8, 9, 28, 29, 30] (by decide +kernel) (by decide +kernel)
set_option maxRecDepth 20000 in
theorem gX5_determined_X3_blockCount : GoodIn wsX5_determined (wsV RX5 86 RX3 yX3_blockCount wsX3_blockCount) := goodIn_app (goodIn_of _ (by decide +kernel)) ggX5_determined_X3_blockCount
set_option maxRecDepth 20000 in
theorem ggX5_determined_X1_countLeaving : GoodIn wsX5_determined wsX1_countLeaving := goodIn_r _ [14, 15, 16, 17, 13, 18, 19, 20, 21, 22, 31, 32, 33] (by decide +kernel) (by decide +kernel)
set_option maxRecDepth 20000 in
theorem gX5_determined_X1_countLeaving : GoodIn wsX5_determined (wsV RX5 142 RX1 yX1_countLeaving wsX1_countLeaving) := goodIn_app (goodIn_of _ (by decide +kernel)) ggX5_determined_X1_countLeaving
theorem dX5_determined_0 : decode cX5_determined 0 = .ok (.aload_n 0, 1) := by decide +kernel
theorem dX5_determined_1 : decode cX5_determined 1 = .ok (.getfield 33, 3) := by decide +kernel
theorem dX5_determined_4 : decode cX5_determined 4 = .ok (.lconst 0, 1) := by decide +kernel
theorem dX5_determined_5 : decode cX5_determined 5 = .ok (.aload_n 0, 1) := by decide +kernel
theorem dX5_determined_6 : decode cX5_determined 6 = .ok (.getfield 19, 3) := by decide +kernel
theorem dX5_determined_9 : decode cX5_determined 9 = .ok (.invokevirtual 86, 3) := by decide +kernel
theorem dX5_determined_12 : decode cX5_determined 12 = .ok (.invokevirtual 142, 3) := by decide +kernel
theorem dX5_determined_15 : decode cX5_determined 15 = .ok (.ireturn, 1) := by decide +kernel
set_option maxRecDepth 20000 in
theorem ggX5_isDetermined_X5_isBlock : GoodIn wsX5_isDetermined wsX5_isBlock := goodIn_r _ [8, 9, 10, 11, 12, 13, 14, 15, 16, 29, 30, 31, 32, 33, 34, 35, 36] (by decide +kernel) (by decide +kernel)
set_option maxRecDepth 20000 in
theorem gX5_isDetermined_X5_isBlock : GoodIn wsX5_isDetermined (wsV RX5 89 RX5 yX5_isBlock wsX5_isBlock) := goodIn_app (goodIn_of _ (by decide +kernel)) ggX5_isDetermined_X5_isBlock
set_option maxRecDepth 20000 in
theorem ggX5_isDetermined_X1_fixes : GoodIn wsX5_isDetermined wsX1_fixes := goodIn_r _ [21, 22, 23, 24, 20, 25, 26, 27, 7, 28, 37, 38, 39] (by decide +kernel) (by decide +kernel)
set_option maxRecDepth 20000 in
theorem gX5_isDetermined_X1_fixes : GoodIn wsX5_isDetermined (wsV RX5 145 RX1 yX1_fixes wsX1_fixes) := goodIn_app (goodIn_of _ (by decide +kernel)) ggX5_isDetermined_X1_fixes
theorem dX5_isDetermined_0 : decode cX5_isDetermined 0 = .ok (.aload_n 0, 1) := by decide +kernel
theorem dX5_isDetermined_1 : decode cX5_isDetermined 1 = .ok (.iload_n 1, 1) := by decide +kernel
theorem dX5_isDetermined_2 : decode cX5_isDetermined 2 = .ok (.invokevirtual 89, 3) := by decide +kernel
theorem dX5_isDetermined_5 : decode cX5_isDetermined 5 = .ok (.ifCond .ne 13, 3) := by decide +kernel
theorem dX5_isDetermined_8 : decode cX5_isDetermined 8 = .ok (.new 77, 3) := by decide +kernel
theorem dX5_isDetermined_11 : decode cX5_isDetermined 11 = .ok (.dup, 1) := by decide +kernel
theorem dX5_isDetermined_12 : decode cX5_isDetermined 12 = .ok (.ldc 93, 2) := by decide +kernel
theorem dX5_isDetermined_14 : decode cX5_isDetermined 14 = .ok (.invokespecial 81, 3) := by decide +kernel
theorem dX5_isDetermined_17 : decode cX5_isDetermined 17 = .ok (.athrow, 1) := by decide +kernel
theorem dX5_isDetermined_18 : decode cX5_isDetermined 18 = .ok (.aload_n 0, 1) := by decide +kernel
theorem dX5_isDetermined_19 : decode cX5_isDetermined 19 = .ok (.getfield 33, 3) := by decide +kernel
theorem dX5_isDetermined_22 : decode cX5_isDetermined 22 = .ok (.iload_n 1, 1) := by decide +kernel
theorem dX5_isDetermined_23 : decode cX5_isDetermined 23 = .ok (.invokevirtual 145, 3) := by decide +kernel
theorem dX5_isDetermined_26 : decode cX5_isDetermined 26 = .ok (.ireturn, 1) := by decide +kernel
set_option maxRecDepth 20000 in
theorem ggX5_recovered_X5_isBlock : GoodIn wsX5_recovered wsX5_isBlock := goodIn_r _ [10, 11, 12, 13, 14, 15, 16, 17, 18, 39, 40, 41, 42, 43, 44, 45, 46] (by decide +kernel) (by decide +kernel)
set_option maxRecDepth 20000 in
theorem gX5_recovered_X5_isBlock : GoodIn wsX5_recovered (wsV RX5 89 RX5 yX5_isBlock wsX5_isBlock) := goodIn_app (goodIn_of _ (by decide +kernel)) ggX5_recovered_X5_isBlock
set_option maxRecDepth 20000 in
theorem ggX5_recovered_X1_fixes : GoodIn wsX5_recovered wsX1_fixes := goodIn_r _ [23, 24, 25, 26, 22, 27, 28, 29, 9, 30, 47, 48, 49] (by decide +kernel) (by decide +kernel)
set_option maxRecDepth 20000 in
theorem gX5_recovered_X1_fixes : GoodIn wsX5_recovered (wsV RX5 145 RX1 yX1_fixes wsX1_fixes) := goodIn_app (goodIn_of _ (by decide +kernel)) ggX5_recovered_X1_fixes
set_option maxRecDepth 20000 in
theorem ggX5_recovered_X5_setOf : GoodIn wsX5_recovered wsX5_setOf := goodIn_r _ [30] (by decide +kernel) (by decide +kernel)
set_option maxRecDepth 20000 in
theorem gX5_recovered_X5_setOf : GoodIn wsX5_recovered (va_wsS RX5 150 yX5_setOf wsX5_setOf) := goodIn_app (goodIn_of _ (by decide +kernel)) ggX5_recovered_X5_setOf
set_option maxRecDepth 20000 in
theorem ggX5_recovered_X1_knownValue : GoodIn wsX5_recovered wsX1_knownValue := goodIn_r _ [35, 36, 37, 9, 38, 31, 29, 30, 47, 48, 49] (by decide +kernel) (by decide +kernel)
set_option maxRecDepth 20000 in
theorem gX5_recovered_X1_knownValue : GoodIn wsX5_recovered (wsV RX5 154 RX1 yX1_knownValue wsX1_knownValue) := goodIn_app (goodIn_of _ (by decide +kernel)) ggX5_recovered_X1_knownValue
theorem dX5_recovered_0 : decode cX5_recovered 0 = .ok (.aload_n 0, 1) := by decide +kernel
theorem dX5_recovered_1 : decode cX5_recovered 1 = .ok (.iload_n 1, 1) := by decide +kernel
theorem dX5_recovered_2 : decode cX5_recovered 2 = .ok (.invokevirtual 89, 3) := by decide +kernel
theorem dX5_recovered_5 : decode cX5_recovered 5 = .ok (.ifCond .ne 13, 3) := by decide +kernel
theorem dX5_recovered_8 : decode cX5_recovered 8 = .ok (.new 77, 3) := by decide +kernel
theorem dX5_recovered_11 : decode cX5_recovered 11 = .ok (.dup, 1) := by decide +kernel
theorem dX5_recovered_12 : decode cX5_recovered 12 = .ok (.ldc 93, 2) := by decide +kernel
theorem dX5_recovered_14 : decode cX5_recovered 14 = .ok (.invokespecial 81, 3) := by decide +kernel
theorem dX5_recovered_17 : decode cX5_recovered 17 = .ok (.athrow, 1) := by decide +kernel
theorem dX5_recovered_18 : decode cX5_recovered 18 = .ok (.aload_n 0, 1) := by decide +kernel
theorem dX5_recovered_19 : decode cX5_recovered 19 = .ok (.getfield 33, 3) := by decide +kernel
theorem dX5_recovered_22 : decode cX5_recovered 22 = .ok (.iload_n 1, 1) := by decide +kernel
theorem dX5_recovered_23 : decode cX5_recovered 23 = .ok (.invokevirtual 145, 3) := by decide +kernel
theorem dX5_recovered_26 : decode cX5_recovered 26 = .ok (.ifCond .ne 13, 3) := by decide +kernel
theorem dX5_recovered_29 : decode cX5_recovered 29 = .ok (.new 65, 3) := by decide +kernel
theorem dX5_recovered_32 : decode cX5_recovered 32 = .ok (.dup, 1) := by decide +kernel
theorem dX5_recovered_33 : decode cX5_recovered 33 = .ok (.ldc 148, 2) := by decide +kernel
theorem dX5_recovered_35 : decode cX5_recovered 35 = .ok (.invokespecial 69, 3) := by decide +kernel
theorem dX5_recovered_38 : decode cX5_recovered 38 = .ok (.athrow, 1) := by decide +kernel
theorem dX5_recovered_39 : decode cX5_recovered 39 = .ok (.aload_n 0, 1) := by decide +kernel
theorem dX5_recovered_40 : decode cX5_recovered 40 = .ok (.getfield 33, 3) := by decide +kernel
theorem dX5_recovered_43 : decode cX5_recovered 43 = .ok (.iload_n 1, 1) := by decide +kernel
theorem dX5_recovered_44 : decode cX5_recovered 44 = .ok (.invokestatic 150, 3) := by decide +kernel
theorem dX5_recovered_47 : decode cX5_recovered 47 = .ok (.invokevirtual 154, 3) := by decide +kernel
theorem dX5_recovered_50 : decode cX5_recovered 50 = .ok (.ireturn, 1) := by decide +kernel
set_option maxRecDepth 20000 in
theorem ggX5_wouldHelp_X5_drawn : GoodIn wsX5_wouldHelp wsX5_drawn := goodIn_r _ [6, 7, 8, 9, 10, 11, 12, 13, 14, 15, 16, 17, 18, 19, 20, 21, 22, 23, 24, 25, 26, 27, 28, 29, 30, 31, 32, 33, 34, 35, 36, 37, 38, 39, 40, 41, 42, 43, 44, 45, 46, 47, 48, 49, 50, 51, 52, 53, 54, 5, 55, 69, 70, 71, 72, 73, 74, 75, 76, 77, 78, 79, 80, 81] (by decide +kernel) (by decide +kernel)
set_option maxRecDepth 20000 in
theorem gX5_wouldHelp_X5_drawn : GoodIn wsX5_wouldHelp (wsV RX5 95 RX5 yX5_drawn wsX5_drawn) := goodIn_app (goodIn_of _ (by decide +kernel)) ggX5_wouldHelp_X5_drawn
set_option maxRecDepth 20000 in
theorem ggX5_wouldHelp_X0_blockSet : GoodIn wsX5_wouldHelp wsX0_blockSet := goodIn_r _ [59, 28, 77, 78, 79, 80] (by decide +kernel) (by decide +kernel)
set_option maxRecDepth 20000 in
theorem gX5_wouldHelp_X0_blockSet : GoodIn wsX5_wouldHelp (wsV RX5 107 RX0 yX0_blockSet wsX0_blockSet) := goodIn_app (goodIn_of _ (by decide +kernel)) ggX5_wouldHelp_X0_blockSet
set_option maxRecDepth 20000 in
theorem ggX5_wouldHelp_X1_remainder : GoodIn wsX5_wouldHelp wsX1_remainder := goodIn_r _ [64, 65, 66, 5, 67, 68, 54, 55, 82, 83, 84] (by decide +kernel) (by decide +kernel)
set_option maxRecDepth 20000 in
theorem gX5_wouldHelp_X1_remainder : GoodIn wsX5_wouldHelp (wsV RX5 157 RX1 yX1_remainder wsX1_remainder) := goodIn_app (goodIn_of _ (by decide +kernel)) ggX5_wouldHelp_X1_remainder
theorem dX5_wouldHelp_0 : decode cX5_wouldHelp 0 = .ok (.aload_n 0, 1) := by decide +kernel
theorem dX5_wouldHelp_1 : decode cX5_wouldHelp 1 = .ok (.getfield 33, 3) := by decide +kernel
theorem dX5_wouldHelp_4 : decode cX5_wouldHelp 4 = .ok (.aload_n 0, 1) := by decide +kernel
theorem dX5_wouldHelp_5 : decode cX5_wouldHelp 5 = .ok (.iload_n 1, 1) := by decide +kernel
theorem dX5_wouldHelp_6 : decode cX5_wouldHelp 6 = .ok (.invokevirtual 95, 3) := by decide +kernel
theorem dX5_wouldHelp_9 : decode cX5_wouldHelp 9 = .ok (.invokevirtual 107, 3) := by decide +kernel
theorem dX5_wouldHelp_12 : decode cX5_wouldHelp 12 = .ok (.invokevirtual 157, 3) := by decide +kernel
theorem dX5_wouldHelp_15 : decode cX5_wouldHelp 15 = .ok (.lconst 0, 1) := by decide +kernel
theorem dX5_wouldHelp_16 : decode cX5_wouldHelp 16 = .ok (.lcmp, 1) := by decide +kernel
theorem dX5_wouldHelp_17 : decode cX5_wouldHelp 17 = .ok (.ifCond .eq 7, 3) := by decide +kernel
theorem dX5_wouldHelp_20 : decode cX5_wouldHelp 20 = .ok (.iconst 1, 1) := by decide +kernel
theorem dX5_wouldHelp_21 : decode cX5_wouldHelp 21 = .ok (.goto 4, 3) := by decide +kernel
theorem dX5_wouldHelp_24 : decode cX5_wouldHelp 24 = .ok (.iconst 0, 1) := by decide +kernel
theorem dX5_wouldHelp_25 : decode cX5_wouldHelp 25 = .ok (.ireturn, 1) := by decide +kernel
set_option maxRecDepth 20000 in
theorem ggX5_wouldDetermine_X5_drawn : GoodIn wsX5_wouldDetermine wsX5_drawn := goodIn_r _ [7, 8, 9, 2, 10, 11, 12, 13, 14, 15, 16, 17, 18, 19, 20, 21, 22, 23, 24, 25, 26, 27, 28, 29, 30, 31, 32, 33, 34, 35, 36, 37, 38, 39, 40, 41, 42, 43, 44, 45, 46, 47, 48, 49, 50, 51, 52, 53, 54, 6, 55, 77, 78, 79, 80, 81, 82, 83, 84, 85, 86, 87, 88, 89] (by decide +kernel) (by decide +kernel)
set_option maxRecDepth 20000 in
theorem gX5_wouldDetermine_X5_drawn : GoodIn wsX5_wouldDetermine (wsV RX5 95 RX5 yX5_drawn wsX5_drawn) := goodIn_app (goodIn_of _ (by decide +kernel)) ggX5_wouldDetermine_X5_drawn
set_option maxRecDepth 20000 in
theorem ggX5_wouldDetermine_X0_blockSet : GoodIn wsX5_wouldDetermine wsX0_blockSet := goodIn_r _ [59, 28, 85, 86, 87, 88] (by decide +kernel) (by decide +kernel)
set_option maxRecDepth 20000 in
theorem gX5_wouldDetermine_X0_blockSet : GoodIn wsX5_wouldDetermine (wsV RX5 107 RX0 yX0_blockSet wsX0_blockSet) := goodIn_app (goodIn_of _ (by decide +kernel)) ggX5_wouldDetermine_X0_blockSet
set_option maxRecDepth 20000 in
theorem ggX5_wouldDetermine_X1_remainder : GoodIn wsX5_wouldDetermine wsX1_remainder := goodIn_r _ [64, 65, 66, 6, 67, 68, 54, 55, 90, 91, 92] (by decide +kernel) (by decide +kernel)
set_option maxRecDepth 20000 in
theorem gX5_wouldDetermine_X1_remainder : GoodIn wsX5_wouldDetermine (wsV RX5 157 RX1 yX1_remainder wsX1_remainder) := goodIn_app (goodIn_of _ (by decide +kernel)) ggX5_wouldDetermine_X1_remainder
set_option maxRecDepth 20000 in
theorem ggX5_wouldDetermine_X3_blockCount : GoodIn wsX5_wouldDetermine wsX3_blockCount := goodIn_r _ [14, 15, 16, 82, 83, 84] (by decide +kernel) (by decide +kernel)
set_option maxRecDepth 20000 in
theorem gX5_wouldDetermine_X3_blockCount : GoodIn wsX5_wouldDetermine (wsV RX5 86 RX3 yX3_blockCount wsX3_blockCount) := goodIn_app (goodIn_of _ (by decide +kernel)) ggX5_wouldDetermine_X3_blockCount
set_option maxRecDepth 20000 in
theorem ggX5_wouldDetermine_X1_countLeaving : GoodIn wsX5_wouldDetermine wsX1_countLeaving := goodIn_r _ [72, 73, 74, 75, 63, 76, 65, 54, 6, 55, 90, 91, 92] (by decide +kernel) (by decide +kernel)
set_option maxRecDepth 20000 in
theorem gX5_wouldDetermine_X1_countLeaving : GoodIn wsX5_wouldDetermine (wsV RX5 142 RX1 yX1_countLeaving wsX1_countLeaving) := goodIn_app (goodIn_of _ (by decide +kernel)) ggX5_wouldDetermine_X1_countLeaving
theorem dX5_wouldDetermine_0 : decode cX5_wouldDetermine 0 = .ok (.aload_n 0, 1) := by decide +kernel
theorem dX5_wouldDetermine_1 : decode cX5_wouldDetermine 1 = .ok (.getfield 33, 3) := by decide +kernel
theorem dX5_wouldDetermine_4 : decode cX5_wouldDetermine 4 = .ok (.aload_n 0, 1) := by decide +kernel
theorem dX5_wouldDetermine_5 : decode cX5_wouldDetermine 5 = .ok (.iload_n 1, 1) := by decide +kernel
theorem dX5_wouldDetermine_6 : decode cX5_wouldDetermine 6 = .ok (.invokevirtual 95, 3) := by decide +kernel
theorem dX5_wouldDetermine_9 : decode cX5_wouldDetermine 9 = .ok (.invokevirtual 107, 3) := by decide +kernel
theorem dX5_wouldDetermine_12 : decode cX5_wouldDetermine 12 = .ok (.invokevirtual 157, 3) := by decide +kernel
theorem dX5_wouldDetermine_15 : decode cX5_wouldDetermine 15 = .ok (.lstore_n 2, 1) := by decide +kernel
theorem dX5_wouldDetermine_16 : decode cX5_wouldDetermine 16 = .ok (.lload_n 2, 1) := by decide +kernel
theorem dX5_wouldDetermine_17 : decode cX5_wouldDetermine 17 = .ok (.lconst 0, 1) := by decide +kernel
theorem dX5_wouldDetermine_18 : decode cX5_wouldDetermine 18 = .ok (.lcmp, 1) := by decide +kernel
theorem dX5_wouldDetermine_19 : decode cX5_wouldDetermine 19 = .ok (.ifCond .ne 5, 3) := by decide +kernel
theorem dX5_wouldDetermine_22 : decode cX5_wouldDetermine 22 = .ok (.iconst 0, 1) := by decide +kernel
theorem dX5_wouldDetermine_23 : decode cX5_wouldDetermine 23 = .ok (.ireturn, 1) := by decide +kernel
theorem dX5_wouldDetermine_24 : decode cX5_wouldDetermine 24 = .ok (.aload_n 0, 1) := by decide +kernel
theorem dX5_wouldDetermine_25 : decode cX5_wouldDetermine 25 = .ok (.getfield 33, 3) := by decide +kernel
theorem dX5_wouldDetermine_28 : decode cX5_wouldDetermine 28 = .ok (.lload_n 2, 1) := by decide +kernel
theorem dX5_wouldDetermine_29 : decode cX5_wouldDetermine 29 = .ok (.aload_n 0, 1) := by decide +kernel
theorem dX5_wouldDetermine_30 : decode cX5_wouldDetermine 30 = .ok (.getfield 19, 3) := by decide +kernel
theorem dX5_wouldDetermine_33 : decode cX5_wouldDetermine 33 = .ok (.invokevirtual 86, 3) := by decide +kernel
theorem dX5_wouldDetermine_36 : decode cX5_wouldDetermine 36 = .ok (.invokevirtual 142, 3) := by decide +kernel
theorem dX5_wouldDetermine_39 : decode cX5_wouldDetermine 39 = .ok (.ireturn, 1) := by decide +kernel
set_option maxRecDepth 20000 in
theorem ggX5_nextHelpful_X5_missing : GoodIn wsX5_nextHelpful wsX5_missing := goodIn_r _ [5, 6, 7, 8, 9, 10, 11, 12, 13, 14, 15, 16, 17, 18, 19, 20, 82, 83, 84, 85, 86, 87, 88, 89, 90, 91, 92] (by decide +kernel) (by decide +kernel)
set_option maxRecDepth 20000 in
theorem gX5_nextHelpful_X5_missing : GoodIn wsX5_nextHelpful (wsV RX5 161 RX5 yX5_missing wsX5_missing) := goodIn_app (goodIn_of _ (by decide +kernel)) ggX5_nextHelpful_X5_missing
set_option maxRecDepth 20000 in
theorem ggX5_nextHelpful_X5_wouldHelp : GoodIn wsX5_nextHelpful wsX5_wouldHelp := goodIn_r _ [24, 7, 25, 26, 27, 4, 28, 29, 30, 6, 8, 9, 10, 11, 12, 13, 14, 31, 32, 33, 34, 35, 36, 37, 38, 39, 40, 41, 42, 43, 44, 45, 46, 47, 48, 49, 50, 51, 52, 53, 54, 55, 56, 57, 58, 59, 60, 61, 62, 63, 64, 65, 66, 67, 68, 69, 70, 71, 72, 73, 74, 75, 76, 18, 77, 78, 79, 80, 81, 82, 83, 84, 85, 86, 87, 88, 89, 93, 94, 95, 96, 97, 90, 91, 92] (by decide +kernel) (by decide +kernel)
set_option maxRecDepth 20000 in
theorem gX5_nextHelpful_X5_wouldHelp : GoodIn wsX5_nextHelpful (wsV RX5 164 RX5 yX5_wouldHelp wsX5_wouldHelp) := goodIn_app (goodIn_of _ (by decide +kernel)) ggX5_nextHelpful_X5_wouldHelp
theorem dX5_nextHelpful_0 : decode cX5_nextHelpful 0 = .ok (.aload_n 0, 1) := by decide +kernel
theorem dX5_nextHelpful_1 : decode cX5_nextHelpful 1 = .ok (.invokevirtual 161, 3) := by decide +kernel
theorem dX5_nextHelpful_4 : decode cX5_nextHelpful 4 = .ok (.ifCond .ne 5, 3) := by decide +kernel
theorem dX5_nextHelpful_7 : decode cX5_nextHelpful 7 = .ok (.iconst (-1), 1) := by decide +kernel
theorem dX5_nextHelpful_8 : decode cX5_nextHelpful 8 = .ok (.ireturn, 1) := by decide +kernel
theorem dX5_nextHelpful_9 : decode cX5_nextHelpful 9 = .ok (.iconst 0, 1) := by decide +kernel
theorem dX5_nextHelpful_10 : decode cX5_nextHelpful 10 = .ok (.istore_n 2, 1) := by decide +kernel
theorem dX5_nextHelpful_11 : decode cX5_nextHelpful 11 = .ok (.iload_n 2, 1) := by decide +kernel
theorem dX5_nextHelpful_12 : decode cX5_nextHelpful 12 = .ok (.sipush 500, 3) := by decide +kernel
theorem dX5_nextHelpful_15 : decode cX5_nextHelpful 15 = .ok (.if_icmp .ge 21, 3) := by decide +kernel
theorem dX5_nextHelpful_18 : decode cX5_nextHelpful 18 = .ok (.aload_n 0, 1) := by decide +kernel
theorem dX5_nextHelpful_19 : decode cX5_nextHelpful 19 = .ok (.iload_n 1, 1) := by decide +kernel
theorem dX5_nextHelpful_20 : decode cX5_nextHelpful 20 = .ok (.iload_n 2, 1) := by decide +kernel
theorem dX5_nextHelpful_21 : decode cX5_nextHelpful 21 = .ok (.iadd, 1) := by decide +kernel
theorem dX5_nextHelpful_22 : decode cX5_nextHelpful 22 = .ok (.invokevirtual 164, 3) := by decide +kernel
theorem dX5_nextHelpful_25 : decode cX5_nextHelpful 25 = .ok (.ifCond .eq 5, 3) := by decide +kernel
theorem dX5_nextHelpful_28 : decode cX5_nextHelpful 28 = .ok (.iload_n 2, 1) := by decide +kernel
theorem dX5_nextHelpful_29 : decode cX5_nextHelpful 29 = .ok (.ireturn, 1) := by decide +kernel
theorem dX5_nextHelpful_30 : decode cX5_nextHelpful 30 = .ok (.iinc 2 1, 3) := by decide +kernel
theorem dX5_nextHelpful_33 : decode cX5_nextHelpful 33 = .ok (.goto (-22), 3) := by decide +kernel
theorem dX5_nextHelpful_36 : decode cX5_nextHelpful 36 = .ok (.iconst (-1), 1) := by decide +kernel
theorem dX5_nextHelpful_37 : decode cX5_nextHelpful 37 = .ok (.ireturn, 1) := by decide +kernel
set_option maxRecDepth 20000 in
theorem ggX5_missing_X3_blockCount : GoodIn wsX5_missing wsX3_blockCount := goodIn_r _ [7, 8, 9, 21, 22, 23] (by decide +kernel) (by decide +kernel)
set_option maxRecDepth 20000 in
theorem gX5_missing_X3_blockCount : GoodIn wsX5_missing (wsV RX5 86 RX3 yX3_blockCount wsX3_blockCount) := goodIn_app (goodIn_of _ (by decide +kernel)) ggX5_missing_X3_blockCount
set_option maxRecDepth 20000 in
theorem ggX5_missing_X1_rowCount : GoodIn wsX5_missing wsX1_rowCount := goodIn_r _ [14, 15, 24, 25, 26] (by decide +kernel) (by decide +kernel)
set_option maxRecDepth 20000 in
theorem gX5_missing_X1_rowCount : GoodIn wsX5_missing (wsV RX5 130 RX1 yX1_rowCount wsX1_rowCount) := goodIn_app (goodIn_of _ (by decide +kernel)) ggX5_missing_X1_rowCount
theorem dX5_missing_0 : decode cX5_missing 0 = .ok (.aload_n 0, 1) := by decide +kernel
theorem dX5_missing_1 : decode cX5_missing 1 = .ok (.getfield 19, 3) := by decide +kernel
theorem dX5_missing_4 : decode cX5_missing 4 = .ok (.invokevirtual 86, 3) := by decide +kernel
theorem dX5_missing_7 : decode cX5_missing 7 = .ok (.aload_n 0, 1) := by decide +kernel
theorem dX5_missing_8 : decode cX5_missing 8 = .ok (.getfield 33, 3) := by decide +kernel
theorem dX5_missing_11 : decode cX5_missing 11 = .ok (.invokevirtual 130, 3) := by decide +kernel
theorem dX5_missing_14 : decode cX5_missing 14 = .ok (.isub, 1) := by decide +kernel
theorem dX5_missing_15 : decode cX5_missing 15 = .ok (.ireturn, 1) := by decide +kernel
set_option maxRecDepth 20000 in
theorem ggX5_beginTransfer_X3_begin : GoodIn wsX5_beginTransfer wsX3_begin := goodIn_r _ [8, 9, 10, 11, 12, 13, 14, 15, 98, 99, 100] (by decide +kernel) (by decide +kernel)
set_option maxRecDepth 20000 in
theorem gX5_beginTransfer_X3_begin : GoodIn wsX5_beginTransfer (wsV RX5 167 RX3 yX3_begin wsX3_begin) := goodIn_app (goodIn_of _ (by decide +kernel)) ggX5_beginTransfer_X3_begin
set_option maxRecDepth 20000 in
theorem ggX5_beginTransfer_X2_clear : GoodIn wsX5_beginTransfer wsX2_clear := goodIn_r _ [20, 21, 22, 23, 24, 25, 13, 14, 15, 101, 102, 103, 104, 105, 106] (by decide +kernel) (by decide +kernel)
set_option maxRecDepth 20000 in
theorem gX5_beginTransfer_X2_clear : GoodIn wsX5_beginTransfer (wsV RX5 170 RX2 yX2_clear wsX2_clear) := goodIn_app (goodIn_of _ (by decide +kernel)) ggX5_beginTransfer_X2_clear
set_option maxRecDepth 20000 in
theorem ggX5_beginTransfer_X1_clear : GoodIn wsX5_beginTransfer wsX1_clear := goodIn_r _ [30, 31, 32, 33, 34, 35, 14, 36, 37, 13, 15, 107, 108, 109] (by decide +kernel) (by decide +kernel)
set_option maxRecDepth 20000 in
theorem gX5_beginTransfer_X1_clear : GoodIn wsX5_beginTransfer (wsV RX5 173 RX1 yX1_clear wsX1_clear) := goodIn_app (goodIn_of _ (by decide +kernel)) ggX5_beginTransfer_X1_clear
set_option maxRecDepth 20000 in
theorem ggX5_beginTransfer_X5_setOf : GoodIn wsX5_beginTransfer wsX5_setOf := goodIn_r _ [41] (by decide +kernel) (by decide +kernel)
set_option maxRecDepth 20000 in
theorem gX5_beginTransfer_X5_setOf : GoodIn wsX5_beginTransfer (va_wsS RX5 150 yX5_setOf wsX5_setOf) := goodIn_app (goodIn_of _ (by decide +kernel)) ggX5_beginTransfer_X5_setOf
set_option maxRecDepth 20000 in
theorem ggX5_beginTransfer_X3_coveredBy : GoodIn wsX5_beginTransfer wsX3_coveredBy := goodIn_r _ [45, 9, 39, 40, 41, 98, 99, 100] (by decide +kernel) (by decide +kernel)
set_option maxRecDepth 20000 in
theorem gX5_beginTransfer_X3_coveredBy : GoodIn wsX5_beginTransfer (wsV RX5 174 RX3 yX3_coveredBy wsX3_coveredBy) := goodIn_app (goodIn_of _ (by decide +kernel)) ggX5_beginTransfer_X3_coveredBy
set_option maxRecDepth 20000 in
theorem ggX5_beginTransfer_X5_addEquation : GoodIn wsX5_beginTransfer wsX5_addEquation := goodIn_r _ [49, 2, 3, 50, 51, 52, 19, 53, 21, 54, 55, 56, 57, 29, 58, 32, 33, 31, 59, 60, 61, 62, 63, 40, 64, 38, 39, 41, 65, 66, 67, 68, 69, 70, 71, 72, 73, 74, 75, 76, 77, 93, 94, 95, 96, 97, 101, 102, 103, 104, 105, 106, 107, 108, 109] (by decide +kernel) (by decide +kernel)
set_option maxRecDepth 20000 in
theorem gX5_beginTransfer_X5_addEquation : GoodIn wsX5_beginTransfer (wsV RX5 177 RX5 yX5_addEquation wsX5_addEquation) := goodIn_app (goodIn_of _ (by decide +kernel)) ggX5_beginTransfer_X5_addEquation
set_option maxRecDepth 20000 in
theorem ggX5_beginTransfer_X2_peelOn : GoodIn wsX5_beginTransfer wsX2_peelOn := goodIn_r _ [81, 22, 82, 83, 84, 19, 85, 21, 54, 23, 86, 87, 68, 69, 70, 71, 72, 73, 88, 89, 90, 91, 92, 24, 65, 40, 66, 67, 39, 41, 101, 102, 103, 104, 105, 106] (by decide +kernel) (by decide +kernel)
set_option maxRecDepth 20000 in
theorem gX5_beginTransfer_X2_peelOn : GoodIn wsX5_beginTransfer (wsV RX5 181 RX2 yX2_peelOn wsX2_peelOn) := goodIn_app (goodIn_of _ (by decide +kernel)) ggX5_beginTransfer_X2_peelOn
theorem dX5_beginTransfer_0 : decode cX5_beginTransfer 0 = .ok (.aload_n 0, 1) := by decide +kernel
theorem dX5_beginTransfer_1 : decode cX5_beginTransfer 1 = .ok (.getfield 19, 3) := by decide +kernel
theorem dX5_beginTransfer_4 : decode cX5_beginTransfer 4 = .ok (.iload_n 1, 1) := by decide +kernel
theorem dX5_beginTransfer_5 : decode cX5_beginTransfer 5 = .ok (.iload_n 2, 1) := by decide +kernel
theorem dX5_beginTransfer_6 : decode cX5_beginTransfer 6 = .ok (.invokevirtual 167, 3) := by decide +kernel
theorem dX5_beginTransfer_9 : decode cX5_beginTransfer 9 = .ok (.aload_n 0, 1) := by decide +kernel
theorem dX5_beginTransfer_10 : decode cX5_beginTransfer 10 = .ok (.getfield 26, 3) := by decide +kernel
theorem dX5_beginTransfer_13 : decode cX5_beginTransfer 13 = .ok (.invokevirtual 170, 3) := by decide +kernel
theorem dX5_beginTransfer_16 : decode cX5_beginTransfer 16 = .ok (.aload_n 0, 1) := by decide +kernel
theorem dX5_beginTransfer_17 : decode cX5_beginTransfer 17 = .ok (.getfield 33, 3) := by decide +kernel
theorem dX5_beginTransfer_20 : decode cX5_beginTransfer 20 = .ok (.invokevirtual 173, 3) := by decide +kernel
theorem dX5_beginTransfer_23 : decode cX5_beginTransfer 23 = .ok (.iconst 0, 1) := by decide +kernel
theorem dX5_beginTransfer_24 : decode cX5_beginTransfer 24 = .ok (.istore_n 3, 1) := by decide +kernel
theorem dX5_beginTransfer_25 : decode cX5_beginTransfer 25 = .ok (.iload_n 3, 1) := by decide +kernel
theorem dX5_beginTransfer_26 : decode cX5_beginTransfer 26 = .ok (.iload_n 2, 1) := by decide +kernel
theorem dX5_beginTransfer_27 : decode cX5_beginTransfer 27 = .ok (.if_icmp .ge 29, 3) := by decide +kernel
theorem dX5_beginTransfer_30 : decode cX5_beginTransfer 30 = .ok (.aload_n 0, 1) := by decide +kernel
theorem dX5_beginTransfer_31 : decode cX5_beginTransfer 31 = .ok (.iload_n 1, 1) := by decide +kernel
theorem dX5_beginTransfer_32 : decode cX5_beginTransfer 32 = .ok (.iload_n 3, 1) := by decide +kernel
theorem dX5_beginTransfer_33 : decode cX5_beginTransfer 33 = .ok (.iadd, 1) := by decide +kernel
theorem dX5_beginTransfer_34 : decode cX5_beginTransfer 34 = .ok (.invokestatic 150, 3) := by decide +kernel
theorem dX5_beginTransfer_37 : decode cX5_beginTransfer 37 = .ok (.aload_n 0, 1) := by decide +kernel
theorem dX5_beginTransfer_38 : decode cX5_beginTransfer 38 = .ok (.getfield 19, 3) := by decide +kernel
theorem dX5_beginTransfer_41 : decode cX5_beginTransfer 41 = .ok (.iload_n 3, 1) := by decide +kernel
theorem dX5_beginTransfer_42 : decode cX5_beginTransfer 42 = .ok (.invokevirtual 174, 3) := by decide +kernel
theorem dX5_beginTransfer_45 : decode cX5_beginTransfer 45 = .ok (.lor, 1) := by decide +kernel
theorem dX5_beginTransfer_46 : decode cX5_beginTransfer 46 = .ok (.iconst 0, 1) := by decide +kernel
theorem dX5_beginTransfer_47 : decode cX5_beginTransfer 47 = .ok (.invokevirtual 177, 3) := by decide +kernel
theorem dX5_beginTransfer_50 : decode cX5_beginTransfer 50 = .ok (.iinc 3 1, 3) := by decide +kernel
theorem dX5_beginTransfer_53 : decode cX5_beginTransfer 53 = .ok (.goto (-28), 3) := by decide +kernel
theorem dX5_beginTransfer_56 : decode cX5_beginTransfer 56 = .ok (.aload_n 0, 1) := by decide +kernel
theorem dX5_beginTransfer_57 : decode cX5_beginTransfer 57 = .ok (.getfield 26, 3) := by decide +kernel
theorem dX5_beginTransfer_60 : decode cX5_beginTransfer 60 = .ok (.invokevirtual 181, 3) := by decide +kernel
theorem dX5_beginTransfer_63 : decode cX5_beginTransfer 63 = .ok (.ireturn, 1) := by decide +kernel
set_option maxRecDepth 20000 in
theorem ggX5_isBlock_X3_blockCount : GoodIn wsX5_isBlock wsX3_blockCount := goodIn_r _ [6, 7, 8, 14, 15, 16] (by decide +kernel) (by decide +kernel)
set_option maxRecDepth 20000 in
theorem gX5_isBlock_X3_blockCount : GoodIn wsX5_isBlock (wsV RX5 86 RX3 yX3_blockCount wsX3_blockCount) := goodIn_app (goodIn_of _ (by decide +kernel)) ggX5_isBlock_X3_blockCount
theorem dX5_isBlock_0 : decode cX5_isBlock 0 = .ok (.iload_n 1, 1) := by decide +kernel
theorem dX5_isBlock_1 : decode cX5_isBlock 1 = .ok (.ifCond .lt 18, 3) := by decide +kernel
theorem dX5_isBlock_4 : decode cX5_isBlock 4 = .ok (.iload_n 1, 1) := by decide +kernel
theorem dX5_isBlock_5 : decode cX5_isBlock 5 = .ok (.aload_n 0, 1) := by decide +kernel
theorem dX5_isBlock_6 : decode cX5_isBlock 6 = .ok (.getfield 19, 3) := by decide +kernel
theorem dX5_isBlock_9 : decode cX5_isBlock 9 = .ok (.invokevirtual 86, 3) := by decide +kernel
theorem dX5_isBlock_12 : decode cX5_isBlock 12 = .ok (.if_icmp .ge 7, 3) := by decide +kernel
theorem dX5_isBlock_15 : decode cX5_isBlock 15 = .ok (.iconst 1, 1) := by decide +kernel
theorem dX5_isBlock_16 : decode cX5_isBlock 16 = .ok (.goto 4, 3) := by decide +kernel
theorem dX5_isBlock_19 : decode cX5_isBlock 19 = .ok (.iconst 0, 1) := by decide +kernel
theorem dX5_isBlock_20 : decode cX5_isBlock 20 = .ok (.ireturn, 1) := by decide +kernel
set_option maxRecDepth 20000 in
theorem ggX5_drawn_X3_blockCount : GoodIn wsX5_drawn wsX3_blockCount := goodIn_r _ [8, 9, 10, 56, 57, 58] (by decide +kernel) (by decide +kernel)
set_option maxRecDepth 20000 in
theorem gX5_drawn_X3_blockCount : GoodIn wsX5_drawn (wsV RX5 86 RX3 yX3_blockCount wsX3_blockCount) := goodIn_app (goodIn_of _ (by decide +kernel)) ggX5_drawn_X3_blockCount
set_option maxRecDepth 20000 in
theorem ggX5_drawn_X0_draw : GoodIn wsX5_drawn wsX0_draw := goodIn_r _ [15, 16, 17, 18, 19, 20, 21, 22, 23, 24, 25, 26, 27, 28, 29, 30, 31, 32, 14, 33, 34, 35, 36, 37, 38, 39, 40, 41, 42, 43, 44, 45, 46, 47, 48, 49, 50, 59, 60, 61, 62, 63] (by decide +kernel) (by decide +kernel)
set_option maxRecDepth 20000 in
theorem gX5_drawn_X0_draw : GoodIn wsX5_drawn (wsV RX5 184 RX0 yX0_draw wsX0_draw) := goodIn_app (goodIn_of _ (by decide +kernel)) ggX5_drawn_X0_draw
theorem dX5_drawn_0 : decode cX5_drawn 0 = .ok (.aload_n 0, 1) := by decide +kernel
theorem dX5_drawn_1 : decode cX5_drawn 1 = .ok (.getfield 40, 3) := by decide +kernel
theorem dX5_drawn_4 : decode cX5_drawn 4 = .ok (.iload_n 1, 1) := by decide +kernel
theorem dX5_drawn_5 : decode cX5_drawn 5 = .ok (.aload_n 0, 1) := by decide +kernel
theorem dX5_drawn_6 : decode cX5_drawn 6 = .ok (.getfield 12, 3) := by decide +kernel
theorem dX5_drawn_9 : decode cX5_drawn 9 = .ok (.aload_n 0, 1) := by decide +kernel
theorem dX5_drawn_10 : decode cX5_drawn 10 = .ok (.getfield 19, 3) := by decide +kernel
theorem dX5_drawn_13 : decode cX5_drawn 13 = .ok (.invokevirtual 86, 3) := by decide +kernel
theorem dX5_drawn_16 : decode cX5_drawn 16 = .ok (.invokevirtual 184, 3) := by decide +kernel
theorem dX5_drawn_19 : decode cX5_drawn 19 = .ok (.aload_n 0, 1) := by decide +kernel
theorem dX5_drawn_20 : decode cX5_drawn 20 = .ok (.getfield 40, 3) := by decide +kernel
theorem dX5_drawn_23 : decode cX5_drawn 23 = .ok (.areturn, 1) := by decide +kernel
set_option maxRecDepth 20000 in
theorem ggX5_canTake_X2_equationCount : GoodIn wsX5_canTake wsX2_equationCount := goodIn_r _ [8, 9, 42, 43, 44, 45, 46, 47] (by decide +kernel) (by decide +kernel)
set_option maxRecDepth 20000 in
theorem gX5_canTake_X2_equationCount : GoodIn wsX5_canTake (wsV RX5 127 RX2 yX2_equationCount wsX2_equationCount) := goodIn_app (goodIn_of _ (by decide +kernel)) ggX5_canTake_X2_equationCount
set_option maxRecDepth 20000 in
theorem ggX5_canTake_X3_parityCount : GoodIn wsX5_canTake wsX3_parityCount := goodIn_r _ [14, 15, 48, 49, 50] (by decide +kernel) (by decide +kernel)
set_option maxRecDepth 20000 in
theorem gX5_canTake_X3_parityCount : GoodIn wsX5_canTake (wsV RX5 188 RX3 yX3_parityCount wsX3_parityCount) := goodIn_app (goodIn_of _ (by decide +kernel)) ggX5_canTake_X3_parityCount
set_option maxRecDepth 20000 in
theorem ggX5_canTake_X1_contradicts : GoodIn wsX5_canTake wsX1_contradicts := goodIn_r _ [20, 21, 22, 23, 19, 24, 25, 26, 27, 28, 29, 30, 31, 32, 33, 34, 35, 36, 51, 52, 53] (by decide +kernel) (by decide +kernel)
set_option maxRecDepth 20000 in
theorem gX5_canTake_X1_contradicts : GoodIn wsX5_canTake (wsV RX5 191 RX1 yX1_contradicts wsX1_contradicts) := goodIn_app (goodIn_of _ (by decide +kernel)) ggX5_canTake_X1_contradicts
theorem dX5_canTake_0 : decode cX5_canTake 0 = .ok (.aload_n 0, 1) := by decide +kernel
theorem dX5_canTake_1 : decode cX5_canTake 1 = .ok (.getfield 26, 3) := by decide +kernel
theorem dX5_canTake_4 : decode cX5_canTake 4 = .ok (.invokevirtual 127, 3) := by decide +kernel
theorem dX5_canTake_7 : decode cX5_canTake 7 = .ok (.aload_n 0, 1) := by decide +kernel
theorem dX5_canTake_8 : decode cX5_canTake 8 = .ok (.getfield 19, 3) := by decide +kernel
theorem dX5_canTake_11 : decode cX5_canTake 11 = .ok (.invokevirtual 188, 3) := by decide +kernel
theorem dX5_canTake_14 : decode cX5_canTake 14 = .ok (.isub, 1) := by decide +kernel
theorem dX5_canTake_15 : decode cX5_canTake 15 = .ok (.istore 4, 2) := by decide +kernel
theorem dX5_canTake_17 : decode cX5_canTake 17 = .ok (.iload 4, 2) := by decide +kernel
theorem dX5_canTake_19 : decode cX5_canTake 19 = .ok (.bipush 120, 2) := by decide +kernel
theorem dX5_canTake_21 : decode cX5_canTake 21 = .ok (.if_icmp .ge 19, 3) := by decide +kernel
theorem dX5_canTake_24 : decode cX5_canTake 24 = .ok (.aload_n 0, 1) := by decide +kernel
theorem dX5_canTake_25 : decode cX5_canTake 25 = .ok (.getfield 33, 3) := by decide +kernel
theorem dX5_canTake_28 : decode cX5_canTake 28 = .ok (.lload_n 1, 1) := by decide +kernel
theorem dX5_canTake_29 : decode cX5_canTake 29 = .ok (.iload_n 3, 1) := by decide +kernel
theorem dX5_canTake_30 : decode cX5_canTake 30 = .ok (.invokevirtual 191, 3) := by decide +kernel
theorem dX5_canTake_33 : decode cX5_canTake 33 = .ok (.ifCond .ne 7, 3) := by decide +kernel
theorem dX5_canTake_36 : decode cX5_canTake 36 = .ok (.iconst 1, 1) := by decide +kernel
theorem dX5_canTake_37 : decode cX5_canTake 37 = .ok (.goto 4, 3) := by decide +kernel
theorem dX5_canTake_40 : decode cX5_canTake 40 = .ok (.iconst 0, 1) := by decide +kernel
theorem dX5_canTake_41 : decode cX5_canTake 41 = .ok (.ireturn, 1) := by decide +kernel
set_option maxRecDepth 20000 in
theorem ggX5_take_X5_addEquation : GoodIn wsX5_take wsX5_addEquation := goodIn_r _ [6, 1, 7, 8, 9, 10, 11, 12, 13, 14, 15, 16, 17, 18, 19, 20, 21, 22, 23, 24, 25, 26, 27, 5, 28, 29, 30, 31, 32, 33, 34, 35, 36, 37, 38, 39, 40, 41, 42, 43, 44, 63, 64, 65, 66, 67, 68, 69, 70, 71, 72, 73, 74, 75, 76] (by decide +kernel) (by decide +kernel)
set_option maxRecDepth 20000 in
theorem gX5_take_X5_addEquation : GoodIn wsX5_take (wsV RX5 177 RX5 yX5_addEquation wsX5_addEquation) := goodIn_app (goodIn_of _ (by decide +kernel)) ggX5_take_X5_addEquation
set_option maxRecDepth 20000 in
theorem ggX5_take_X2_peelOn : GoodIn wsX5_take wsX2_peelOn := goodIn_r _ [48, 49, 50, 51, 52, 11, 53, 13, 14, 54, 55, 56, 35, 36, 37, 38, 39, 40, 57, 58, 59, 60, 61, 62, 32, 5, 33, 34, 30, 31, 68, 69, 70, 71, 72, 73] (by decide +kernel) (by decide +kernel)
set_option maxRecDepth 20000 in
theorem gX5_take_X2_peelOn : GoodIn wsX5_take (wsV RX5 181 RX2 yX2_peelOn wsX2_peelOn) := goodIn_app (goodIn_of _ (by decide +kernel)) ggX5_take_X2_peelOn
theorem dX5_take_0 : decode cX5_take 0 = .ok (.aload_n 0, 1) := by decide +kernel
theorem dX5_take_1 : decode cX5_take 1 = .ok (.lload_n 1, 1) := by decide +kernel
theorem dX5_take_2 : decode cX5_take 2 = .ok (.iload_n 3, 1) := by decide +kernel
theorem dX5_take_3 : decode cX5_take 3 = .ok (.invokevirtual 177, 3) := by decide +kernel
theorem dX5_take_6 : decode cX5_take 6 = .ok (.aload_n 0, 1) := by decide +kernel
theorem dX5_take_7 : decode cX5_take 7 = .ok (.getfield 26, 3) := by decide +kernel
theorem dX5_take_10 : decode cX5_take 10 = .ok (.invokevirtual 181, 3) := by decide +kernel
theorem dX5_take_13 : decode cX5_take 13 = .ok (.ireturn, 1) := by decide +kernel
set_option maxRecDepth 20000 in
theorem ggX5_addEquation_X2_addEquation : GoodIn wsX5_addEquation wsX2_addEquation := goodIn_r _ [7, 8, 9, 46, 47, 48, 49, 50, 51] (by decide +kernel) (by decide +kernel)
set_option maxRecDepth 20000 in
theorem gX5_addEquation_X2_addEquation : GoodIn wsX5_addEquation (wsV RX5 194 RX2 yX2_addEquation wsX2_addEquation) := goodIn_app (goodIn_of _ (by decide +kernel)) ggX5_addEquation_X2_addEquation
set_option maxRecDepth 20000 in
theorem ggX5_addEquation_X1_addEquation : GoodIn wsX5_addEquation wsX1_addEquation := goodIn_r _ [14, 15, 16, 17, 18, 19, 20, 13, 21, 22, 23, 24, 25, 26, 27, 28, 29, 30, 31, 32, 33, 34, 35, 36, 37, 38, 39, 40, 52, 53, 54] (by decide +kernel) (by decide +kernel)
set_option maxRecDepth 20000 in
theorem gX5_addEquation_X1_addEquation : GoodIn wsX5_addEquation (wsV RX5 197 RX1 yX1_addEquation wsX1_addEquation) := goodIn_app (goodIn_of _ (by decide +kernel)) ggX5_addEquation_X1_addEquation
theorem dX5_addEquation_0 : decode cX5_addEquation 0 = .ok (.aload_n 0, 1) := by decide +kernel
theorem dX5_addEquation_1 : decode cX5_addEquation 1 = .ok (.getfield 26, 3) := by decide +kernel
theorem dX5_addEquation_4 : decode cX5_addEquation 4 = .ok (.lload_n 1, 1) := by decide +kernel
theorem dX5_addEquation_5 : decode cX5_addEquation 5 = .ok (.invokevirtual 194, 3) := by decide +kernel
theorem dX5_addEquation_8 : decode cX5_addEquation 8 = .ok (.aload_n 0, 1) := by decide +kernel
theorem dX5_addEquation_9 : decode cX5_addEquation 9 = .ok (.getfield 33, 3) := by decide +kernel
theorem dX5_addEquation_12 : decode cX5_addEquation 12 = .ok (.lload_n 1, 1) := by decide +kernel
theorem dX5_addEquation_13 : decode cX5_addEquation 13 = .ok (.iload_n 3, 1) := by decide +kernel
theorem dX5_addEquation_14 : decode cX5_addEquation 14 = .ok (.invokevirtual 197, 3) := by decide +kernel
theorem dX5_addEquation_17 : decode cX5_addEquation 17 = .ok (.return_, 1) := by decide +kernel
theorem dX5_setOf_0 : decode cX5_setOf 0 = .ok (.lconst 1, 1) := by decide +kernel
theorem dX5_setOf_1 : decode cX5_setOf 1 = .ok (.iload_n 0, 1) := by decide +kernel
theorem dX5_setOf_2 : decode cX5_setOf 2 = .ok (.lshl, 1) := by decide +kernel
theorem dX5_setOf_3 : decode cX5_setOf 3 = .ok (.lreturn, 1) := by decide +kernel
set_option maxRecDepth 20000 in
theorem ggX5_holds_X5_setOf : GoodIn wsX5_holds wsX5_setOf := goodIn_r _ [4] (by decide +kernel) (by decide +kernel)
set_option maxRecDepth 20000 in
theorem gX5_holds_X5_setOf : GoodIn wsX5_holds (va_wsS RX5 150 yX5_setOf wsX5_setOf) := goodIn_app (goodIn_of _ (by decide +kernel)) ggX5_holds_X5_setOf
theorem dX5_holds_0 : decode cX5_holds 0 = .ok (.lload_n 0, 1) := by decide +kernel
theorem dX5_holds_1 : decode cX5_holds 1 = .ok (.iload_n 2, 1) := by decide +kernel
theorem dX5_holds_2 : decode cX5_holds 2 = .ok (.invokestatic 150, 3) := by decide +kernel
theorem dX5_holds_5 : decode cX5_holds 5 = .ok (.land, 1) := by decide +kernel
theorem dX5_holds_6 : decode cX5_holds 6 = .ok (.lconst 0, 1) := by decide +kernel
theorem dX5_holds_7 : decode cX5_holds 7 = .ok (.lcmp, 1) := by decide +kernel
theorem dX5_holds_8 : decode cX5_holds 8 = .ok (.ifCond .eq 7, 3) := by decide +kernel
theorem dX5_holds_11 : decode cX5_holds 11 = .ok (.iconst 1, 1) := by decide +kernel
theorem dX5_holds_12 : decode cX5_holds 12 = .ok (.goto 4, 3) := by decide +kernel
theorem dX5_holds_15 : decode cX5_holds 15 = .ok (.iconst 0, 1) := by decide +kernel
theorem dX5_holds_16 : decode cX5_holds 16 = .ok (.ireturn, 1) := by decide +kernel
set_option maxRecDepth 20000 in
theorem ggX5_lowestOf_J13_bitCount_95d88 : GoodIn wsX5_lowestOf wsJ13_bitCount_95d88 := goodIn_r _ [4, 5, 6, 7] (by decide +kernel) (by decide +kernel)
set_option maxRecDepth 20000 in
theorem gX5_lowestOf_J13_bitCount_95d88 : GoodIn wsX5_lowestOf (va_wsS RX5 198 yJ13_bitCount_95d88 wsJ13_bitCount_95d88) := goodIn_app (goodIn_of _ (by decide +kernel)) ggX5_lowestOf_J13_bitCount_95d88
theorem dX5_lowestOf_0 : decode cX5_lowestOf 0 = .ok (.lload_n 0, 1) := by decide +kernel
theorem dX5_lowestOf_1 : decode cX5_lowestOf 1 = .ok (.lload_n 0, 1) := by decide +kernel
theorem dX5_lowestOf_2 : decode cX5_lowestOf 2 = .ok (.lneg, 1) := by decide +kernel
theorem dX5_lowestOf_3 : decode cX5_lowestOf 3 = .ok (.land, 1) := by decide +kernel
theorem dX5_lowestOf_4 : decode cX5_lowestOf 4 = .ok (.lconst 1, 1) := by decide +kernel
theorem dX5_lowestOf_5 : decode cX5_lowestOf 5 = .ok (.lsub, 1) := by decide +kernel
theorem dX5_lowestOf_6 : decode cX5_lowestOf 6 = .ok (.invokestatic 198, 3) := by decide +kernel
theorem dX5_lowestOf_9 : decode cX5_lowestOf 9 = .ok (.ireturn, 1) := by decide +kernel
set_option maxRecDepth 20000 in
theorem ggX6_init_X6_clear : GoodIn wsX6_init wsX6_clear := goodIn_r _ [23, 24, 25, 26, 27, 13, 14, 15, 28, 29, 30, 31, 32, 33, 34, 35, 36, 37, 38, 39, 40, 41, 42, 43, 44, 45, 46, 47, 48, 49] (by decide +kernel) (by decide +kernel)
set_option maxRecDepth 20000 in
theorem gX6_init_X6_clear : GoodIn wsX6_init (wsV RX6 51 RX6 yX6_clear wsX6_clear) := goodIn_app (goodIn_of _ (by decide +kernel)) ggX6_init_X6_clear
end
section
theorem dJ13_bitCount_95d88_0 : decode cJ13_bitCount_95d88 0 = .ok (.lload_n 0, 1) := by decide +kernel
theorem dJ13_bitCount_95d88_1 : decode cJ13_bitCount_95d88 1 = .ok (.lload_n 0, 1) := by decide +kernel
theorem dJ13_bitCount_95d88_2 : decode cJ13_bitCount_95d88 2 = .ok (.iconst 1, 1) := by decide +kernel
theorem dJ13_bitCount_95d88_3 : decode cJ13_bitCount_95d88 3 = .ok (.lushr, 1) := by decide +kernel
theorem dJ13_bitCount_95d88_4 : decode cJ13_bitCount_95d88 4 = .ok (.ldc2_w 314, 3) := by decide +kernel
theorem dJ13_bitCount_95d88_7 : decode cJ13_bitCount_95d88 7 = .ok (.land, 1) := by decide +kernel
theorem dJ13_bitCount_95d88_8 : decode cJ13_bitCount_95d88 8 = .ok (.lsub, 1) := by decide +kernel
theorem dJ13_bitCount_95d88_9 : decode cJ13_bitCount_95d88 9 = .ok (.lstore_n 0, 1) := by decide +kernel
theorem dJ13_bitCount_95d88_10 : decode cJ13_bitCount_95d88 10 = .ok (.lload_n 0, 1) := by decide +kernel
theorem dJ13_bitCount_95d88_11 : decode cJ13_bitCount_95d88 11 = .ok (.ldc2_w 316, 3) := by decide +kernel
theorem dJ13_bitCount_95d88_14 : decode cJ13_bitCount_95d88 14 = .ok (.land, 1) := by decide +kernel
theorem dJ13_bitCount_95d88_15 : decode cJ13_bitCount_95d88 15 = .ok (.lload_n 0, 1) := by decide +kernel
theorem dJ13_bitCount_95d88_16 : decode cJ13_bitCount_95d88 16 = .ok (.iconst 2, 1) := by decide +kernel
theorem dJ13_bitCount_95d88_17 : decode cJ13_bitCount_95d88 17 = .ok (.lushr, 1) := by decide +kernel
theorem dJ13_bitCount_95d88_18 : decode cJ13_bitCount_95d88 18 = .ok (.ldc2_w 316, 3) := by decide +kernel
theorem dJ13_bitCount_95d88_21 : decode cJ13_bitCount_95d88 21 = .ok (.land, 1) := by decide +kernel
theorem dJ13_bitCount_95d88_22 : decode cJ13_bitCount_95d88 22 = .ok (.ladd, 1) := by decide +kernel
theorem dJ13_bitCount_95d88_23 : decode cJ13_bitCount_95d88 23 = .ok (.lstore_n 0, 1) := by decide +kernel
theorem dJ13_bitCount_95d88_24 : decode cJ13_bitCount_95d88 24 = .ok (.lload_n 0, 1) := by decide +kernel
theorem dJ13_bitCount_95d88_25 : decode cJ13_bitCount_95d88 25 = .ok (.lload_n 0, 1) := by decide +kernel
theorem dJ13_bitCount_95d88_26 : decode cJ13_bitCount_95d88 26 = .ok (.iconst 4, 1) := by decide +kernel
theorem dJ13_bitCount_95d88_27 : decode cJ13_bitCount_95d88 27 = .ok (.lushr, 1) := by decide +kernel
theorem dJ13_bitCount_95d88_28 : decode cJ13_bitCount_95d88 28 = .ok (.ladd, 1) := by decide +kernel
theorem dJ13_bitCount_95d88_29 : decode cJ13_bitCount_95d88 29 = .ok (.ldc2_w 318, 3) := by decide +kernel
theorem dJ13_bitCount_95d88_32 : decode cJ13_bitCount_95d88 32 = .ok (.land, 1) := by decide +kernel
theorem dJ13_bitCount_95d88_33 : decode cJ13_bitCount_95d88 33 = .ok (.lstore_n 0, 1) := by decide +kernel
theorem dJ13_bitCount_95d88_34 : decode cJ13_bitCount_95d88 34 = .ok (.lload_n 0, 1) := by decide +kernel
theorem dJ13_bitCount_95d88_35 : decode cJ13_bitCount_95d88 35 = .ok (.lload_n 0, 1) := by decide +kernel
theorem dJ13_bitCount_95d88_36 : decode cJ13_bitCount_95d88 36 = .ok (.bipush 8, 2) := by decide +kernel
theorem dJ13_bitCount_95d88_38 : decode cJ13_bitCount_95d88 38 = .ok (.lushr, 1) := by decide +kernel
theorem dJ13_bitCount_95d88_39 : decode cJ13_bitCount_95d88 39 = .ok (.ladd, 1) := by decide +kernel
theorem dJ13_bitCount_95d88_40 : decode cJ13_bitCount_95d88 40 = .ok (.lstore_n 0, 1) := by decide +kernel
theorem dJ13_bitCount_95d88_41 : decode cJ13_bitCount_95d88 41 = .ok (.lload_n 0, 1) := by decide +kernel
theorem dJ13_bitCount_95d88_42 : decode cJ13_bitCount_95d88 42 = .ok (.lload_n 0, 1) := by decide +kernel
theorem dJ13_bitCount_95d88_43 : decode cJ13_bitCount_95d88 43 = .ok (.bipush 16, 2) := by decide +kernel
theorem dJ13_bitCount_95d88_45 : decode cJ13_bitCount_95d88 45 = .ok (.lushr, 1) := by decide +kernel
theorem dJ13_bitCount_95d88_46 : decode cJ13_bitCount_95d88 46 = .ok (.ladd, 1) := by decide +kernel
theorem dJ13_bitCount_95d88_47 : decode cJ13_bitCount_95d88 47 = .ok (.lstore_n 0, 1) := by decide +kernel
theorem dJ13_bitCount_95d88_48 : decode cJ13_bitCount_95d88 48 = .ok (.lload_n 0, 1) := by decide +kernel
theorem dJ13_bitCount_95d88_49 : decode cJ13_bitCount_95d88 49 = .ok (.lload_n 0, 1) := by decide +kernel
theorem dJ13_bitCount_95d88_50 : decode cJ13_bitCount_95d88 50 = .ok (.bipush 32, 2) := by decide +kernel
theorem dJ13_bitCount_95d88_52 : decode cJ13_bitCount_95d88 52 = .ok (.lushr, 1) := by decide +kernel
theorem dJ13_bitCount_95d88_53 : decode cJ13_bitCount_95d88 53 = .ok (.ladd, 1) := by decide +kernel
theorem dJ13_bitCount_95d88_54 : decode cJ13_bitCount_95d88 54 = .ok (.lstore_n 0, 1) := by decide +kernel
theorem dJ13_bitCount_95d88_55 : decode cJ13_bitCount_95d88 55 = .ok (.lload_n 0, 1) := by decide +kernel
theorem dJ13_bitCount_95d88_56 : decode cJ13_bitCount_95d88 56 = .ok (.l2i, 1) := by decide +kernel
theorem dJ13_bitCount_95d88_57 : decode cJ13_bitCount_95d88 57 = .ok (.bipush 127, 2) := by decide +kernel
theorem dJ13_bitCount_95d88_59 : decode cJ13_bitCount_95d88 59 = .ok (.iand, 1) := by decide +kernel
theorem dJ13_bitCount_95d88_60 : decode cJ13_bitCount_95d88 60 = .ok (.ireturn, 1) := by decide +kernel
theorem dJ9_min_7cf53_0 : decode cJ9_min_7cf53 0 = .ok (.iload_n 0, 1) := by decide +kernel
theorem dJ9_min_7cf53_1 : decode cJ9_min_7cf53 1 = .ok (.iload_n 1, 1) := by decide +kernel
theorem dJ9_min_7cf53_2 : decode cJ9_min_7cf53 2 = .ok (.if_icmp .gt 7, 3) := by decide +kernel
theorem dJ9_min_7cf53_5 : decode cJ9_min_7cf53 5 = .ok (.iload_n 0, 1) := by decide +kernel
theorem dJ9_min_7cf53_6 : decode cJ9_min_7cf53 6 = .ok (.goto 4, 3) := by decide +kernel
theorem dJ9_min_7cf53_9 : decode cJ9_min_7cf53 9 = .ok (.iload_n 1, 1) := by decide +kernel
theorem dJ9_min_7cf53_10 : decode cJ9_min_7cf53 10 = .ok (.ireturn, 1) := by decide +kernel
theorem dJ7_fill_d0a16_0 : decode cJ7_fill_d0a16 0 = .ok (.iconst 0, 1) := by decide +kernel
theorem dJ7_fill_d0a16_1 : decode cJ7_fill_d0a16 1 = .ok (.istore_n 3, 1) := by decide +kernel
theorem dJ7_fill_d0a16_2 : decode cJ7_fill_d0a16 2 = .ok (.aload_n 0, 1) := by decide +kernel
theorem dJ7_fill_d0a16_3 : decode cJ7_fill_d0a16 3 = .ok (.arraylength, 1) := by decide +kernel
theorem dJ7_fill_d0a16_4 : decode cJ7_fill_d0a16 4 = .ok (.istore 4, 2) := by decide +kernel
theorem dJ7_fill_d0a16_6 : decode cJ7_fill_d0a16 6 = .ok (.iload_n 3, 1) := by decide +kernel
theorem dJ7_fill_d0a16_7 : decode cJ7_fill_d0a16 7 = .ok (.iload 4, 2) := by decide +kernel
theorem dJ7_fill_d0a16_9 : decode cJ7_fill_d0a16 9 = .ok (.if_icmp .ge 13, 3) := by decide +kernel
theorem dJ7_fill_d0a16_12 : decode cJ7_fill_d0a16 12 = .ok (.aload_n 0, 1) := by decide +kernel
theorem dJ7_fill_d0a16_13 : decode cJ7_fill_d0a16 13 = .ok (.iload_n 3, 1) := by decide +kernel
theorem dJ7_fill_d0a16_14 : decode cJ7_fill_d0a16 14 = .ok (.lload_n 1, 1) := by decide +kernel
theorem dJ7_fill_d0a16_15 : decode cJ7_fill_d0a16 15 = .ok (.lastore, 1) := by decide +kernel
theorem dJ7_fill_d0a16_16 : decode cJ7_fill_d0a16 16 = .ok (.iinc 3 1, 3) := by decide +kernel
theorem dJ7_fill_d0a16_19 : decode cJ7_fill_d0a16 19 = .ok (.goto (-13), 3) := by decide +kernel
theorem dJ7_fill_d0a16_22 : decode cJ7_fill_d0a16 22 = .ok (.return_, 1) := by decide +kernel
theorem dJ7_fill_53178_0 : decode cJ7_fill_53178 0 = .ok (.iconst 0, 1) := by decide +kernel
theorem dJ7_fill_53178_1 : decode cJ7_fill_53178 1 = .ok (.istore_n 2, 1) := by decide +kernel
theorem dJ7_fill_53178_2 : decode cJ7_fill_53178 2 = .ok (.aload_n 0, 1) := by decide +kernel
theorem dJ7_fill_53178_3 : decode cJ7_fill_53178 3 = .ok (.arraylength, 1) := by decide +kernel
theorem dJ7_fill_53178_4 : decode cJ7_fill_53178 4 = .ok (.istore_n 3, 1) := by decide +kernel
theorem dJ7_fill_53178_5 : decode cJ7_fill_53178 5 = .ok (.iload_n 2, 1) := by decide +kernel
theorem dJ7_fill_53178_6 : decode cJ7_fill_53178 6 = .ok (.iload_n 3, 1) := by decide +kernel
theorem dJ7_fill_53178_7 : decode cJ7_fill_53178 7 = .ok (.if_icmp .ge 13, 3) := by decide +kernel
theorem dJ7_fill_53178_10 : decode cJ7_fill_53178 10 = .ok (.aload_n 0, 1) := by decide +kernel
theorem dJ7_fill_53178_11 : decode cJ7_fill_53178 11 = .ok (.iload_n 2, 1) := by decide +kernel
theorem dJ7_fill_53178_12 : decode cJ7_fill_53178 12 = .ok (.iload_n 1, 1) := by decide +kernel
theorem dJ7_fill_53178_13 : decode cJ7_fill_53178 13 = .ok (.iastore, 1) := by decide +kernel
theorem dJ7_fill_53178_14 : decode cJ7_fill_53178 14 = .ok (.iinc 2 1, 3) := by decide +kernel
theorem dJ7_fill_53178_17 : decode cJ7_fill_53178 17 = .ok (.goto (-12), 3) := by decide +kernel
theorem dJ7_fill_53178_20 : decode cJ7_fill_53178 20 = .ok (.return_, 1) := by decide +kernel
end
section
/-! the layer: a context, a world, contracts that say exactly what a method does -/
section VQ0
abbrev vq_G : Type := va_G × ClassId × ClassId
def vq_ty (G : vq_G) : List (ClassId × FieldType) := [(G.2.1, .int), (G.2.2, .long)]
/-- private members that another class of the nest calls -/
def vq_nest : List (String × Nat × MethodName) := [(RX5, 11, yX4_init), (RX5, 18, yX3_init), (RX5, 25, yX2_init), (RX5, 32, yX1_init), (RX5, 39, yX0_init), (RX3, 28, yX5_setOf), (RX1, 32, yX5_holds), (RX1, 48, yX5_lowestOf), (RX2, 55, yX5_lowestOf), (RX2, 58, yX5_setOf), (RX0, 53, yX5_setOf), (RX3, 43, yX5_holds), (RX1, 51, yX5_setOf)]
def vq_N (U : State) : Prop := ∀ q ∈ vq_nest, va_Nw (.methodLinkNest q.1 q.2.1 q.2.2 RX5) U
theorem vq_N.warm {s U : State} (hW : s.WarmedH U.vm) (h : vq_N s) : vq_N U := fun q hq => va_Nw.warmM hW (h q hq)
theorem vq_N.same {u U : State} (e : u.vm = U.vm) (h : vq_N u) : vq_N U := fun q hq => va_Nw.same rfl e (h q hq)
theorem vq_N.at {U : State} (h : vq_N U) (k : Nat) {a : String} {i : Nat} {y : MethodName} (hk : vq_nest[k]? = some (a, i, y)) : va_Nw (.methodLinkNest a i y RX5) U := h _ (List.mem_of_getElem? hk)
/-- a method's start -/
def vq_U (G : vq_G) (ws : va_W) (sz : Nat) (U : State) : Prop := U.heap.size = sz ∧ va_P G.1 vwCl ws U.heap ∧ va_K G.1 vwCl (vq_ty G) U ∧ va_D (fun _ => True) ws ∧ vq_N U
/-- its end -/
def vq_T (G : vq_G) (A : Nat → Prop) (ws : va_W) (t : State) : Prop := va_P G.1 vwCl ws t.heap ∧ va_D A ws
/-- the world while it runs -/
def vq_H (G : vq_G) (A : Nat → Prop) (s : State) (ws : va_W) (H : Heap) (locs : List Loc) : Prop := va_P G.1 vwCl ws H ∧ va_D A ws ∧ va_S A s.heap H locs
/-- what stays fixed while it runs -/
def vq_C (cc : ByteArray) (nL : Nat) (ret : Option FieldType) (Ts : List Cond) (own : String) (G : vq_G) (A : Nat → Prop) (p : Program) (s : State) (m : MethodId) (args : Array Value) (meth : Method) (c : Code) : Prop :=
  (p.tables.exec = Jvm.exec ∧ c.code = cc ∧ c.maxLocals = nL ∧ s.vm.findClass own = some m.cls ∧ ∀ w ∈ Ts, w.before args s = true) ∧ va_K G.1 vwCl (vq_ty G) s ∧ vq_N s ∧ (∀ q : Nat, s.heap.size ≤ q → A q) ∧ meth.locks = false ∧ meth.sig.returnType = ret
abbrev vq_i (l : Launch) (y : MethodName) (Ts : List Cond) (f lo : Nat) (G : vq_G) (as : List Value) (ws : va_W) (r : Int32) (ws' : va_W) : Prop := ∀ sz : Nat, Met l y Ts ({ frames := f, cells := 0, slots := 0, locals := lo } : Room) (va_Pc as (vq_U G ws sz)) (va_Qi (fun x (_ : Unit) => x = r) (fun _ => vq_T G (va_A ws sz) ws') (va_A ws sz)) 0 0 (va_A ws sz)
abbrev vq_l (l : Launch) (y : MethodName) (Ts : List Cond) (f lo : Nat) (G : vq_G) (as : List Value) (ws : va_W) (r : Int64) (ws' : va_W) : Prop := ∀ sz : Nat, Met l y Ts ({ frames := f, cells := 0, slots := 0, locals := lo } : Room) (va_Pc as (vq_U G ws sz)) (va_Ql (fun x (_ : Unit) => x = r) (fun _ => vq_T G (va_A ws sz) ws') (va_A ws sz)) 0 0 (va_A ws sz)
abbrev vq_v (l : Launch) (y : MethodName) (Ts : List Cond) (f lo : Nat) (G : vq_G) (as : List Value) (ws : va_W) (ws' : va_W) : Prop := ∀ sz : Nat, Met l y Ts ({ frames := f, cells := 0, slots := 0, locals := lo } : Room) (va_Pc as (vq_U G ws sz)) (va_Qv (fun (_ : Unit) => True) (fun _ => vq_T G (va_A ws sz) ws') (va_A ws sz)) 0 0 (va_A ws sz)
abbrev vq_r (l : Launch) (y : MethodName) (Ts : List Cond) (f lo : Nat) (G : vq_G) (as : List Value) (ws : va_W) (r : Nat) (ws' : va_W) : Prop := ∀ sz : Nat, Met l y Ts ({ frames := f, cells := 0, slots := 0, locals := lo } : Room) (va_Pc as (vq_U G ws sz)) (va_Qr (fun (_ : Unit) => True) (fun _ a t => a = r ∧ vq_T G (va_A ws sz) ws' t) (va_A ws sz)) 0 0 (va_A ws sz)
theorem vq_fb {G : vq_G} {as : List Value} {ws : va_W} {sz : Nat} : FrameBlind (va_Pc as (vq_U G ws sz)) := by
  intro a U g mk q
  obtain ⟨q0, q1, qP, qK, qD, qN⟩ := q
  exact ⟨q0, q1, qP, va_K.moved (u := U) (U := U.calling g mk a) (Vm.Alike.refl U.vm) qK, qD, vq_N.same rfl qN⟩
theorem q_fm {α β : Type} {f : α → Option β} : ∀ {is : List α} {ws : List β}, is.map f = ws.map some → is.filterMap f = ws := by
  intro is
  induction is with
  | nil => intro ws h; cases ws with
    | nil => rfl
    | cons => simp at h
  | cons i is ih => intro ws h; cases ws with
    | nil => simp at h
    | cons w ws =>
      simp only [List.map_cons, List.cons.injEq] at h
      rw [List.filterMap_cons, h.1]
      simp [ih h.2]
theorem vq_H.sub {G : vq_G} {A : Nat → Prop} {s : State} {ws ws' : va_W} {H : Heap} {locs : List Loc} (h : vq_H G A s ws H locs) (is : List Nat) (hn : va_nd is = true) (hs : is.map (fun i => ws[i]?) = ws'.map some) : vq_H G A s ws' H locs := ⟨h.1.sub is (q_fm hs), h.2.1.sub is hn hs, h.2.2⟩
theorem q_after {G : vq_G} {A : Nat → Prop} {s : State} {ws wc wr w1 w' : va_W} {H H1 : Heap} {locs locs1 : List Loc} (h : vq_H G A s ws H locs) (isC isR perm : List Nat) (hC : isC.map (fun i => ws[i]?) = wc.map some) (hR : isR.map (fun i => ws[i]?) = wr.map some) (hn : va_nd isR = true) (hdis : ∀ i ∈ isR, i ∉ isC) (hp : perm.map (fun i => (wr ++ w1)[i]?) = w'.map some) (hnp : va_nd perm = true)
    (hF : ∀ q, va_A wc H.size q → A q) (hk : ∀ q : Nat, q < H.size → ¬ va_A wc H.size q → H1[q]? = H[q]?) (hP1 : va_P G.1 vwCl w1 H1) (hD1 : va_D (va_A wc H.size) w1) (hS1 : va_S A s.heap H1 locs1) : vq_H G A s w' H1 locs1 := by
  obtain ⟨hP, hD⟩ := va_join h.1 h.2.1 isC isR hC hR hn hdis hk hF hP1 hD1
  exact vq_H.sub ⟨hP, hD, hS1⟩ perm hnp hp
/-- a row whose places are the same has one cell -/
theorem q_arrc {cA : ClassId} {n : Nat} {f g : Nat → Value} (h : ∀ j, j < n → f j = g j) : arrV cA n f = arrV cA n g := by
  unfold arrV
  congr 1
  apply Array.ext
  · simp
  · intro i h1 h2
    simp at h1 ⊢
    exact h i h1
theorem q_setsame {ws : va_W} {k : Nat} {x : Nat × va_E} : ∀ {ws : va_W} {k : Nat}, ws[k]? = some x → ws.set k x = ws := by
  intro ws
  induction ws with
  | nil => intro k h; simp at h
  | cons a as ih => intro k h; cases k with
    | zero => simp at h; simp [h]
    | succ k => simp at h; simp [ih h]
theorem q_reW {G : vq_G} {A : Nat → Prop} {s : State} {ws : va_W} {H : Heap} {locs : List Loc} (h : vq_H G A s ws H locs) (k : Nat) {a : Nat} {cA : ClassId} {x y : vp_A} (hk : ws[k]? = some (a, .inl (cA, x))) (hxy : vp_cell cA x = vp_cell cA y) : vq_H G A s (ws.set k (a, .inl (cA, y))) H locs := by
  refine ⟨fun j q hq => ?_, h.2.1.set hk, h.2.2⟩
  by_cases hj : j = k
  · subst hj
    have hl : j < ws.length := (List.getElem?_eq_some_iff.mp hk).1
    rw [List.getElem?_set_self hl] at hq
    cases hq
    have := h.1 j _ hk
    show H[a]? = some (vp_cell cA y)
    rw [← hxy]
    exact this
  · rw [List.getElem?_set_ne (by omega)] at hq
    exact h.1 j q hq
theorem q_reI {G : vq_G} {A : Nat → Prop} {s : State} {ws : va_W} {H : Heap} {locs : List Loc} (h : vq_H G A s ws H locs) (k : Nat) {a : Nat} {cA : ClassId} {n : Nat} {f : Nat → Int32} (g : Nat → Int32) (hk : ws[k]? = some (a, .inl (cA, n, .inl f))) (hfg : ∀ j, j < n → f j = g j) : vq_H G A s (ws.set k (a, .inl (cA, n, .inl g))) H locs := q_reW h k hk (by rw [vp_cell_i, vp_cell_i]; exact q_arrc (fun j hj => by rw [hfg j hj]))
theorem q_reL {G : vq_G} {A : Nat → Prop} {s : State} {ws : va_W} {H : Heap} {locs : List Loc} (h : vq_H G A s ws H locs) (k : Nat) {a : Nat} {cA : ClassId} {n : Nat} {f : Nat → Int64} (g : Nat → Int64) (hk : ws[k]? = some (a, .inl (cA, n, .inr (.inl f)))) (hfg : ∀ j, j < n → f j = g j) : vq_H G A s (ws.set k (a, .inl (cA, n, .inr (.inl g)))) H locs := q_reW h k hk (by rw [vp_cell_l, vp_cell_l]; exact q_arrc (fun j hj => by rw [hfg j hj]))
def q_b (b : Bool) : Int32 := if b then 1 else 0
theorem q_upN (g : Nat → Nat) (i x : Nat) : upd (fun j => nI (g j)) i (nI x) = fun j => nI (va_up g i x j) := by
  funext j
  unfold upd va_up
  by_cases h : j = i <;> simp [h]
theorem q_inc (k : Nat) : nI k + Int32.ofInt 1 = nI (k + 1) := nI_1 k
theorem vq_open {l : Launch} {y : MethodName} {Ts Ts' : List Cond} {f lo maxL mc ms : Nat} {cc : ByteArray} {ret : Option FieldType} {G : vq_G} {as : List Value} {ws : va_W} {Qc : (Nat → Prop) → Array Value → State → Outcome → State → Prop} (hy : plainName y.cls = true) (hw : Ts = .code y cc maxL ret :: Ts') (hn : (lg_sl as).length ≤ maxL)
    (body : ∀ p e s m args below meth c (A : Nat → Prop) (ls : Array Slot), vq_C cc maxL ret Ts y.cls G A p s m args meth c → vq_H G A s ws s.heap [] → meth.name = y.name → lv_has ls maxL (lv_args 0 as) → W p l e ({ frames := f, cells := mc, slots := ms, locals := lo } : Room) s m args below meth c s.heap [] 0 0 (MQ below (Qc A) args s mc ms A) (F0 m 0 ls [])) :
    ∀ sz : Nat, Met l y Ts ({ frames := f, cells := mc, slots := ms, locals := lo } : Room) (va_Pc as (vq_U G ws sz)) (Qc (va_A ws sz)) mc ms (va_A ws sz) := by
  intro sz
  refine Met.ofW (cc := cc) (maxL := maxL) (ret := ret) hy hw ?_
  intro p e s m args below meth c s₁ B hml hv
  obtain ⟨rfl, hsz, hP, hK, hD0, hN⟩ := hv
  subst hsz
  rw [lg_entry_eq]
  refine body p e s m _ below meth c _ _ ⟨⟨B.exec, B.bytes, hml, findClass_of_methodNamed B.named, atoms_spec (ws := Ts) B.pre⟩, hK, hN, fun q h => Or.inr h, B.notSynchronized, B.returns⟩ ⟨hP, hD0.self, va_S.rf⟩ (name_of_methodNamed B.named B.method).1 ?_
  exact lv_entry as hn
theorem vq_openi {l : Launch} {y : MethodName} {Ts Ts' : List Cond} {f lo maxL : Nat} {cc : ByteArray} {ret : Option FieldType} {G : vq_G} {as : List Value} {ws ws' : va_W} {r : Int32} (hy : plainName y.cls = true) (hw : Ts = .code y cc maxL ret :: Ts') (hn : (lg_sl as).length ≤ maxL)
    (body : ∀ p e s m args below meth c (A : Nat → Prop) (ls : Array Slot), vq_C cc maxL ret Ts y.cls G A p s m args meth c → vq_H G A s ws s.heap [] → meth.name = y.name → lv_has ls maxL (lv_args 0 as) → W p l e ({ frames := f, cells := 0, slots := 0, locals := lo } : Room) s m args below meth c s.heap [] 0 0 (MQ below (va_Qi (fun x (_ : Unit) => x = r) (fun _ => vq_T G A ws') A) args s 0 0 A) (F0 m 0 ls [])) : vq_i l y Ts f lo G as ws r ws' := vq_open (Qc := fun A => va_Qi (fun x (_ : Unit) => x = r) (fun _ => vq_T G A ws') A) hy hw hn body
theorem vq_openl {l : Launch} {y : MethodName} {Ts Ts' : List Cond} {f lo maxL : Nat} {cc : ByteArray} {ret : Option FieldType} {G : vq_G} {as : List Value} {ws ws' : va_W} {r : Int64} (hy : plainName y.cls = true) (hw : Ts = .code y cc maxL ret :: Ts') (hn : (lg_sl as).length ≤ maxL)
    (body : ∀ p e s m args below meth c (A : Nat → Prop) (ls : Array Slot), vq_C cc maxL ret Ts y.cls G A p s m args meth c → vq_H G A s ws s.heap [] → meth.name = y.name → lv_has ls maxL (lv_args 0 as) → W p l e ({ frames := f, cells := 0, slots := 0, locals := lo } : Room) s m args below meth c s.heap [] 0 0 (MQ below (va_Ql (fun x (_ : Unit) => x = r) (fun _ => vq_T G A ws') A) args s 0 0 A) (F0 m 0 ls [])) : vq_l l y Ts f lo G as ws r ws' := vq_open (Qc := fun A => va_Ql (fun x (_ : Unit) => x = r) (fun _ => vq_T G A ws') A) hy hw hn body
theorem vq_openv {l : Launch} {y : MethodName} {Ts Ts' : List Cond} {f lo maxL : Nat} {cc : ByteArray} {ret : Option FieldType} {G : vq_G} {as : List Value} {ws ws' : va_W} (hy : plainName y.cls = true) (hw : Ts = .code y cc maxL ret :: Ts') (hn : (lg_sl as).length ≤ maxL)
    (body : ∀ p e s m args below meth c (A : Nat → Prop) (ls : Array Slot), vq_C cc maxL ret Ts y.cls G A p s m args meth c → vq_H G A s ws s.heap [] → meth.name = y.name → lv_has ls maxL (lv_args 0 as) → W p l e ({ frames := f, cells := 0, slots := 0, locals := lo } : Room) s m args below meth c s.heap [] 0 0 (MQ below (va_Qv (fun (_ : Unit) => True) (fun _ => vq_T G A ws') A) args s 0 0 A) (F0 m 0 ls [])) : vq_v l y Ts f lo G as ws ws' := vq_open (Qc := fun A => va_Qv (fun (_ : Unit) => True) (fun _ => vq_T G A ws') A) hy hw hn body
theorem vq_openr {l : Launch} {y : MethodName} {Ts Ts' : List Cond} {f lo maxL : Nat} {cc : ByteArray} {ret : Option FieldType} {G : vq_G} {as : List Value} {ws ws' : va_W} {r : Nat} (hy : plainName y.cls = true) (hw : Ts = .code y cc maxL ret :: Ts') (hn : (lg_sl as).length ≤ maxL)
    (body : ∀ p e s m args below meth c (A : Nat → Prop) (ls : Array Slot), vq_C cc maxL ret Ts y.cls G A p s m args meth c → vq_H G A s ws s.heap [] → meth.name = y.name → lv_has ls maxL (lv_args 0 as) → W p l e ({ frames := f, cells := 0, slots := 0, locals := lo } : Room) s m args below meth c s.heap [] 0 0 (MQ below (va_Qr (fun (_ : Unit) => True) (fun _ a t => a = r ∧ vq_T G A ws' t) A) args s 0 0 A) (F0 m 0 ls [])) : vq_r l y Ts f lo G as ws r ws' := vq_open (Qc := fun A => va_Qr (fun (_ : Unit) => True) (fun _ a t => a = r ∧ vq_T G A ws' t) A) hy hw hn body
end VQ0
section VQ1
variable {p : Program} {l : Launch} {e : Env} {R : Room} {s : State} {m : MethodId} {args : Array Value} {below : List Frame} {meth : Method} {c : Code} {H : Heap} {locs : List Loc} {cells slots : Nat} {Q : State → Prop}
variable {cc : ByteArray} {pc : Nat} {ls : Array Slot} {rest : List Value}

theorem q_iadd (hx : p.tables.exec = Jvm.exec) (hb : c.code = cc) {a b : Nat} (hd : decode cc pc = .ok (.iadd, 1)) (k : W p l e R s m args below meth c H locs cells slots Q (F0 m (pc + 1) ls (.int (nI (a + b)) :: rest))) : W p l e R s m args below meth c H locs cells slots Q (F0 m pc ls (.int (nI b) :: .int (nI a) :: rest)) := lv_iadd hx hb hd (by rw [nI_add]; exact k)
theorem q_isub (hx : p.tables.exec = Jvm.exec) (hb : c.code = cc) {a b : Nat} (h : b ≤ a) (hd : decode cc pc = .ok (.isub, 1)) (k : W p l e R s m args below meth c H locs cells slots Q (F0 m (pc + 1) ls (.int (nI (a - b)) :: rest))) : W p l e R s m args below meth c H locs cells slots Q (F0 m pc ls (.int (nI b) :: .int (nI a) :: rest)) := lv_isub hx hb hd (by rw [pk_sub h]; exact k)
theorem q_top {v v' : Value} (h : v = v') (k : W p l e R s m args below meth c H locs cells slots Q (F0 m (pc) ls (v' :: rest))) : W p l e R s m args below meth c H locs cells slots Q (F0 m pc ls (v :: rest)) := by rw [h]; exact k

theorem q_icmp_eq (hx : p.tables.exec = Jvm.exec) (hb : c.code = cc) {a b : Nat} {off : Int} {tgt : Nat} (ha : a < 2 ^ 31) (hb2 : b < 2 ^ 31) (hd : decode cc pc = .ok (.if_icmp .eq off, 3)) (ht : (pc : Int) + off = (tgt : Int)) (kt : a = b → W p l e R s m args below meth c H locs cells slots Q (F0 m tgt ls rest)) (kf : a ≠ b → W p l e R s m args below meth c H locs cells slots Q (F0 m (pc + 3) ls rest)) : W p l e R s m args below meth c H locs cells slots Q (F0 m pc ls (.int (nI b) :: .int (nI a) :: rest)) := lv_icmp_eq hx hb hd ht (fun h => kt ((nI_eq ha hb2).mp h)) (fun h => kf (fun g => h ((nI_eq ha hb2).mpr g)))
theorem q_if_eq (hx : p.tables.exec = Jvm.exec) (hb : c.code = cc) {a : Nat} {off : Int} {tgt : Nat} (ha : a < 2 ^ 31) (hd : decode cc pc = .ok (.ifCond .eq off, 3)) (ht : (pc : Int) + off = (tgt : Int)) (kt : a = 0 → W p l e R s m args below meth c H locs cells slots Q (F0 m tgt ls rest)) (kf : a ≠ 0 → W p l e R s m args below meth c H locs cells slots Q (F0 m (pc + 3) ls rest)) : W p l e R s m args below meth c H locs cells slots Q (F0 m pc ls (.int (nI a) :: rest)) := lv_if_eq hx hb hd ht (fun h => kt ((nI_eq ha (show (0 : Nat) < 2 ^ 31 by decide)).mp h)) (fun h => kf (fun g => h ((nI_eq ha (show (0 : Nat) < 2 ^ 31 by decide)).mpr g)))
theorem q_icmp_ne (hx : p.tables.exec = Jvm.exec) (hb : c.code = cc) {a b : Nat} {off : Int} {tgt : Nat} (ha : a < 2 ^ 31) (hb2 : b < 2 ^ 31) (hd : decode cc pc = .ok (.if_icmp .ne off, 3)) (ht : (pc : Int) + off = (tgt : Int)) (kt : a ≠ b → W p l e R s m args below meth c H locs cells slots Q (F0 m tgt ls rest)) (kf : a = b → W p l e R s m args below meth c H locs cells slots Q (F0 m (pc + 3) ls rest)) : W p l e R s m args below meth c H locs cells slots Q (F0 m pc ls (.int (nI b) :: .int (nI a) :: rest)) := lv_icmp_ne hx hb hd ht (fun h => kt (fun g => h ((nI_eq ha hb2).mpr g))) (fun h => kf ((nI_eq ha hb2).mp h))
theorem q_if_ne (hx : p.tables.exec = Jvm.exec) (hb : c.code = cc) {a : Nat} {off : Int} {tgt : Nat} (ha : a < 2 ^ 31) (hd : decode cc pc = .ok (.ifCond .ne off, 3)) (ht : (pc : Int) + off = (tgt : Int)) (kt : a ≠ 0 → W p l e R s m args below meth c H locs cells slots Q (F0 m tgt ls rest)) (kf : a = 0 → W p l e R s m args below meth c H locs cells slots Q (F0 m (pc + 3) ls rest)) : W p l e R s m args below meth c H locs cells slots Q (F0 m pc ls (.int (nI a) :: rest)) := lv_if_ne hx hb hd ht (fun h => kt (fun g => h ((nI_eq ha (show (0 : Nat) < 2 ^ 31 by decide)).mpr g))) (fun h => kf ((nI_eq ha (show (0 : Nat) < 2 ^ 31 by decide)).mp h))
theorem q_icmp_lt (hx : p.tables.exec = Jvm.exec) (hb : c.code = cc) {a b : Nat} {off : Int} {tgt : Nat} (ha : a < 2 ^ 31) (hb2 : b < 2 ^ 31) (hd : decode cc pc = .ok (.if_icmp .lt off, 3)) (ht : (pc : Int) + off = (tgt : Int)) (kt : a < b → W p l e R s m args below meth c H locs cells slots Q (F0 m tgt ls rest)) (kf : b ≤ a → W p l e R s m args below meth c H locs cells slots Q (F0 m (pc + 3) ls rest)) : W p l e R s m args below meth c H locs cells slots Q (F0 m pc ls (.int (nI b) :: .int (nI a) :: rest)) := lv_icmp_lt hx hb hd ht (fun h => kt ((nI_ltI ha hb2).mp h)) (fun h => kf (Nat.le_of_not_lt fun g => h ((nI_ltI ha hb2).mpr g)))
theorem q_if_lt (hx : p.tables.exec = Jvm.exec) (hb : c.code = cc) {a : Nat} {off : Int} {tgt : Nat} (ha : a < 2 ^ 31) (hd : decode cc pc = .ok (.ifCond .lt off, 3)) (ht : (pc : Int) + off = (tgt : Int)) (kt : a < 0 → W p l e R s m args below meth c H locs cells slots Q (F0 m tgt ls rest)) (kf : 0 ≤ a → W p l e R s m args below meth c H locs cells slots Q (F0 m (pc + 3) ls rest)) : W p l e R s m args below meth c H locs cells slots Q (F0 m pc ls (.int (nI a) :: rest)) := lv_if_lt hx hb hd ht (fun h => kt ((nI_ltI ha (show (0 : Nat) < 2 ^ 31 by decide)).mp h)) (fun h => kf (Nat.le_of_not_lt fun g => h ((nI_ltI ha (show (0 : Nat) < 2 ^ 31 by decide)).mpr g)))
theorem q_icmp_ge (hx : p.tables.exec = Jvm.exec) (hb : c.code = cc) {a b : Nat} {off : Int} {tgt : Nat} (ha : a < 2 ^ 31) (hb2 : b < 2 ^ 31) (hd : decode cc pc = .ok (.if_icmp .ge off, 3)) (ht : (pc : Int) + off = (tgt : Int)) (kt : b ≤ a → W p l e R s m args below meth c H locs cells slots Q (F0 m tgt ls rest)) (kf : a < b → W p l e R s m args below meth c H locs cells slots Q (F0 m (pc + 3) ls rest)) : W p l e R s m args below meth c H locs cells slots Q (F0 m pc ls (.int (nI b) :: .int (nI a) :: rest)) := lv_icmp_ge hx hb hd ht (fun h => kt ((nI_leI hb2 ha).mp h)) (fun h => kf (Nat.lt_of_not_le fun g => h ((nI_leI hb2 ha).mpr g)))
theorem q_if_ge (hx : p.tables.exec = Jvm.exec) (hb : c.code = cc) {a : Nat} {off : Int} {tgt : Nat} (ha : a < 2 ^ 31) (hd : decode cc pc = .ok (.ifCond .ge off, 3)) (ht : (pc : Int) + off = (tgt : Int)) (kt : 0 ≤ a → W p l e R s m args below meth c H locs cells slots Q (F0 m tgt ls rest)) (kf : a < 0 → W p l e R s m args below meth c H locs cells slots Q (F0 m (pc + 3) ls rest)) : W p l e R s m args below meth c H locs cells slots Q (F0 m pc ls (.int (nI a) :: rest)) := lv_if_ge hx hb hd ht (fun h => kt ((nI_leI (show (0 : Nat) < 2 ^ 31 by decide) ha).mp h)) (fun h => kf (Nat.lt_of_not_le fun g => h ((nI_leI (show (0 : Nat) < 2 ^ 31 by decide) ha).mpr g)))
theorem q_icmp_gt (hx : p.tables.exec = Jvm.exec) (hb : c.code = cc) {a b : Nat} {off : Int} {tgt : Nat} (ha : a < 2 ^ 31) (hb2 : b < 2 ^ 31) (hd : decode cc pc = .ok (.if_icmp .gt off, 3)) (ht : (pc : Int) + off = (tgt : Int)) (kt : b < a → W p l e R s m args below meth c H locs cells slots Q (F0 m tgt ls rest)) (kf : a ≤ b → W p l e R s m args below meth c H locs cells slots Q (F0 m (pc + 3) ls rest)) : W p l e R s m args below meth c H locs cells slots Q (F0 m pc ls (.int (nI b) :: .int (nI a) :: rest)) := lv_icmp_gt hx hb hd ht (fun h => kt ((nI_ltI hb2 ha).mp h)) (fun h => kf (Nat.le_of_not_lt fun g => h ((nI_ltI hb2 ha).mpr g)))
theorem q_if_gt (hx : p.tables.exec = Jvm.exec) (hb : c.code = cc) {a : Nat} {off : Int} {tgt : Nat} (ha : a < 2 ^ 31) (hd : decode cc pc = .ok (.ifCond .gt off, 3)) (ht : (pc : Int) + off = (tgt : Int)) (kt : 0 < a → W p l e R s m args below meth c H locs cells slots Q (F0 m tgt ls rest)) (kf : a ≤ 0 → W p l e R s m args below meth c H locs cells slots Q (F0 m (pc + 3) ls rest)) : W p l e R s m args below meth c H locs cells slots Q (F0 m pc ls (.int (nI a) :: rest)) := lv_if_gt hx hb hd ht (fun h => kt ((nI_ltI (show (0 : Nat) < 2 ^ 31 by decide) ha).mp h)) (fun h => kf (Nat.le_of_not_lt fun g => h ((nI_ltI (show (0 : Nat) < 2 ^ 31 by decide) ha).mpr g)))
theorem q_icmp_le (hx : p.tables.exec = Jvm.exec) (hb : c.code = cc) {a b : Nat} {off : Int} {tgt : Nat} (ha : a < 2 ^ 31) (hb2 : b < 2 ^ 31) (hd : decode cc pc = .ok (.if_icmp .le off, 3)) (ht : (pc : Int) + off = (tgt : Int)) (kt : a ≤ b → W p l e R s m args below meth c H locs cells slots Q (F0 m tgt ls rest)) (kf : b < a → W p l e R s m args below meth c H locs cells slots Q (F0 m (pc + 3) ls rest)) : W p l e R s m args below meth c H locs cells slots Q (F0 m pc ls (.int (nI b) :: .int (nI a) :: rest)) := lv_icmp_le hx hb hd ht (fun h => kt ((nI_leI ha hb2).mp h)) (fun h => kf (Nat.lt_of_not_le fun g => h ((nI_leI ha hb2).mpr g)))
theorem q_if_le (hx : p.tables.exec = Jvm.exec) (hb : c.code = cc) {a : Nat} {off : Int} {tgt : Nat} (ha : a < 2 ^ 31) (hd : decode cc pc = .ok (.ifCond .le off, 3)) (ht : (pc : Int) + off = (tgt : Int)) (kt : a ≤ 0 → W p l e R s m args below meth c H locs cells slots Q (F0 m tgt ls rest)) (kf : 0 < a → W p l e R s m args below meth c H locs cells slots Q (F0 m (pc + 3) ls rest)) : W p l e R s m args below meth c H locs cells slots Q (F0 m pc ls (.int (nI a) :: rest)) := lv_if_le hx hb hd ht (fun h => kt ((nI_leI ha (show (0 : Nat) < 2 ^ 31 by decide)).mp h)) (fun h => kf (Nat.lt_of_not_le fun g => h ((nI_leI ha (show (0 : Nat) < 2 ^ 31 by decide)).mpr g)))
theorem q_ifb_eq (hx : p.tables.exec = Jvm.exec) (hb : c.code = cc) {b : Bool} {off : Int} {tgt : Nat} (hd : decode cc pc = .ok (.ifCond .eq off, 3)) (ht : (pc : Int) + off = (tgt : Int)) (kt : b = false → W p l e R s m args below meth c H locs cells slots Q (F0 m tgt ls rest)) (kf : b = true → W p l e R s m args below meth c H locs cells slots Q (F0 m (pc + 3) ls rest)) : W p l e R s m args below meth c H locs cells slots Q (F0 m pc ls (.int (q_b b) :: rest)) := by
  refine lv_if_eq hx hb hd ht (fun h => ?_) (fun h => ?_) <;> cases b <;> first | exact kt rfl | exact kf rfl | exact absurd h (by decide) | exact absurd (by decide) h
theorem q_ifb_ne (hx : p.tables.exec = Jvm.exec) (hb : c.code = cc) {b : Bool} {off : Int} {tgt : Nat} (hd : decode cc pc = .ok (.ifCond .ne off, 3)) (ht : (pc : Int) + off = (tgt : Int)) (kt : b = true → W p l e R s m args below meth c H locs cells slots Q (F0 m tgt ls rest)) (kf : b = false → W p l e R s m args below meth c H locs cells slots Q (F0 m (pc + 3) ls rest)) : W p l e R s m args below meth c H locs cells slots Q (F0 m pc ls (.int (q_b b) :: rest)) := by
  refine lv_if_ne hx hb hd ht (fun h => ?_) (fun h => ?_) <;> cases b <;> first | exact kt rfl | exact kf rfl | exact absurd h (by decide) | exact absurd (by decide) h
theorem q_lif_eq (hx : p.tables.exec = Jvm.exec) (hb : c.code = cc) {x y : Int64} {off : Int} {tgt : Nat} (hd : decode cc pc = .ok (.lcmp, 1)) (hd2 : decode cc (pc + 1) = .ok (.ifCond .eq off, 3)) (ht : ((pc + 1 : Nat) : Int) + off = (tgt : Int)) (kt : x = y → W p l e R s m args below meth c H locs cells slots Q (F0 m tgt ls rest)) (kf : x ≠ y → W p l e R s m args below meth c H locs cells slots Q (F0 m (pc + 1 + 3) ls rest)) : W p l e R s m args below meth c H locs cells slots Q (F0 m pc ls (.long y :: .long x :: rest)) := by
  refine W.lcmp hx hb hd ?_
  have hz : lg_cmp x y = 0 ↔ x = y := by
    unfold lg_cmp
    by_cases h1 : x > y
    · have : x ≠ y := fun h => by subst h; exact absurd h1 (by simp [Int64.lt_iff_toInt_lt])
      simp [h1, this]
    · by_cases h2 : x = y <;> simp [h1, h2]
  exact lv_if_eq hx hb hd2 ht (fun h => kt (hz.mp h)) (fun h => kf (fun g => h (hz.mpr g)))
theorem q_lif_ne (hx : p.tables.exec = Jvm.exec) (hb : c.code = cc) {x y : Int64} {off : Int} {tgt : Nat} (hd : decode cc pc = .ok (.lcmp, 1)) (hd2 : decode cc (pc + 1) = .ok (.ifCond .ne off, 3)) (ht : ((pc + 1 : Nat) : Int) + off = (tgt : Int)) (kt : x ≠ y → W p l e R s m args below meth c H locs cells slots Q (F0 m tgt ls rest)) (kf : x = y → W p l e R s m args below meth c H locs cells slots Q (F0 m (pc + 1 + 3) ls rest)) : W p l e R s m args below meth c H locs cells slots Q (F0 m pc ls (.long y :: .long x :: rest)) := by
  refine W.lcmp hx hb hd ?_
  have hz : lg_cmp x y = 0 ↔ x = y := by
    unfold lg_cmp
    by_cases h1 : x > y
    · have : x ≠ y := fun h => by subst h; exact absurd h1 (by simp [Int64.lt_iff_toInt_lt])
      simp [h1, this]
    · by_cases h2 : x = y <;> simp [h1, h2]
  exact lv_if_ne hx hb hd2 ht (fun h => kt (fun g => h (hz.mpr g))) (fun h => kf (hz.mp h))
end VQ1
section VQ2
variable {p : Program} {l : Launch} {e : Env} {R : Room} {s : State} {m : MethodId} {args : Array Value} {below : List Frame} {meth : Method} {c : Code} {H : Heap} {locs : List Loc} {cells slots : Nat} {Q : State → Prop}
variable {cc : ByteArray} {pc : Nat} {ls : Array Slot} {rest : List Value}
variable {nL : Nat} {ret : Option FieldType} {Ts : List Cond} {own : String} {G : vq_G} {A : Nat → Prop} {ws : va_W}

theorem q_get (C : vq_C cc nL ret Ts own G A p s m args meth c) (h : vq_H G A s ws H locs) {Cn : String} {T : u_T} {N ci index a : Nat} (hin : ∀ w ∈ u_ws Cn T N, w ∈ Ts) (q0 : Nat) {fs : List Value} (he : ws[q0]? = some (a, .inr (ci, fs))) (hc : vwCl[ci]? = some (Cn, T, N)) (k : Nat) (hk : k < N) (hlink : (Cond.fieldLink own index (T k).1 (T k).2.1 (T k).2.2.1).before args s = true) {v : Value} (hv : fs[k]? = some v) (hd : decode cc pc = .ok (.getfield index, 3))
    (kk : W p l e R s m args below meth c H locs cells slots Q (F0 m (pc + 3) ls (v :: rest))) : W p l e R s m args below meth c H locs cells slots Q (F0 m pc ls (.ref a :: rest)) := va_get C.1.1 C.1.2.1 C.1.2.2.2.2 hin C.1.2.2.2.1 C.2.1 h.1 q0 he hc k hk hlink (fun _ h9 => h9) hv hd kk
theorem q_put (C : vq_C cc nL ret Ts own G A p s m args meth c) (h : vq_H G A s ws H locs) {Cn : String} {T : u_T} {N ci index a : Nat} (hin : ∀ w ∈ u_ws Cn T N, w ∈ Ts) (ty0 : Nat → FieldType) (hty : ∀ k, k < N → parseFieldDescriptor (T k).2.2.1 = some (ty0 k)) (hnm : ∀ a, a < N → ∀ b, b < N → a ≠ b → (T a).2.1 ≠ (T b).2.1) (q0 : Nat) {fs : List Value} (he : ws[q0]? = some (a, .inr (ci, fs))) (hc : vwCl[ci]? = some (Cn, T, N)) (k : Nat) (hk : k < N) (hlink : (Cond.fieldLink own index (T k).1 (T k).2.1 (T k).2.2.1).before args s = true) (hfin : (T k).2.2.2 = false) {v : Value} (hn : narrow (ty0 k) v = v) (hfit : fits (ty0 k) v = true) (hl : k < fs.length) (hd : decode cc pc = .ok (.putfield index, 3)) {w' : va_W} (hw : ws.set q0 (a, .inr (ci, fs.set k v)) = w')
    (kk : ∀ (H : Heap) (locs : List Loc), vq_H G A s w' H locs → W p l e R s m args below meth c H locs cells slots Q (F0 m (pc + 3) ls (rest))) : W p l e R s m args below meth c H locs cells slots Q (F0 m pc ls (v :: .ref a :: rest)) := by
  subst hw
  exact va_put C.1.1 C.1.2.1 C.1.2.2.2.2 hin ty0 hty hnm C.1.2.2.2.1 C.2.1 h.1 h.2.1 h.2.2 q0 he hc k hk hlink (fun _ h9 => h9) hfin (hty k hk) hn hfit hl hd (fun H1 l1 hP hD hS => kk H1 l1 ⟨hP, hD, hS⟩)
theorem q_putF (C : vq_C cc nL ret Ts own G A p s m args meth c) (h : vq_H G A s ws H locs) {Cn : String} {T : u_T} {N ci index a : Nat} (hin : ∀ w ∈ u_ws Cn T N, w ∈ Ts) (ty0 : Nat → FieldType) (hty : ∀ k, k < N → parseFieldDescriptor (T k).2.2.1 = some (ty0 k)) (hnm : ∀ a, a < N → ∀ b, b < N → a ≠ b → (T a).2.1 ≠ (T b).2.1) (q0 : Nat) {fs : List Value} (he : ws[q0]? = some (a, .inr (ci, fs))) (hc : vwCl[ci]? = some (Cn, T, N)) (k : Nat) (hk : k < N) (hlink : (Cond.fieldLink own index (T k).1 (T k).2.1 (T k).2.2.1).before args s = true) (hfin : (T k).2.2.2 = true) (hin2 : meth.name = "<init>") (hdecl : (T k).1 = own) {v : Value} (hn : narrow (ty0 k) v = v) (hfit : fits (ty0 k) v = true) (hl : k < fs.length) (hd : decode cc pc = .ok (.putfield index, 3)) {w' : va_W} (hw : ws.set q0 (a, .inr (ci, fs.set k v)) = w')
    (kk : ∀ (H : Heap) (locs : List Loc), vq_H G A s w' H locs → W p l e R s m args below meth c H locs cells slots Q (F0 m (pc + 3) ls (rest))) : W p l e R s m args below meth c H locs cells slots Q (F0 m pc ls (v :: .ref a :: rest)) := by
  subst hw
  exact va_putF C.1.1 C.1.2.1 C.1.2.2.2.2 hin ty0 hty hnm C.1.2.2.2.1 C.2.1 h.1 h.2.1 h.2.2 q0 he hc k hk hlink (fun _ h9 => h9) hfin hin2 hdecl (hty k hk) hn hfit hl hd (fun H1 l1 hP hD hS => kk H1 l1 ⟨hP, hD, hS⟩)
theorem q_iald (C : vq_C cc nL ret Ts own G A p s m args meth c) (h : vq_H G A s ws H locs) {a : Nat} (q0 : Nat) {n : Nat} {f : Nat → Int32} (ha : ws[q0]? = some (a, .inl (G.2.1, n, .inl f))) {i : Nat} (hi : i < n) (hn : n < 2 ^ 31) {v : Int32} (hv : f i = v) (hd : decode cc pc = .ok (.iaload, 1))
    (kk : W p l e R s m args below meth c H locs cells slots Q (F0 m (pc + 1) ls (.int v :: rest))) : W p l e R s m args below meth c H locs cells slots Q (F0 m pc ls (.int (nI i) :: .ref a :: rest)) := by
  subst hv
  refine va_iald C.1.1 C.1.2.1 C.2.1 h.1 q0 0 ha rfl (vp_in_nI hi hn) hd ?_
  rw [nI_clamp (Nat.lt_trans hi hn)]
  exact kk
theorem q_lald (C : vq_C cc nL ret Ts own G A p s m args meth c) (h : vq_H G A s ws H locs) {a : Nat} (q0 : Nat) {n : Nat} {f : Nat → Int64} (ha : ws[q0]? = some (a, .inl (G.2.2, n, .inr (.inl f)))) {i : Nat} (hi : i < n) (hn : n < 2 ^ 31) {v : Int64} (hv : f i = v) (hd : decode cc pc = .ok (.laload, 1))
    (kk : W p l e R s m args below meth c H locs cells slots Q (F0 m (pc + 1) ls (.long v :: rest))) : W p l e R s m args below meth c H locs cells slots Q (F0 m pc ls (.int (nI i) :: .ref a :: rest)) := by
  subst hv
  refine va_lald C.1.1 C.1.2.1 C.2.1 h.1 q0 1 ha rfl (vp_in_nI hi hn) hd ?_
  rw [nI_clamp (Nat.lt_trans hi hn)]
  exact kk
theorem q_iast (C : vq_C cc nL ret Ts own G A p s m args meth c) (h : vq_H G A s ws H locs) {a : Nat} (q0 : Nat) {n : Nat} {f : Nat → Int32} (ha : ws[q0]? = some (a, .inl (G.2.1, n, .inl f))) {i : Nat} (hi : i < n) (hn : n < 2 ^ 31) {x : Int32} {w' : va_W} {g : Nat → Int32} (hg : upd f i x = g) (hw : ws.set q0 (a, .inl (G.2.1, n, .inl g)) = w') (hd : decode cc pc = .ok (.iastore, 1))
    (kk : ∀ (H : Heap) (locs : List Loc), vq_H G A s w' H locs → W p l e R s m args below meth c H locs cells slots Q (F0 m (pc + 1) ls (rest))) : W p l e R s m args below meth c H locs cells slots Q (F0 m pc ls (.int x :: .int (nI i) :: .ref a :: rest)) := by
  subst hw
  subst hg
  have e := nI_clamp (Nat.lt_trans hi hn)
  refine va_iast C.1.1 C.1.2.1 C.2.1 h.1 h.2.1 h.2.2 q0 0 ha rfl (vp_in_nI hi hn) hd (fun H1 l1 hP hD hS => ?_)
  rw [e] at hP hD
  exact kk H1 l1 ⟨hP, hD, hS⟩
theorem q_last (C : vq_C cc nL ret Ts own G A p s m args meth c) (h : vq_H G A s ws H locs) {a : Nat} (q0 : Nat) {n : Nat} {f : Nat → Int64} (ha : ws[q0]? = some (a, .inl (G.2.2, n, .inr (.inl f)))) {i : Nat} (hi : i < n) (hn : n < 2 ^ 31) {x : Int64} {w' : va_W} {g : Nat → Int64} (hg : vp_updL f i x = g) (hw : ws.set q0 (a, .inl (G.2.2, n, .inr (.inl g))) = w') (hd : decode cc pc = .ok (.lastore, 1))
    (kk : ∀ (H : Heap) (locs : List Loc), vq_H G A s w' H locs → W p l e R s m args below meth c H locs cells slots Q (F0 m (pc + 1) ls (rest))) : W p l e R s m args below meth c H locs cells slots Q (F0 m pc ls (.long x :: .int (nI i) :: .ref a :: rest)) := by
  subst hw
  subst hg
  have e := nI_clamp (Nat.lt_trans hi hn)
  refine va_last C.1.1 C.1.2.1 C.2.1 h.1 h.2.1 h.2.2 q0 1 ha rfl (vp_in_nI hi hn) hd (fun H1 l1 hP hD hS => ?_)
  rw [e] at hP hD
  exact kk H1 l1 ⟨hP, hD, hS⟩
theorem q_alen (C : vq_C cc nL ret Ts own G A p s m args meth c) (h : vq_H G A s ws H locs) {a : Nat} (q0 : Nat) {n : Nat} {f : (Nat → Int32) ⊕ (Nat → Int64) ⊕ (Nat → UInt32) ⊕ (Nat → UInt64) ⊕ (Nat → Option Nat)} (ha : ws[q0]? = some (a, .inl (G.2.1, n, f))) (hd : decode cc pc = .ok (.arraylength, 1)) (kk : W p l e R s m args below meth c H locs cells slots Q (F0 m (pc + 1) ls (.int (nI n) :: rest))) : W p l e R s m args below meth c H locs cells slots Q (F0 m pc ls (.ref a :: rest)) := va_alen C.1.1 C.1.2.1 C.2.1 h.1 q0 0 ha rfl rfl hd kk
theorem q_alenL (C : vq_C cc nL ret Ts own G A p s m args meth c) (h : vq_H G A s ws H locs) {a : Nat} (q0 : Nat) {n : Nat} {f : (Nat → Int32) ⊕ (Nat → Int64) ⊕ (Nat → UInt32) ⊕ (Nat → UInt64) ⊕ (Nat → Option Nat)} (ha : ws[q0]? = some (a, .inl (G.2.2, n, f))) (hd : decode cc pc = .ok (.arraylength, 1)) (kk : W p l e R s m args below meth c H locs cells slots Q (F0 m (pc + 1) ls (.int (nI n) :: rest))) : W p l e R s m args below meth c H locs cells slots Q (F0 m pc ls (.ref a :: rest)) := va_alen C.1.1 C.1.2.1 C.2.1 h.1 q0 1 ha rfl rfl hd kk
theorem q_ldc2 (C : vq_C cc nL ret Ts own G A p s m args meth c) {index : Nat} {v : Int64} (hconst : (Jvm.Cond.constantLong own index v).before args s = true) (hd : decode cc pc = .ok (.ldc2_w index, 3)) (kk : W p l e R s m args below meth c H locs cells slots Q (F0 m (pc + 3) ls (.long v :: rest))) : W p l e R s m args below meth c H locs cells slots Q (F0 m pc ls (rest)) := lv_ldc2 C.1.1 C.1.2.1 C.1.2.2.2.1 hconst hd kk
theorem q_reti (C : vq_C cc nL ret Ts own G A p s m args meth c) (h : vq_H G A s ws H locs) (hr : ret = some .int) {v r : Int32} (ev : v = r) {ws' : va_W} (ew : ws = ws') (hd : decode cc pc = .ok (.ireturn, 1)) : W p l e R s m args below meth c H locs cells slots (MQ below (va_Qi (fun x (_ : Unit) => x = r) (fun _ => vq_T G A ws') A) args s cells slots A) (F0 m pc ls [.int v]) := by
  subst ev
  subst ew
  have hlk := C.2.2.2.2.1
  exact W.iret C.1.1 C.1.2.1 (C.2.2.2.2.2.trans hr) (fun t ht hW => ⟨⟨v, (), rfl, rfl, by rw [ht]; exact h.1, h.2.1⟩, h.2.2.F ht⟩) h.2.2.2.2 hd hlk
theorem q_retz (C : vq_C cc nL ret Ts own G A p s m args meth c) (h : vq_H G A s ws H locs) (hr : ret = some .boolean) {v r : Bool} (ev : v = r) {ws' : va_W} (ew : ws = ws') (hd : decode cc pc = .ok (.ireturn, 1)) : W p l e R s m args below meth c H locs cells slots (MQ below (va_Qi (fun x (_ : Unit) => x = q_b r) (fun _ => vq_T G A ws') A) args s cells slots A) (F0 m pc ls [.int (q_b v)]) := by
  subst ev
  subst ew
  have hlk := C.2.2.2.2.1
  exact W.zret C.1.1 C.1.2.1 (C.2.2.2.2.2.trans hr) (by cases v <;> decide) (fun t ht hW => ⟨⟨q_b v, (), rfl, rfl, by rw [ht]; exact h.1, h.2.1⟩, h.2.2.F ht⟩) h.2.2.2.2 hd hlk
theorem q_retl (C : vq_C cc nL ret Ts own G A p s m args meth c) (h : vq_H G A s ws H locs) (hr : ret = some .long) {v r : Int64} (ev : v = r) {ws' : va_W} (ew : ws = ws') (hd : decode cc pc = .ok (.lreturn, 1)) : W p l e R s m args below meth c H locs cells slots (MQ below (va_Ql (fun x (_ : Unit) => x = r) (fun _ => vq_T G A ws') A) args s cells slots A) (F0 m pc ls [.long v]) := by
  subst ev
  subst ew
  have hlk := C.2.2.2.2.1
  exact W.lret C.1.1 C.1.2.1 (C.2.2.2.2.2.trans hr) (fun t ht hW => ⟨⟨v, (), rfl, rfl, by rw [ht]; exact h.1, h.2.1⟩, h.2.2.F ht⟩) h.2.2.2.2 hd hlk
theorem q_retv (C : vq_C cc nL ret Ts own G A p s m args meth c) (h : vq_H G A s ws H locs) (hr : ret = none) {ws' : va_W} (ew : ws = ws') (hd : decode cc pc = .ok (.return_, 1)) : W p l e R s m args below meth c H locs cells slots (MQ below (va_Qv (fun (_ : Unit) => True) (fun _ => vq_T G A ws') A) args s cells slots A) (F0 m pc ls []) := by
  subst ew
  have hlk := C.2.2.2.2.1
  exact W.vret C.1.1 C.1.2.1 (C.2.2.2.2.2.trans hr) (fun t ht hW => ⟨⟨(), rfl, trivial, by rw [ht]; exact h.1, h.2.1⟩, h.2.2.F ht⟩) h.2.2.2.2 hd hlk
theorem q_retr (C : vq_C cc nL ret Ts own G A p s m args meth c) (h : vq_H G A s ws H locs) {rt : FieldType} (hr : ret = some rt) (hrt : (∃ n, rt = .object n) ∨ ∃ t, rt = .array t) {v r : Nat} (ev : v = r) {ws' : va_W} (ew : ws = ws') (hd : decode cc pc = .ok (.areturn, 1)) : W p l e R s m args below meth c H locs cells slots (MQ below (va_Qr (fun (_ : Unit) => True) (fun _ a t => a = r ∧ vq_T G A ws' t) A) args s cells slots A) (F0 m pc ls [.ref v]) := by
  subst ev
  subst ew
  have hlk := C.2.2.2.2.1
  exact W.aret C.1.1 C.1.2.1 (C.2.2.2.2.2.trans hr) hrt (Or.inr ⟨v, rfl⟩) (fun t ht hW => ⟨⟨(), v, rfl, trivial, rfl, by rw [ht]; exact h.1, h.2.1⟩, h.2.2.F ht⟩) h.2.2.2.2 hd hlk
theorem q_callVi (C : vq_C cc nL ret Ts own G A p s m args meth c) (h : vq_H G A s ws H locs) {y : MethodName} {Ts2 : List Cond} {f lo : Nat} {as : List Value} {wc w1 : va_W} {r : Int32} {b : Nat} {Cn : String} (hM : vq_i l y Ts2 f lo G (.ref b :: as) wc r w1) {index maxL n : Nat} {bytes : ByteArray} {rt : Option FieldType} (cw : CallW R s args own Cn index y bytes maxL rt Ts2 { frames := f, cells := 0, slots := 0, locals := lo } 0 0 n) (isC : List Nat) (hC : isC.map (fun i => ws[i]?) = wc.map some) (hnc : va_nd isC = true) (isR : List Nat) {wr : va_W} (hR : isR.map (fun i => ws[i]?) = wr.map some) (hn : va_nd isR = true) (hdis : ∀ i ∈ isR, i ∉ isC) (q0 : Nat) {ci : Nat} {fs : List Value} {T : u_T} {N : Nat} (he : ws[q0]? = some (b, .inr (ci, fs))) (hc : vwCl[ci]? = some (Cn, T, N)) (hnn : as.length = n) (hl : ls.size = nL) {st : List Value} (hst : st = as.reverse ++ .ref b :: rest) (hW : (rest.map fun v => v.category).sum ≤ 8) (hd : decode cc pc = .ok (.invokevirtual index, 3)) (hcs : cells ≤ R.cells ∧ slots ≤ R.slots) (perm : List Nat) {w' : va_W} (hp : perm.map (fun i => (wr ++ w1)[i]?) = w'.map some) (hnp : va_nd perm = true)
    (kk : ∀ (H : Heap) (locs : List Loc), vq_H G A s w' H locs → W p l e R s m args below meth c H locs cells slots Q (F0 m (pc + 3) ls (.int r :: rest))) : W p l e R s m args below meth c H locs cells slots Q (F0 m pc ls (st)) := by
  subst hst
  have hF := va_free h.2.1 h.2.2 C.2.2.2.1 isC hC
  refine va_calli (va_runV C.1 (hM H.size) cw ⟨vq_fb, va_recv C.2.1 h.1 hc he, fun U hU hW => ⟨rfl, by rw [hU], by rw [hU]; exact (h.1.sub isC (q_fm hC)), va_K.moved hW.alike C.2.1, (h.2.1.sub isC hnc hC).weaken (fun _ _ _ _ => trivial), C.2.2.1.warm hW⟩⟩ rfl hnn hl rfl (lv_room hW) hd hcs) h.2.2 (fun q _ hq => hF q hq) hF (fun x u t H1 locs1 ht hvm hw hB hz1 hk1 hS => ?_)
  subst hw
  exact kk H1 locs1 (q_after h isC isR perm hC hR hn hdis hp hnp hF hk1 (by rw [← ht]; exact hB.1) hB.2 hS)
theorem q_callVl (C : vq_C cc nL ret Ts own G A p s m args meth c) (h : vq_H G A s ws H locs) {y : MethodName} {Ts2 : List Cond} {f lo : Nat} {as : List Value} {wc w1 : va_W} {r : Int64} {b : Nat} {Cn : String} (hM : vq_l l y Ts2 f lo G (.ref b :: as) wc r w1) {index maxL n : Nat} {bytes : ByteArray} {rt : Option FieldType} (cw : CallW R s args own Cn index y bytes maxL rt Ts2 { frames := f, cells := 0, slots := 0, locals := lo } 0 0 n) (isC : List Nat) (hC : isC.map (fun i => ws[i]?) = wc.map some) (hnc : va_nd isC = true) (isR : List Nat) {wr : va_W} (hR : isR.map (fun i => ws[i]?) = wr.map some) (hn : va_nd isR = true) (hdis : ∀ i ∈ isR, i ∉ isC) (q0 : Nat) {ci : Nat} {fs : List Value} {T : u_T} {N : Nat} (he : ws[q0]? = some (b, .inr (ci, fs))) (hc : vwCl[ci]? = some (Cn, T, N)) (hnn : as.length = n) (hl : ls.size = nL) {st : List Value} (hst : st = as.reverse ++ .ref b :: rest) (hW : (rest.map fun v => v.category).sum ≤ 8) (hd : decode cc pc = .ok (.invokevirtual index, 3)) (hcs : cells ≤ R.cells ∧ slots ≤ R.slots) (perm : List Nat) {w' : va_W} (hp : perm.map (fun i => (wr ++ w1)[i]?) = w'.map some) (hnp : va_nd perm = true)
    (kk : ∀ (H : Heap) (locs : List Loc), vq_H G A s w' H locs → W p l e R s m args below meth c H locs cells slots Q (F0 m (pc + 3) ls (.long r :: rest))) : W p l e R s m args below meth c H locs cells slots Q (F0 m pc ls (st)) := by
  subst hst
  have hF := va_free h.2.1 h.2.2 C.2.2.2.1 isC hC
  refine va_calll (va_runV C.1 (hM H.size) cw ⟨vq_fb, va_recv C.2.1 h.1 hc he, fun U hU hW => ⟨rfl, by rw [hU], by rw [hU]; exact (h.1.sub isC (q_fm hC)), va_K.moved hW.alike C.2.1, (h.2.1.sub isC hnc hC).weaken (fun _ _ _ _ => trivial), C.2.2.1.warm hW⟩⟩ rfl hnn hl rfl (lv_room hW) hd hcs) h.2.2 (fun q _ hq => hF q hq) hF (fun x u t H1 locs1 ht hvm hw hB hz1 hk1 hS => ?_)
  subst hw
  exact kk H1 locs1 (q_after h isC isR perm hC hR hn hdis hp hnp hF hk1 (by rw [← ht]; exact hB.1) hB.2 hS)
theorem q_callVv (C : vq_C cc nL ret Ts own G A p s m args meth c) (h : vq_H G A s ws H locs) {y : MethodName} {Ts2 : List Cond} {f lo : Nat} {as : List Value} {wc w1 : va_W}  {b : Nat} {Cn : String} (hM : vq_v l y Ts2 f lo G (.ref b :: as) wc w1) {index maxL n : Nat} {bytes : ByteArray} {rt : Option FieldType} (cw : CallW R s args own Cn index y bytes maxL rt Ts2 { frames := f, cells := 0, slots := 0, locals := lo } 0 0 n) (isC : List Nat) (hC : isC.map (fun i => ws[i]?) = wc.map some) (hnc : va_nd isC = true) (isR : List Nat) {wr : va_W} (hR : isR.map (fun i => ws[i]?) = wr.map some) (hn : va_nd isR = true) (hdis : ∀ i ∈ isR, i ∉ isC) (q0 : Nat) {ci : Nat} {fs : List Value} {T : u_T} {N : Nat} (he : ws[q0]? = some (b, .inr (ci, fs))) (hc : vwCl[ci]? = some (Cn, T, N)) (hnn : as.length = n) (hl : ls.size = nL) {st : List Value} (hst : st = as.reverse ++ .ref b :: rest) (hW : (rest.map fun v => v.category).sum ≤ 8) (hd : decode cc pc = .ok (.invokevirtual index, 3)) (hcs : cells ≤ R.cells ∧ slots ≤ R.slots) (perm : List Nat) {w' : va_W} (hp : perm.map (fun i => (wr ++ w1)[i]?) = w'.map some) (hnp : va_nd perm = true)
    (kk : ∀ (H : Heap) (locs : List Loc), vq_H G A s w' H locs → W p l e R s m args below meth c H locs cells slots Q (F0 m (pc + 3) ls (rest))) : W p l e R s m args below meth c H locs cells slots Q (F0 m pc ls (st)) := by
  subst hst
  have hF := va_free h.2.1 h.2.2 C.2.2.2.1 isC hC
  refine va_callv (va_runV C.1 (hM H.size) cw ⟨vq_fb, va_recv C.2.1 h.1 hc he, fun U hU hW => ⟨rfl, by rw [hU], by rw [hU]; exact (h.1.sub isC (q_fm hC)), va_K.moved hW.alike C.2.1, (h.2.1.sub isC hnc hC).weaken (fun _ _ _ _ => trivial), C.2.2.1.warm hW⟩⟩ rfl hnn hl rfl (lv_room hW) hd hcs) h.2.2 (fun q _ hq => hF q hq) hF (fun u t H1 locs1 ht hvm hw hB hz1 hk1 hS => ?_)
  exact kk H1 locs1 (q_after h isC isR perm hC hR hn hdis hp hnp hF hk1 (by rw [← ht]; exact hB.1) hB.2 hS)
theorem q_callVr (C : vq_C cc nL ret Ts own G A p s m args meth c) (h : vq_H G A s ws H locs) {y : MethodName} {Ts2 : List Cond} {f lo : Nat} {as : List Value} {wc w1 : va_W} {r : Nat} {b : Nat} {Cn : String} (hM : vq_r l y Ts2 f lo G (.ref b :: as) wc r w1) {index maxL n : Nat} {bytes : ByteArray} {rt : Option FieldType} (cw : CallW R s args own Cn index y bytes maxL rt Ts2 { frames := f, cells := 0, slots := 0, locals := lo } 0 0 n) (isC : List Nat) (hC : isC.map (fun i => ws[i]?) = wc.map some) (hnc : va_nd isC = true) (isR : List Nat) {wr : va_W} (hR : isR.map (fun i => ws[i]?) = wr.map some) (hn : va_nd isR = true) (hdis : ∀ i ∈ isR, i ∉ isC) (q0 : Nat) {ci : Nat} {fs : List Value} {T : u_T} {N : Nat} (he : ws[q0]? = some (b, .inr (ci, fs))) (hc : vwCl[ci]? = some (Cn, T, N)) (hnn : as.length = n) (hl : ls.size = nL) {st : List Value} (hst : st = as.reverse ++ .ref b :: rest) (hW : (rest.map fun v => v.category).sum ≤ 8) (hd : decode cc pc = .ok (.invokevirtual index, 3)) (hcs : cells ≤ R.cells ∧ slots ≤ R.slots) (perm : List Nat) {w' : va_W} (hp : perm.map (fun i => (wr ++ w1)[i]?) = w'.map some) (hnp : va_nd perm = true)
    (kk : ∀ (H : Heap) (locs : List Loc), vq_H G A s w' H locs → W p l e R s m args below meth c H locs cells slots Q (F0 m (pc + 3) ls (.ref r :: rest))) : W p l e R s m args below meth c H locs cells slots Q (F0 m pc ls (st)) := by
  subst hst
  have hF := va_free h.2.1 h.2.2 C.2.2.2.1 isC hC
  refine va_callr (va_runV C.1 (hM H.size) cw ⟨vq_fb, va_recv C.2.1 h.1 hc he, fun U hU hW => ⟨rfl, by rw [hU], by rw [hU]; exact (h.1.sub isC (q_fm hC)), va_K.moved hW.alike C.2.1, (h.2.1.sub isC hnc hC).weaken (fun _ _ _ _ => trivial), C.2.2.1.warm hW⟩⟩ rfl hnn hl rfl (lv_room hW) hd hcs) h.2.2 (fun q _ hq => hF q hq) hF (fun u x t H1 locs1 ht hvm hw hB hz1 hk1 hS => ?_)
  obtain ⟨rfl, hB⟩ := hB
  exact kk H1 locs1 (q_after h isC isR perm hC hR hn hdis hp hnp hF hk1 (by rw [← ht]; exact hB.1) hB.2 hS)
theorem q_callSi (C : vq_C cc nL ret Ts own G A p s m args meth c) (h : vq_H G A s ws H locs) {y : MethodName} {Ts2 : List Cond} {f lo : Nat} {as : List Value} {wc w1 : va_W} {r : Int32} (hM : vq_i l y Ts2 f lo G as wc r w1) {index maxL n : Nat} {bytes : ByteArray} {rt : Option FieldType} (cw : CallB R s args own index y bytes maxL rt Ts2 { frames := f, cells := 0, slots := 0, locals := lo } 0 0 n ∧ (Cond.static y).before args s = true) (isC : List Nat) (hC : isC.map (fun i => ws[i]?) = wc.map some) (hnc : va_nd isC = true) (isR : List Nat) {wr : va_W} (hR : isR.map (fun i => ws[i]?) = wr.map some) (hn : va_nd isR = true) (hdis : ∀ i ∈ isR, i ∉ isC) (hnn : as.length = n) (hl : ls.size = nL) {st : List Value} (hst : st = as.reverse ++ rest) (hW : (rest.map fun v => v.category).sum ≤ 8) (hd : decode cc pc = .ok (.invokestatic index, 3)) (hcs : cells ≤ R.cells ∧ slots ≤ R.slots) (perm : List Nat) {w' : va_W} (hp : perm.map (fun i => (wr ++ w1)[i]?) = w'.map some) (hnp : va_nd perm = true)
    (kk : ∀ (H : Heap) (locs : List Loc), vq_H G A s w' H locs → W p l e R s m args below meth c H locs cells slots Q (F0 m (pc + 3) ls (.int r :: rest))) : W p l e R s m args below meth c H locs cells slots Q (F0 m pc ls (st)) := by
  subst hst
  have hF := va_free h.2.1 h.2.2 C.2.2.2.1 isC hC
  refine va_calli (va_runS C.1 (hM H.size) cw ⟨vq_fb, fun U hU hW => ⟨rfl, by rw [hU], by rw [hU]; exact (h.1.sub isC (q_fm hC)), va_K.moved hW.alike C.2.1, (h.2.1.sub isC hnc hC).weaken (fun _ _ _ _ => trivial), C.2.2.1.warm hW⟩⟩ rfl hnn hl rfl (lv_room hW) hd hcs) h.2.2 (fun q _ hq => hF q hq) hF (fun x u t H1 locs1 ht hvm hw hB hz1 hk1 hS => ?_)
  subst hw
  exact kk H1 locs1 (q_after h isC isR perm hC hR hn hdis hp hnp hF hk1 (by rw [← ht]; exact hB.1) hB.2 hS)
theorem q_callSl (C : vq_C cc nL ret Ts own G A p s m args meth c) (h : vq_H G A s ws H locs) {y : MethodName} {Ts2 : List Cond} {f lo : Nat} {as : List Value} {wc w1 : va_W} {r : Int64} (hM : vq_l l y Ts2 f lo G as wc r w1) {index maxL n : Nat} {bytes : ByteArray} {rt : Option FieldType} (cw : CallB R s args own index y bytes maxL rt Ts2 { frames := f, cells := 0, slots := 0, locals := lo } 0 0 n ∧ (Cond.static y).before args s = true) (isC : List Nat) (hC : isC.map (fun i => ws[i]?) = wc.map some) (hnc : va_nd isC = true) (isR : List Nat) {wr : va_W} (hR : isR.map (fun i => ws[i]?) = wr.map some) (hn : va_nd isR = true) (hdis : ∀ i ∈ isR, i ∉ isC) (hnn : as.length = n) (hl : ls.size = nL) {st : List Value} (hst : st = as.reverse ++ rest) (hW : (rest.map fun v => v.category).sum ≤ 8) (hd : decode cc pc = .ok (.invokestatic index, 3)) (hcs : cells ≤ R.cells ∧ slots ≤ R.slots) (perm : List Nat) {w' : va_W} (hp : perm.map (fun i => (wr ++ w1)[i]?) = w'.map some) (hnp : va_nd perm = true)
    (kk : ∀ (H : Heap) (locs : List Loc), vq_H G A s w' H locs → W p l e R s m args below meth c H locs cells slots Q (F0 m (pc + 3) ls (.long r :: rest))) : W p l e R s m args below meth c H locs cells slots Q (F0 m pc ls (st)) := by
  subst hst
  have hF := va_free h.2.1 h.2.2 C.2.2.2.1 isC hC
  refine va_calll (va_runS C.1 (hM H.size) cw ⟨vq_fb, fun U hU hW => ⟨rfl, by rw [hU], by rw [hU]; exact (h.1.sub isC (q_fm hC)), va_K.moved hW.alike C.2.1, (h.2.1.sub isC hnc hC).weaken (fun _ _ _ _ => trivial), C.2.2.1.warm hW⟩⟩ rfl hnn hl rfl (lv_room hW) hd hcs) h.2.2 (fun q _ hq => hF q hq) hF (fun x u t H1 locs1 ht hvm hw hB hz1 hk1 hS => ?_)
  subst hw
  exact kk H1 locs1 (q_after h isC isR perm hC hR hn hdis hp hnp hF hk1 (by rw [← ht]; exact hB.1) hB.2 hS)
theorem q_callSv (C : vq_C cc nL ret Ts own G A p s m args meth c) (h : vq_H G A s ws H locs) {y : MethodName} {Ts2 : List Cond} {f lo : Nat} {as : List Value} {wc w1 : va_W}  (hM : vq_v l y Ts2 f lo G as wc w1) {index maxL n : Nat} {bytes : ByteArray} {rt : Option FieldType} (cw : CallB R s args own index y bytes maxL rt Ts2 { frames := f, cells := 0, slots := 0, locals := lo } 0 0 n ∧ (Cond.static y).before args s = true) (isC : List Nat) (hC : isC.map (fun i => ws[i]?) = wc.map some) (hnc : va_nd isC = true) (isR : List Nat) {wr : va_W} (hR : isR.map (fun i => ws[i]?) = wr.map some) (hn : va_nd isR = true) (hdis : ∀ i ∈ isR, i ∉ isC) (hnn : as.length = n) (hl : ls.size = nL) {st : List Value} (hst : st = as.reverse ++ rest) (hW : (rest.map fun v => v.category).sum ≤ 8) (hd : decode cc pc = .ok (.invokestatic index, 3)) (hcs : cells ≤ R.cells ∧ slots ≤ R.slots) (perm : List Nat) {w' : va_W} (hp : perm.map (fun i => (wr ++ w1)[i]?) = w'.map some) (hnp : va_nd perm = true)
    (kk : ∀ (H : Heap) (locs : List Loc), vq_H G A s w' H locs → W p l e R s m args below meth c H locs cells slots Q (F0 m (pc + 3) ls (rest))) : W p l e R s m args below meth c H locs cells slots Q (F0 m pc ls (st)) := by
  subst hst
  have hF := va_free h.2.1 h.2.2 C.2.2.2.1 isC hC
  refine va_callv (va_runS C.1 (hM H.size) cw ⟨vq_fb, fun U hU hW => ⟨rfl, by rw [hU], by rw [hU]; exact (h.1.sub isC (q_fm hC)), va_K.moved hW.alike C.2.1, (h.2.1.sub isC hnc hC).weaken (fun _ _ _ _ => trivial), C.2.2.1.warm hW⟩⟩ rfl hnn hl rfl (lv_room hW) hd hcs) h.2.2 (fun q _ hq => hF q hq) hF (fun u t H1 locs1 ht hvm hw hB hz1 hk1 hS => ?_)
  exact kk H1 locs1 (q_after h isC isR perm hC hR hn hdis hp hnp hF hk1 (by rw [← ht]; exact hB.1) hB.2 hS)
theorem q_callNi (C : vq_C cc nL ret Ts own G A p s m args meth c) (h : vq_H G A s ws H locs) {y : MethodName} {Ts2 : List Cond} {f lo : Nat} {as : List Value} {wc w1 : va_W} {r : Int32} {host : String} (hM : vq_i l y Ts2 f lo G as wc r w1) {index maxL n : Nat} {bytes : ByteArray} {rt : Option FieldType} (cw : va_CN R s args own index y host bytes maxL rt Ts2 { frames := f, cells := 0, slots := 0, locals := lo } 0 0 n ∧ (Cond.static y).before args s = true ∧ True) (isC : List Nat) (hC : isC.map (fun i => ws[i]?) = wc.map some) (hnc : va_nd isC = true) (isR : List Nat) {wr : va_W} (hR : isR.map (fun i => ws[i]?) = wr.map some) (hn : va_nd isR = true) (hdis : ∀ i ∈ isR, i ∉ isC) (hnn : as.length = n) (hl : ls.size = nL) {st : List Value} (hst : st = as.reverse ++ rest) (hW : (rest.map fun v => v.category).sum ≤ 8) (hd : decode cc pc = .ok (.invokestatic index, 3)) (hcs : cells ≤ R.cells ∧ slots ≤ R.slots) (perm : List Nat) {w' : va_W} (hp : perm.map (fun i => (wr ++ w1)[i]?) = w'.map some) (hnp : va_nd perm = true)
    (kk : ∀ (H : Heap) (locs : List Loc), vq_H G A s w' H locs → W p l e R s m args below meth c H locs cells slots Q (F0 m (pc + 3) ls (.int r :: rest))) : W p l e R s m args below meth c H locs cells slots Q (F0 m pc ls (st)) := by
  subst hst
  have hF := va_free h.2.1 h.2.2 C.2.2.2.1 isC hC
  refine va_calli (va_runSN C.1 (hM H.size) cw ⟨vq_fb, fun U hU hW => ⟨rfl, by rw [hU], by rw [hU]; exact (h.1.sub isC (q_fm hC)), va_K.moved hW.alike C.2.1, (h.2.1.sub isC hnc hC).weaken (fun _ _ _ _ => trivial), C.2.2.1.warm hW⟩⟩ rfl hnn hl rfl (lv_room hW) hd hcs) h.2.2 (fun q _ hq => hF q hq) hF (fun x u t H1 locs1 ht hvm hw hB hz1 hk1 hS => ?_)
  subst hw
  exact kk H1 locs1 (q_after h isC isR perm hC hR hn hdis hp hnp hF hk1 (by rw [← ht]; exact hB.1) hB.2 hS)
theorem q_callNl (C : vq_C cc nL ret Ts own G A p s m args meth c) (h : vq_H G A s ws H locs) {y : MethodName} {Ts2 : List Cond} {f lo : Nat} {as : List Value} {wc w1 : va_W} {r : Int64} {host : String} (hM : vq_l l y Ts2 f lo G as wc r w1) {index maxL n : Nat} {bytes : ByteArray} {rt : Option FieldType} (cw : va_CN R s args own index y host bytes maxL rt Ts2 { frames := f, cells := 0, slots := 0, locals := lo } 0 0 n ∧ (Cond.static y).before args s = true ∧ True) (isC : List Nat) (hC : isC.map (fun i => ws[i]?) = wc.map some) (hnc : va_nd isC = true) (isR : List Nat) {wr : va_W} (hR : isR.map (fun i => ws[i]?) = wr.map some) (hn : va_nd isR = true) (hdis : ∀ i ∈ isR, i ∉ isC) (hnn : as.length = n) (hl : ls.size = nL) {st : List Value} (hst : st = as.reverse ++ rest) (hW : (rest.map fun v => v.category).sum ≤ 8) (hd : decode cc pc = .ok (.invokestatic index, 3)) (hcs : cells ≤ R.cells ∧ slots ≤ R.slots) (perm : List Nat) {w' : va_W} (hp : perm.map (fun i => (wr ++ w1)[i]?) = w'.map some) (hnp : va_nd perm = true)
    (kk : ∀ (H : Heap) (locs : List Loc), vq_H G A s w' H locs → W p l e R s m args below meth c H locs cells slots Q (F0 m (pc + 3) ls (.long r :: rest))) : W p l e R s m args below meth c H locs cells slots Q (F0 m pc ls (st)) := by
  subst hst
  have hF := va_free h.2.1 h.2.2 C.2.2.2.1 isC hC
  refine va_calll (va_runSN C.1 (hM H.size) cw ⟨vq_fb, fun U hU hW => ⟨rfl, by rw [hU], by rw [hU]; exact (h.1.sub isC (q_fm hC)), va_K.moved hW.alike C.2.1, (h.2.1.sub isC hnc hC).weaken (fun _ _ _ _ => trivial), C.2.2.1.warm hW⟩⟩ rfl hnn hl rfl (lv_room hW) hd hcs) h.2.2 (fun q _ hq => hF q hq) hF (fun x u t H1 locs1 ht hvm hw hB hz1 hk1 hS => ?_)
  subst hw
  exact kk H1 locs1 (q_after h isC isR perm hC hR hn hdis hp hnp hF hk1 (by rw [← ht]; exact hB.1) hB.2 hS)
theorem q_callNv (C : vq_C cc nL ret Ts own G A p s m args meth c) (h : vq_H G A s ws H locs) {y : MethodName} {Ts2 : List Cond} {f lo : Nat} {as : List Value} {wc w1 : va_W}  {host : String} (hM : vq_v l y Ts2 f lo G as wc w1) {index maxL n : Nat} {bytes : ByteArray} {rt : Option FieldType} (cw : va_CN R s args own index y host bytes maxL rt Ts2 { frames := f, cells := 0, slots := 0, locals := lo } 0 0 n ∧ (Cond.static y).before args s = true ∧ True) (isC : List Nat) (hC : isC.map (fun i => ws[i]?) = wc.map some) (hnc : va_nd isC = true) (isR : List Nat) {wr : va_W} (hR : isR.map (fun i => ws[i]?) = wr.map some) (hn : va_nd isR = true) (hdis : ∀ i ∈ isR, i ∉ isC) (hnn : as.length = n) (hl : ls.size = nL) {st : List Value} (hst : st = as.reverse ++ rest) (hW : (rest.map fun v => v.category).sum ≤ 8) (hd : decode cc pc = .ok (.invokestatic index, 3)) (hcs : cells ≤ R.cells ∧ slots ≤ R.slots) (perm : List Nat) {w' : va_W} (hp : perm.map (fun i => (wr ++ w1)[i]?) = w'.map some) (hnp : va_nd perm = true)
    (kk : ∀ (H : Heap) (locs : List Loc), vq_H G A s w' H locs → W p l e R s m args below meth c H locs cells slots Q (F0 m (pc + 3) ls (rest))) : W p l e R s m args below meth c H locs cells slots Q (F0 m pc ls (st)) := by
  subst hst
  have hF := va_free h.2.1 h.2.2 C.2.2.2.1 isC hC
  refine va_callv (va_runSN C.1 (hM H.size) cw ⟨vq_fb, fun U hU hW => ⟨rfl, by rw [hU], by rw [hU]; exact (h.1.sub isC (q_fm hC)), va_K.moved hW.alike C.2.1, (h.2.1.sub isC hnc hC).weaken (fun _ _ _ _ => trivial), C.2.2.1.warm hW⟩⟩ rfl hnn hl rfl (lv_room hW) hd hcs) h.2.2 (fun q _ hq => hF q hq) hF (fun u t H1 locs1 ht hvm hw hB hz1 hk1 hS => ?_)
  exact kk H1 locs1 (q_after h isC isR perm hC hR hn hdis hp hnp hF hk1 (by rw [← ht]; exact hB.1) hB.2 hS)
theorem q_min (C : vq_C cc nL ret Ts own G A p s m args meth c) (h : vq_H G A s ws H locs) {index : Nat} (hlink : (Cond.methodLink own index Lib.Math.min.name).before args s = true) (hstat : (Cond.static Lib.Math.min.name).before args s = true) (hini : (Cond.initialized "java/lang/Math").before args s = true) (hcode : (Cond.code Lib.Math.min.name Lib.Math.min.code 2 (some .int)).before args s = true) {a b : Nat} (ha : a < 2 ^ 31) (hb2 : b < 2 ^ 31) (hl : ls.size = nL) (hf : 1 ≤ R.frames) (hlo : (rest.map fun v => v.category).sum + 13 ≤ R.locals) (hcs : cells ≤ R.cells ∧ slots ≤ R.slots) (hd : decode cc pc = .ok (.invokestatic index, 3))
    (kk : W p l e R s m args below meth c H locs cells slots Q (F0 m (pc + 3) ls (.int (nI (min a b)) :: rest))) : W p l e R s m args below meth c H locs cells slots Q (F0 m pc ls (.int (nI b) :: .int (nI a) :: rest)) := by
  refine va_mmin C.1.1 C.1.2.1 (C.1.2.2.1.trans hl.symm) C.1.2.2.2.1 hlink hstat hini hcode hf hlo hcs.1 hcs.2 hd ?_
  have e : (if nI b < nI a then nI b else nI a) = nI (min a b) := by
    by_cases g : b < a
    · rw [if_pos ((nI_ltI hb2 ha).mpr g), Nat.min_eq_right (Nat.le_of_lt g)]
    · rw [if_neg (fun z => g ((nI_ltI hb2 ha).mp z)), Nat.min_eq_left (Nat.le_of_not_lt g)]
  rw [e]
  exact kk
end VQ2
end
section
/-! bits of a long; sums of weights; the generator -/
def tb (x : Int64) (k : Nat) : Bool := x.toBitVec.getLsbD k
def q_bit (k : Nat) : Int64 := Int64.ofBitVec (1#64 <<< k)
theorem tb_ge {x : Int64} {k : Nat} (h : 64 ≤ k) : tb x k = false := BitVec.getLsbD_of_ge x.toBitVec k h
theorem tb_ext {x y : Int64} (h : ∀ k, k < 64 → tb x k = tb y k) : x = y := Int64.toBitVec_inj.mp (BitVec.eq_of_getLsbD_eq (fun i hi => h i hi))
theorem tb_xor (x y : Int64) (k : Nat) : tb (x ^^^ y) k = (tb x k ^^ tb y k) := by simp [tb]
theorem tb_and (x y : Int64) (k : Nat) : tb (x &&& y) k = (tb x k && tb y k) := by simp [tb]
theorem tb_or (x y : Int64) (k : Nat) : tb (x ||| y) k = (tb x k || tb y k) := by simp [tb]
theorem tb_zero (k : Nat) : tb 0 k = false := by simp [tb]
theorem tb_one (k : Nat) : tb 1 k = decide (k = 0) := by
  show (1#64).getLsbD k = _
  by_cases h : k = 0 <;> simp [h]
theorem tb_bit (k j : Nat) : tb (q_bit k) j = (decide (j < 64) && decide (j = k)) := by
  show (1#64 <<< k).getLsbD j = _
  rw [BitVec.getLsbD_shiftLeft]
  by_cases h1 : j < 64
  · by_cases h2 : j < k
    · have : j ≠ k := by omega
      simp [h2, this]
    · by_cases h3 : j = k
      · subst h3; simp [h1]
      · have : j - k ≠ 0 := by omega
        simp [h1, h2, h3, this]
  · simp [h1]
theorem q_shl : ∀ k, k < 64 → (1 : Int64) <<< ((nI k).toInt64 &&& 63) = q_bit k := by decide +kernel
theorem q_smod : ∀ k, k < 64 → (((nI k).toInt64 &&& 63).toBitVec.smod 64).toNat = k := by decide +kernel
theorem q_shr1 (x : Int64) {k : Nat} (hk : k < 64) : (x >>> ((nI k).toInt64 &&& 63)) &&& 1 = if tb x k then 1 else 0 := by
  apply tb_ext
  intro j hj
  rw [tb_and, tb_one]
  by_cases h : j = 0
  · subst h
    have e : tb (x >>> ((nI k).toInt64 &&& 63)) 0 = tb x k := by
      show (x >>> ((nI k).toInt64 &&& 63)).toBitVec.getLsbD 0 = _
      rw [Int64.toBitVec_shiftRight, BitVec.getLsbD_sshiftRight', q_smod k hk]
      simp [hk, tb]
    rw [e]
    cases hx : tb x k <;> simp [tb_zero, tb_one]
  · cases hx : tb x k <;> simp [tb_zero, tb_one, h]
theorem q_and0 {x : Int64} {k : Nat} (hk : k < 64) (h : x &&& q_bit k = 0) : tb x k = false := by
  have e : tb (x &&& q_bit k) k = tb 0 k := by rw [h]
  rw [tb_and, tb_bit, tb_zero] at e
  simpa [hk] using e
theorem q_and1 {x : Int64} {k : Nat} (h : x &&& q_bit k ≠ 0) : tb x k = true := by
  cases hx : tb x k with
  | true => rfl
  | false =>
    refine absurd (tb_ext (fun j hj => ?_)) h
    rw [tb_and, tb_bit, tb_zero]
    by_cases e : j = k
    · subst e; simp [hx]
    · simp [e]
theorem q_test (x : Int64) {k : Nat} (hk : k < 64) : ((x >>> ((nI k).toInt64 &&& 63)) &&& 1 = 1 ↔ tb x k = true) ∧ ((x >>> ((nI k).toInt64 &&& 63)) &&& 1 = 0 ↔ tb x k = false) := by
  rw [q_shr1 x hk]
  cases tb x k <;> decide
def q_sum (w : Nat → Nat) : Nat → Nat
  | 0 => 0
  | k + 1 => q_sum w k + w k
theorem q_sum_le {w : Nat → Nat} (hW : ∀ j, w j ≤ 1000) : ∀ k, q_sum w k ≤ 1000 * k
  | 0 => Nat.le_refl _
  | k + 1 => by
    have := q_sum_le hW k
    have := hW k
    show q_sum w k + w k ≤ _
    omega
/-- the smallest d whose first d weights add up to more than r -/
noncomputable def q_deg (w : Nat → Nat) (r : Nat) : Nat := Classical.epsilon (fun d => r < q_sum w d ∧ ∀ j, j < d → q_sum w j ≤ r)
theorem q_deg_eq {w : Nat → Nat} {r d : Nat} (h1 : r < q_sum w d) (h2 : ∀ j, j < d → q_sum w j ≤ r) : q_deg w r = d := by
  have h := Classical.epsilon_spec (p := fun d => r < q_sum w d ∧ ∀ j, j < d → q_sum w j ≤ r) ⟨d, h1, h2⟩
  rcases Nat.lt_trichotomy (q_deg w r) d with a | a | a
  · exact absurd h.1 (Nat.not_lt.mpr (h2 _ a))
  · exact a
  · exact absurd h1 (Nat.not_lt.mpr (h.2 _ a))
def q_step (g : Int64) : Int64 := g * 6364136223846793005 + 1442695040888963407
def q_hi (x : Int64) : Nat := x.toBitVec.toNat / 2 ^ 33
theorem q_hi_lt (x : Int64) : q_hi x < 2 ^ 31 := by
  have := x.toBitVec.isLt
  unfold q_hi
  omega
theorem q_ushr33 (x : Int64) : (x.toUInt64 >>> ((nI 33).toInt64.toUInt64 &&& Int64.toUInt64 63)).toInt64 = lN (q_hi x) := by
  apply Int64.toBitVec_inj.mp
  apply BitVec.eq_of_toNat_eq
  have e : ((nI 33).toInt64.toUInt64 &&& Int64.toUInt64 63) = 33 := by decide
  rw [e]
  have h := q_hi_lt x
  show (x.toUInt64 >>> 33).toBitVec.toNat = (BitVec.ofNat 64 (q_hi x)).toNat
  rw [BitVec.toNat_ofNat, Nat.mod_eq_of_lt (by omega)]
  show (x.toBitVec >>> (33#64 % 64#64)).toNat = _
  rw [show (33#64 % 64#64) = 33#64 from by decide]
  show (x.toBitVec >>> (33 : Nat)).toNat = _
  rw [BitVec.toNat_ushiftRight, Nat.shiftRight_eq_div_pow]
  rfl
theorem q_lN0 {n : Nat} (h0 : 0 < n) (h : n < 2 ^ 31) : ¬ lN n = 0 := fun e => by
  have := (lN_eq h (b := 0) (by decide)).mp e
  omega
/-! what the elimination's rows do -/
def q_rem (rows : Nat → Int64) (mask : Int64) : Nat → Int64
  | 0 => mask
  | k + 1 => if tb mask k then q_rem rows mask k ^^^ rows k else q_rem rows mask k
def q_kv (rv : Nat → Int32) (mask : Int64) : Nat → Int32
  | 0 => 0
  | k + 1 => if tb mask k then q_kv rv mask k ^^^ rv k else q_kv rv mask k
def q_cnt (rows : Nat → Int64) (r : Int64) : Nat → Nat
  | 0 => 0
  | k + 1 => if q_bit k ^^^ rows k = r then q_cnt rows r k + 1 else q_cnt rows r k
def q_con (rows : Nat → Int64) (rv : Nat → Int32) (mask : Int64) (v : Int32) : Bool := decide (q_rem rows mask 38 = 0) && decide (q_kv rv mask 38 ≠ v)
/-- the lowest bit; 64 where there is none -/
noncomputable def q_low (x : Int64) : Nat := Classical.epsilon (fun k => (k = 64 ∨ tb x k = true) ∧ ∀ j, j < k → tb x j = false)
theorem q_low_eq {x : Int64} {k : Nat} (h1 : k = 64 ∨ tb x k = true) (h2 : ∀ j, j < k → tb x j = false) : q_low x = k := by
  have h := Classical.epsilon_spec (p := fun k => (k = 64 ∨ tb x k = true) ∧ ∀ j, j < k → tb x j = false) ⟨k, h1, h2⟩
  have h3 : (q_low x = 64 ∨ tb x (q_low x) = true) ∧ ∀ j, j < q_low x → tb x j = false := h
  rcases Nat.lt_trichotomy (q_low x) k with a | a | a
  · rcases h3.1 with b | b
    · rcases h1 with c | c
      · omega
      · have := tb_ge (x := x) (k := k) (by omega)
        rw [this] at c
        cases c
    · rw [h2 _ a] at b
      cases b
  · exact a
  · rcases h1 with c | c
    · rcases h3.1 with b | b
      · omega
      · rw [tb_ge (by omega)] at b
        cases b
    · rw [h3.2 _ a] at c
      cases c
theorem q_least (x : Int64) : ∀ n : Nat, (∀ j, j < n → tb x j = false) ∨ ∃ k, k < n ∧ tb x k = true ∧ ∀ j, j < k → tb x j = false
  | 0 => Or.inl (fun j hj => absurd hj (Nat.not_lt_zero _))
  | n + 1 => by
    rcases q_least x n with h | ⟨k, h1, h2, h3⟩
    · cases hx : tb x n with
      | true => exact Or.inr ⟨n, Nat.lt_succ_self _, hx, h⟩
      | false =>
        refine Or.inl (fun j hj => ?_)
        rcases Nat.lt_or_ge j n with a | a
        · exact h j a
        · have : j = n := by omega
          rw [this]
          exact hx
    · exact Or.inr ⟨k, Nat.lt_succ_of_lt h1, h2, h3⟩
theorem q_low_spec (x : Int64) : (q_low x = 64 ∧ x = 0) ∨ (q_low x < 64 ∧ tb x (q_low x) = true ∧ ∀ j, j < q_low x → tb x j = false) := by
  rcases q_least x 64 with h | ⟨k, h1, h2, h3⟩
  · exact Or.inl ⟨q_low_eq (Or.inl rfl) h, tb_ext (fun j hj => by rw [h j hj, tb_zero])⟩
  · have e := q_low_eq (Or.inr h2) h3
    rw [e]
    exact Or.inr ⟨h1, h2, h3⟩
theorem q_low_le (x : Int64) : q_low x ≤ 64 := by
  rcases q_low_spec x with h | h
  · omega
  · omega
def q_elR (rows : Nat → Int64) (rest : Int64) (ld : Nat) (n : Nat) : Nat → Int64 := fun j => if decide (j < n) && tb (rows j) ld then rows j ^^^ rest else rows j
def q_elV (rows : Nat → Int64) (rv : Nat → Int32) (num : Int32) (ld : Nat) (n : Nat) : Nat → Int32 := fun j => if decide (j < n) && tb (rows j) ld then rv j ^^^ num else rv j
theorem q_elR_0 (rows : Nat → Int64) (rest : Int64) (ld : Nat) : rows = q_elR rows rest ld 0 := by
  funext j
  simp [q_elR]
theorem q_elV_0 (rows : Nat → Int64) (rv : Nat → Int32) (num : Int32) (ld : Nat) : rv = q_elV rows rv num ld 0 := by
  funext j
  simp [q_elV]
theorem q_elR_at (rows : Nat → Int64) (rest : Int64) (ld k : Nat) : q_elR rows rest ld k k = rows k := by simp [q_elR]
theorem q_elV_at (rows : Nat → Int64) (rv : Nat → Int32) (num : Int32) (ld k : Nat) : q_elV rows rv num ld k k = rv k := by simp [q_elV]
theorem q_elR_1 {rows : Nat → Int64} {rest : Int64} {ld k : Nat} (z : tb (q_elR rows rest ld k k) ld = true) : vp_updL (q_elR rows rest ld k) k (q_elR rows rest ld k k ^^^ rest) = q_elR rows rest ld (k + 1) := by
  rw [q_elR_at] at z ⊢
  funext j
  unfold vp_updL q_elR
  by_cases h : j = k
  · subst h
    simp [z]
  · have : decide (j < k + 1) = decide (j < k) := decide_eq_decide.mpr (by omega)
    simp [h, this]
theorem q_elR_2 {rows : Nat → Int64} {rest : Int64} {ld k : Nat} (z : tb (q_elR rows rest ld k k) ld = false) : q_elR rows rest ld k = q_elR rows rest ld (k + 1) := by
  rw [q_elR_at] at z
  funext j
  unfold q_elR
  by_cases h : j = k
  · subst h
    simp [z]
  · have : decide (j < k + 1) = decide (j < k) := decide_eq_decide.mpr (by omega)
    simp [this]
theorem q_elV_1 {rows : Nat → Int64} {rv : Nat → Int32} {num : Int32} {rest : Int64} {ld k : Nat} (z : tb (q_elR rows rest ld k k) ld = true) : upd (q_elV rows rv num ld k) k (q_elV rows rv num ld k k ^^^ num) = q_elV rows rv num ld (k + 1) := by
  rw [q_elR_at] at z
  rw [q_elV_at]
  funext j
  unfold upd q_elV
  by_cases h : j = k
  · subst h
    simp [z]
  · have : decide (j < k + 1) = decide (j < k) := decide_eq_decide.mpr (by omega)
    simp [h, this]
theorem q_elV_2 {rows : Nat → Int64} {rv : Nat → Int32} {num : Int32} {rest : Int64} {ld k : Nat} (z : tb (q_elR rows rest ld k k) ld = false) : q_elV rows rv num ld k = q_elV rows rv num ld (k + 1) := by
  rw [q_elR_at] at z
  funext j
  unfold q_elV
  by_cases h : j = k
  · subst h
    simp [z]
  · have : decide (j < k + 1) = decide (j < k) := decide_eq_decide.mpr (by omega)
    simp [this]
/-- does an equation with this rest make a row -/
noncomputable def q_new (rest : Int64) : Bool := decide (rest ≠ 0) && decide (q_low rest < 38)
noncomputable def q_addR (rows : Nat → Int64) (rest : Int64) : Nat → Int64 := if q_new rest then vp_updL (q_elR rows rest (q_low rest) 38) (q_low rest) rest else rows
noncomputable def q_addV (rows : Nat → Int64) (rv : Nat → Int32) (rest : Int64) (num : Int32) : Nat → Int32 := if q_new rest then upd (q_elV rows rv num (q_low rest) 38) (q_low rest) num else rv
noncomputable def q_addK (rest : Int64) (rk : Nat) : Nat := if q_new rest then rk + 1 else rk
def q_fill (f : Nat → Int32) (v : Int32) (k : Nat) : Nat → Int32 := fun j => if j < k then v else f j
def q_fillL (f : Nat → Int64) (v : Int64) (k : Nat) : Nat → Int64 := fun j => if j < k then v else f j
theorem q_fill_0 (f : Nat → Int32) (v : Int32) : f = q_fill f v 0 := by
  funext j
  simp [q_fill]
theorem q_fill_1 (f : Nat → Int32) (v : Int32) (k : Nat) : upd (q_fill f v k) k v = q_fill f v (k + 1) := by
  funext j
  unfold upd q_fill
  by_cases h : j = k
  · simp [h]
  · have : j < k + 1 ↔ j < k := by omega
    simp [h, this]
theorem q_fill_at (f : Nat → Int32) (v : Int32) {k j : Nat} (h : j < k) : q_fill f v k j = v := by simp [q_fill, h]
theorem q_fillL_0 (f : Nat → Int64) (v : Int64) : f = q_fillL f v 0 := by
  funext j
  simp [q_fillL]
theorem q_fillL_1 (f : Nat → Int64) (v : Int64) (k : Nat) : vp_updL (q_fillL f v k) k v = q_fillL f v (k + 1) := by
  funext j
  unfold vp_updL q_fillL
  by_cases h : j = k
  · simp [h]
  · have : j < k + 1 ↔ j < k := by omega
    simp [h, this]
theorem q_fillL_at (f : Nat → Int64) (v : Int64) {k j : Nat} (h : j < k) : q_fillL f v k j = v := by simp [q_fillL, h]
def q_line (f : Nat → Nat) (k : Nat) : Nat → Nat := fun j => if j < k then j else f j
theorem q_line_0 (f : Nat → Nat) : f = q_line f 0 := by
  funext j
  simp [q_line]
theorem q_line_1 (f : Nat → Nat) (k : Nat) : va_up (q_line f k) k k = q_line f (k + 1) := by
  funext j
  unfold va_up q_line
  by_cases h : j = k
  · simp [h]
  · have : j < k + 1 ↔ j < k := by omega
    simp [h, this]
/-- does parity block j cover source block k -/
def q_cv (j k : Nat) : Bool := ((k + 1) / 2 ^ j) % 2 == 1
def q_cov (j : Nat) : Nat → Int64
  | 0 => 0
  | k + 1 => if q_cv j k then q_cov j k ||| q_bit k else q_cov j k
theorem q_sm32 : ∀ j, j < 32 → (((nI j) &&& 31).toBitVec.smod 32).toNat = j := by decide +kernel
theorem q_ishr {n j : Nat} (hn : n < 2 ^ 31) (hj : j < 31) : nI n >>> (nI j &&& 31) = nI (n / 2 ^ j) := pk_shrN hn _ j (q_sm32 j (by omega))
theorem q_half {n j : Nat} (h : n < 2 ^ 32) : n / 2 ^ j < 2 ^ 32 := Nat.lt_of_le_of_lt (Nat.div_le_self _ _) h
theorem q_and1b {n : Nat} (h : n < 2 ^ 32) : nI n &&& nI 1 = q_b (n % 2 == 1) := by
  rw [pk_andN h (m := nI 1) 1 (by decide)]
  rcases Nat.mod_two_eq_zero_or_one n with e | e <;> rw [e] <;> decide
def q_vb (vals : Nat → Int32) (S b : Nat) : Int32 := if b < S then q_kv vals (q_bit b) S else q_kv vals (q_cov (b - S) S) S
def q_vs (vals : Nat → Int32) (S : Nat) (x : Int64) : Nat → Int32
  | 0 => q_kv vals x S
  | i + 1 => if tb x (S + i) then q_vs vals S x i ^^^ q_vb vals S (S + i) else q_vs vals S x i
end
section
/-! bitCount as its bytecode has it; the lowest bit; peeling; drops -/
def q_u (x : Int64) (n : Nat) : Int64 := (x.toUInt64 >>> ((nI n).toInt64.toUInt64 &&& Int64.toUInt64 63)).toInt64
def q_bc1 (x : Int64) : Int64 := x - (q_u x 1 &&& 6148914691236517205)
def q_bc2 (x : Int64) : Int64 := (x &&& 3689348814741910323) + (q_u x 2 &&& 3689348814741910323)
def q_bc3 (x : Int64) : Int64 := (x + q_u x 4) &&& 1085102592571150095
def q_bc4 (x : Int64) : Int64 := x + q_u x 8
def q_bc5 (x : Int64) : Int64 := x + q_u x 16
def q_bc6 (x : Int64) : Int64 := x + q_u x 32
def q_bc (x : Int64) : Int32 := (q_bc6 (q_bc5 (q_bc4 (q_bc3 (q_bc2 (q_bc1 x)))))).toInt32 &&& nI 127
theorem q_bc_low0 : q_bc (((0 : Int64) &&& -0) - 1) = nI 64 := by decide +kernel
theorem q_bc_low1 : ∀ k, k < 64 → q_bc (q_bit k - 1) = nI k := by decide +kernel
theorem tb_neg (x : Int64) (j : Nat) : tb (-x) j = (tb x j ^^ (decide (j < 64) && decide (∃ i, i < j ∧ tb x i = true))) := by
  show (-x).toBitVec.getLsbD j = _
  rw [Int64.toBitVec_neg, BitVec.getLsbD_neg]
  rfl
theorem q_lowbit {x : Int64} {k : Nat} (hk : k < 64) (h1 : tb x k = true) (h2 : ∀ j, j < k → tb x j = false) : x &&& -x = q_bit k := by
  apply tb_ext
  intro j hj
  rw [tb_and, tb_neg, tb_bit]
  rcases Nat.lt_trichotomy j k with a | a | a
  · rw [h2 j a]
    have : j ≠ k := by omega
    simp [this]
  · subst a
    have : ¬ ∃ i, i < j ∧ tb x i = true := fun ⟨i, hi, ht⟩ => by rw [h2 i hi] at ht; cases ht
    simp [h1, this, hj]
  · have : ∃ i, i < j ∧ tb x i = true := ⟨k, a, h1⟩
    have n : j ≠ k := by omega
    simp [this, hj, n]
theorem q_bc_low (x : Int64) : q_bc ((x &&& (-x)) - 1) = nI (q_low x) := by
  rcases q_low_spec x with ⟨h1, h2⟩ | ⟨h1, h2, h3⟩
  · rw [h1, h2]
    exact q_bc_low0
  · rw [q_lowbit h1 h2 h3]
    exact q_bc_low1 _ h1
/-- drops: the row after k places, and the generator -/
def q_dr (B : Nat) (row : Nat → Nat) (g : Int64) : Nat → (Nat → Nat) × Int64
  | 0 => (row, g)
  | k + 1 => (va_up (va_up (q_dr B row g k).1 k ((q_dr B row g k).1 (k + q_hi (q_step (q_dr B row g k).2) % (B - k)))) (k + q_hi (q_step (q_dr B row g k).2) % (B - k)) ((q_dr B row g k).1 k), q_step (q_dr B row g k).2)
def q_ds (B : Nat) (row : Nat → Nat) (g : Int64) : Nat → Int64
  | 0 => 0
  | k + 1 => q_ds B row g k ||| q_bit ((q_dr B row g (k + 1)).1 k)
def q_g0 (num : Int32) : Int64 := q_step num.toInt64
noncomputable def q_sz (w : Nat → Nat) (B : Nat) (num : Int32) : Nat := min (q_deg w (q_hi (q_g0 num) % q_sum w 12)) B
theorem q_swap_lt {B : Nat} {ro : Nat → Nat} (h : ∀ j, j < B → ro j < B) {i j : Nat} (hi : i < B) (hj : j < B) : ∀ t, t < B → va_up (va_up ro i (ro j)) j (ro i) t < B := by
  intro t ht
  unfold va_up
  by_cases a : t = j
  · simp [a, h i hi]
  · by_cases b : t = i
    · simp [a, b, h j hj]
      by_cases c : i = j <;> simp [c, h j hj]
    · simp [a, b, h t ht]
theorem q_line_lt {B : Nat} (row : Nat → Nat) : ∀ j, j < B → q_line row B j < B := fun j hj => by simp [q_line, hj]
theorem q_dr_irr {B : Nat} {r1 r2 : Nat → Nat} (h : ∀ j, j < B → r1 j = r2 j) (g : Int64) : ∀ k, k ≤ B → (∀ j, j < B → (q_dr B r1 g k).1 j = (q_dr B r2 g k).1 j) ∧ (q_dr B r1 g k).2 = (q_dr B r2 g k).2
  | 0, _ => ⟨h, rfl⟩
  | k + 1, hk => by
    obtain ⟨h1, h2⟩ := q_dr_irr h g k (by omega)
    have hq : q_hi (q_step (q_dr B r2 g k).2) % (B - k) < B - k := Nat.mod_lt _ (by omega)
    refine ⟨fun j hj => ?_, ?_⟩
    · show va_up (va_up (q_dr B r1 g k).1 k _) _ _ j = va_up (va_up (q_dr B r2 g k).1 k _) _ _ j
      rw [h2, h1 _ (show k + q_hi (q_step (q_dr B r2 g k).2) % (B - k) < B by omega), h1 k (by omega)]
      unfold va_up
      rw [h1 j hj]
    · show q_step (q_dr B r1 g k).2 = q_step (q_dr B r2 g k).2
      rw [h2]
theorem q_ds_irr {B : Nat} {r1 r2 : Nat → Nat} (h : ∀ j, j < B → r1 j = r2 j) (g : Int64) : ∀ k, k ≤ B → q_ds B r1 g k = q_ds B r2 g k
  | 0, _ => rfl
  | k + 1, hk => by
    show q_ds B r1 g k ||| q_bit ((q_dr B r1 g (k + 1)).1 k) = q_ds B r2 g k ||| q_bit ((q_dr B r2 g (k + 1)).1 k)
    rw [q_ds_irr h g k (by omega), (q_dr_irr h g (k + 1) hk).1 k (by omega)]
theorem q_sz_le (w : Nat → Nat) (B : Nat) (num : Int32) : q_sz w B num ≤ B := Nat.min_le_right _ _
/-- a drop's blocks, as a set; and in their order -/
noncomputable def q_set (w : Nat → Nat) (B : Nat) (num : Int32) : Int64 := q_ds B (fun j => j) (q_g0 num) (q_sz w B num)
noncomputable def q_blk (w : Nat → Nat) (B : Nat) (num : Int32) : Nat → Nat := (q_dr B (fun j => j) (q_g0 num) (q_sz w B num)).1
noncomputable def q_rowS (row : Nat → Nat) (w : Nat → Nat) (B : Nat) (num : Int32) : Nat → Nat := (q_dr B (q_line row B) (q_g0 num) (q_sz w B num)).1
theorem q_line_id {B : Nat} (row : Nat → Nat) : ∀ j, j < B → q_line row B j = j := fun j hj => by simp [q_line, hj]
theorem q_rowS_at (row : Nat → Nat) (w : Nat → Nat) (B : Nat) (num : Int32) {i : Nat} (hi : i < B) : q_rowS row w B num i = q_blk w B num i := (q_dr_irr (q_line_id row) (q_g0 num) _ (q_sz_le w B num)).1 i hi
theorem q_set_S (row : Nat → Nat) (w : Nat → Nat) (B : Nat) (num : Int32) : q_ds B (q_line row B) (q_g0 num) (q_sz w B num) = q_set w B num := q_ds_irr (q_line_id row) (q_g0 num) _ (q_sz_le w B num)
noncomputable def q_gen (w : Nat → Nat) (B : Nat) (num : Int32) : Int64 := (q_dr B (fun j => j) (q_g0 num) (q_sz w B num)).2
theorem q_gen_S (row : Nat → Nat) (w : Nat → Nat) (B : Nat) (num : Int32) : (q_dr B (q_line row B) (q_g0 num) (q_sz w B num)).2 = q_gen w B num := (q_dr_irr (q_line_id row) (q_g0 num) _ (q_sz_le w B num)).2
/-! peeling -/
def q_lf (msk : Nat → Int64) (ps : Int64) (i : Nat) : Int64 := msk i &&& (ps ^^^ (-1))
def q_rd (msk : Nat → Int64) (ps : Int64) (i : Nat) : Bool := decide (q_bc (q_lf msk ps i) = nI 1)
def q_fr (p : Nat → Bool) (n : Nat) : Option Nat := (List.range n).find? p
theorem q_fr_none {p : Nat → Bool} {n : Nat} (h : q_fr p n = none) : ∀ j, j < n → p j = false := by
  intro j hj
  have := List.find?_eq_none.mp h j (List.mem_range.mpr hj)
  simpa using this
theorem q_fr_some {p : Nat → Bool} {n i : Nat} (h : q_fr p n = some i) : i < n ∧ p i = true ∧ ∀ j, j < i → p j = false := by
  unfold q_fr at h
  rw [List.find?_range_eq_some] at h
  obtain ⟨h1, h2, h3⟩ := h
  exact ⟨List.mem_range.mp h2, h1, fun j hj => by simpa using h3 j hj⟩
abbrev q_PS : Type := (Nat → Nat) × (Nat → Int32) × Nat × Int64
noncomputable def q_ps1 (msk : Nat → Int64) (i : Nat) (s : q_PS) : q_PS := (va_up s.1 s.2.2.1 (q_low (q_lf msk s.2.2.2 i)), upd s.2.1 (q_low (q_lf msk s.2.2.2 i)) (nI i), s.2.2.1 + 1, s.2.2.2 ||| q_bit (q_low (q_lf msk s.2.2.2 i)))
noncomputable def q_pn (msk : Nat → Int64) (nn : Nat) : Nat → q_PS → q_PS
  | 0, s => s
  | f + 1, s => match q_fr (q_rd msk s.2.2.2) nn with
    | none => s
    | some i => q_pn msk nn f (q_ps1 msk i s)
def q_pop (x : Int64) : Nat → Nat
  | 0 => 0
  | k + 1 => if tb x k then q_pop x k + 1 else q_pop x k
theorem q_pop_le (x : Int64) : ∀ n, q_pop x n ≤ n
  | 0 => Nat.le_refl _
  | n + 1 => by
    have := q_pop_le x n
    unfold q_pop
    by_cases h : tb x n = true <;> simp [h] <;> omega
theorem q_pop_lt {x : Int64} {k : Nat} (hx : tb x k = false) : ∀ n, k < n → q_pop x n < n
  | 0, h => absurd h (Nat.not_lt_zero _)
  | n + 1, h => by
    have := q_pop_le x n
    unfold q_pop
    by_cases e : k = n
    · subst e
      simp [hx]
      omega
    · have := q_pop_lt hx n (by omega)
      by_cases h : tb x n = true <;> simp [h] <;> omega
theorem q_pop_same {x y : Int64} : ∀ n, (∀ j, j < n → tb x j = tb y j) → q_pop x n = q_pop y n
  | 0, _ => rfl
  | n + 1, h => by
    unfold q_pop
    rw [h n (Nat.lt_succ_self _), q_pop_same n (fun j hj => h j (by omega))]
theorem q_pop_set {x : Int64} {k : Nat} (hk : k < 64) (hx : tb x k = false) : ∀ n, k < n → q_pop (x ||| q_bit k) n = q_pop x n + 1
  | 0, h => absurd h (Nat.not_lt_zero _)
  | n + 1, h => by
    unfold q_pop
    rw [tb_or, tb_bit]
    by_cases e : n = k
    · subst e
      have := q_pop_same (x := x ||| q_bit n) (y := x) n (fun j hj => by rw [tb_or, tb_bit]; have : j ≠ n := (by omega); simp [this])
      simp [hx, hk, this]
    · have := q_pop_set hk hx n (by omega)
      by_cases h : tb x n = true <;> simp [h, e, this]
theorem q_bc0 : ¬ q_bc 0 = nI 1 := by decide +kernel
theorem q_ready {msk : Nat → Int64} {nn i : Nat} {ps : Int64} (hM : ∀ i, i < nn → ∀ k, 38 ≤ k → tb (msk i) k = false) (hi : i < nn) (h1 : q_rd msk ps i = true) : q_low (q_lf msk ps i) < 38 ∧ tb ps (q_low (q_lf msk ps i)) = false := by
  have h1 := of_decide_eq_true h1
  rcases q_low_spec (q_lf msk ps i) with ⟨a, b⟩ | ⟨a, b, c⟩
  · rw [b] at h1
    exact absurd h1 q_bc0
  · have e : tb (q_lf msk ps i) (q_low (q_lf msk ps i)) = (tb (msk i) (q_low (q_lf msk ps i)) && (tb ps (q_low (q_lf msk ps i)) ^^ tb (-1) (q_low (q_lf msk ps i)))) := by
      show tb (msk i &&& (ps ^^^ (-1))) _ = _
      rw [tb_and, tb_xor]
    have m1 : ∀ k, k < 64 → tb (-1) k = true := by decide +kernel
    rw [b, m1 _ a] at e
    refine ⟨Nat.lt_of_not_le fun g => ?_, ?_⟩
    · rw [hM i hi _ g] at e
      simp at e
    · cases z : tb ps (q_low (q_lf msk ps i)) with
      | false => rfl
      | true => rw [z] at e; simp at e
theorem q_nI_m1 {i : Nat} (h : i < 2 ^ 31) : ¬ nI i = -1 := fun e => nI_pos h (by rw [e]; decide)
theorem q_deg_ex {w : Nat → Nat} {r : Nat} : ∀ n, r < q_sum w n → ∃ d, d ≤ n ∧ r < q_sum w d ∧ ∀ j, j < d → q_sum w j ≤ r
  | 0, h => absurd h (Nat.not_lt_zero _)
  | n + 1, h => by
    rcases Nat.lt_or_ge r (q_sum w n) with a | a
    · obtain ⟨d, h1, h2⟩ := q_deg_ex n a
      exact ⟨d, by omega, h2⟩
    · have mono : ∀ i j, i ≤ j → q_sum w i ≤ q_sum w j := by
        intro i j hij
        induction hij with
        | refl => exact Nat.le_refl _
        | step _ ih => exact Nat.le_trans ih (Nat.le_add_right _ _)
      exact ⟨n + 1, Nat.le_refl _, h, fun j hj => Nat.le_trans (mono j n (by omega)) a⟩
theorem q_deg_le12 {w : Nat → Nat} (_hW : ∀ j, w j ≤ 1000) (hs : 0 < q_sum w 12) (x : Nat) : q_deg w (x % q_sum w 12) ≤ 12 := by
  obtain ⟨d, h1, h2, h3⟩ := q_deg_ex 12 (Nat.mod_lt x hs)
  rw [q_deg_eq h2 h3]
  exact h1
end
section
/-! the leaves of the landed class: laid by wip/whole/gen1.py -/
set_option maxHeartbeats 4000000 in
set_option maxRecDepth 100000 in
theorem c_X5_setOf (l : Launch) (G : vq_G) (k : Nat) (hk : k < 64) : vq_l l yX5_setOf wsX5_setOf 0 0 G [.int (nI k)] [] (q_bit k) [] := by
  refine vq_openl (cc := cX5_setOf) (maxL := 1) (ret := (some .long)) (Ts' := wsX5_setOf.tail) (by decide) rfl (Nat.le_of_ble_eq_true rfl) ?_
  intro p e s m args below meth c A ls C h hnm hl
  have hx := C.1.1
  have hb := C.1.2.1
  have hts := C.1.2.2.2.2
  have hl : lv_has ls 1 [(0, .int (nI k))] := hl
  refine lv_lconst (v := 1) hx hb dX5_setOf_0 (by decide) ?_
  refine lv_iload_n hx hb dX5_setOf_1 rfl (lv_at hl 0 rfl) ?_
  refine lv_lshl (v := q_bit k) hx hb dX5_setOf_2 (q_shl k hk) ?_
  exact q_retl C h rfl rfl rfl dX5_setOf_3

set_option maxHeartbeats 4000000 in
set_option maxRecDepth 100000 in
theorem c_X5_holds (l : Launch) (G : vq_G) (x : Int64) (k : Nat) (hk : k < 64) : vq_i l yX5_holds wsX5_holds 1 20 G [.long x, .int (nI k)] [] (q_b (tb x k)) [] := by
  refine vq_openi (cc := cX5_holds) (maxL := 3) (ret := (some .boolean)) (Ts' := wsX5_holds.tail) (by decide) rfl (Nat.le_of_ble_eq_true rfl) ?_
  intro p e s m args below meth c A ls C h hnm hl
  have hx := C.1.1
  have hb := C.1.2.1
  have hts := C.1.2.2.2.2
  have hl : lv_has ls 3 [(0, .long x), (2, .int (nI k))] := hl
  refine lv_lload_n hx hb dX5_holds_0 rfl (lv_at hl 0 rfl) ?_
  refine lv_iload_n hx hb dX5_holds_1 rfl (lv_at hl 1 rfl) ?_
  refine q_callSl C h (c_X5_setOf l G k (by omega)) (va_cwS 1 hts gX5_holds_X5_setOf rfl rfl rfl (by decide +kernel) ⟨Nat.le_of_ble_eq_true rfl, Nat.le_of_ble_eq_true rfl⟩) [] rfl rfl [] (wr := []) rfl rfl (by decide) rfl hl.1 rfl (Nat.le_of_ble_eq_true rfl) dX5_holds_2 ⟨Nat.zero_le _, Nat.zero_le _⟩ [] (w' := []) rfl rfl (fun H locs h => ?_)
  refine lv_land hx hb dX5_holds_5 ?_
  refine lv_lconst (v := 0) hx hb dX5_holds_6 (by decide) ?_
  refine q_lif_eq (tgt := 15) hx hb dX5_holds_7 dX5_holds_8 (by decide) (fun z8 => ?_) (fun z8 => ?_)
  · refine lv_iconst (v := nI 0) hx hb dX5_holds_15 (by decide) ?_
    refine q_top (v' := .int (q_b false)) rfl ?_
    exact q_retz C h rfl (q_and0 hk z8).symm rfl dX5_holds_16
  · refine lv_iconst (v := nI 1) hx hb dX5_holds_11 (by decide) ?_
    refine lv_goto (tgt := 16) hx hb dX5_holds_12 (by decide) ?_
    refine q_top (v' := .int (q_b true)) rfl ?_
    exact q_retz C h rfl (q_and1 z8).symm rfl dX5_holds_16

set_option maxHeartbeats 4000000 in
set_option maxRecDepth 100000 in
theorem c_J7_fill_53178 (l : Launch) (G : vq_G) (a N : Nat) (f : Nat → Int32) (v : Int32) (hN : N < 2 ^ 31) : vq_v l yJ7_fill_53178 wsJ7_fill_53178 0 0 G [.ref a, .int v] [(a, .inl (G.2.1, N, .inl f))]  [(a, .inl (G.2.1, N, .inl (fun _ => v)))] := by
  refine vq_openv (cc := cJ7_fill_53178) (maxL := 4) (ret := none) (Ts' := wsJ7_fill_53178.tail) (by decide) rfl (Nat.le_of_ble_eq_true rfl) ?_
  intro p e s m args below meth c A ls C h hnm hl
  have hx := C.1.1
  have hb := C.1.2.1
  have hts := C.1.2.2.2.2
  have hl : lv_has ls 4 [(0, .ref a), (1, .int v)] := hl
  refine lv_iconst (v := nI 0) hx hb dJ7_fill_53178_0 (by decide) ?_
  refine lv_istore_n (lv' := [(2, .int (nI 0)), (0, .ref a), (1, .int v)]) hx hb dJ7_fill_53178_1 rfl hl (by decide) rfl (fun ls hl => ?_)
  refine lv_aload_n hx hb dJ7_fill_53178_2 rfl (lv_at hl 1 rfl) ?_
  refine q_alen (n := N) C h 0 rfl dJ7_fill_53178_3 ?_
  refine lv_istore_n (lv' := [(3, .int (nI N)), (2, .int (nI 0)), (0, .ref a), (1, .int v)]) hx hb dJ7_fill_53178_4 rfl hl (by decide) rfl (fun ls hl => ?_)
  have loop5 : ∀ (fu : Nat) (k : Nat) (g : Nat → Int32), N - k < fu → g = q_fill f v k → (k ≤ N) → ∀ (H : Heap) (locs : List Loc), vq_H G A s [(a, .inl (G.2.1, N, .inl g))] H locs → ∀ (ls : Array Slot), lv_has ls 4 [(3, .int (nI N)), (2, .int (nI k)), (0, .ref a), (1, .int v)] → W p l e ({ frames := 0, cells := 0, slots := 0, locals := 0 } : Room) s m args below meth c H locs 0 0 (MQ below (va_Qv (fun (_ : Unit) => True) (fun _ => vq_T G A [(a, .inl (G.2.1, N, .inl (fun _ => v)))]) A) args s 0 0 A) (F0 m 5 ls []) := by
    intro fu
    induction fu with
    | zero => exact fun k g hm => absurd hm (Nat.not_lt_zero _)
    | succ fu ih =>
      intro k g hm5 e_g hk H locs h ls hl
      have ih5 := ih
      clear ih
      refine lv_iload_n hx hb dJ7_fill_53178_5 rfl (lv_at hl 1 rfl) ?_
      refine lv_iload_n hx hb dJ7_fill_53178_6 rfl (lv_at hl 0 rfl) ?_
      refine q_icmp_ge (tgt := 20) hx hb (by omega) (by omega) dJ7_fill_53178_7 (by decide) (fun z7 => ?_) (fun z7 => ?_)
      · have h := q_reI h 0 (fun _ => v) rfl (fun j hj => by rw [e_g]; exact q_fill_at f v (by omega))
        have h : vq_H G A s [(a, .inl (G.2.1, N, .inl (fun _ => v)))] H locs := h
        exact q_retv C h rfl rfl dJ7_fill_53178_20
      · refine lv_aload_n hx hb dJ7_fill_53178_10 rfl (lv_at hl 2 rfl) ?_
        refine lv_iload_n hx hb dJ7_fill_53178_11 rfl (lv_at hl 1 rfl) ?_
        refine lv_iload_n hx hb dJ7_fill_53178_12 rfl (lv_at hl 3 rfl) ?_
        refine q_iast (i := k) (g := upd g k v) (w' := [(a, .inl (G.2.1, N, .inl (upd g k v)))]) C h 0 rfl (by omega) (by omega) rfl rfl dJ7_fill_53178_13 (fun H locs h => ?_)
        refine lv_iinc (v := nI (k + 1)) (lv' := [(2, .int (nI (k + 1))), (3, .int (nI N)), (0, .ref a), (1, .int v)]) hx hb dJ7_fill_53178_14 hl (k := 1) rfl (q_inc k) (by decide) rfl (fun ls hl => ?_)
        refine lv_goto (tgt := 5) hx hb dJ7_fill_53178_17 (by decide) ?_
        exact ih5 (k + 1) (upd g k v) (by omega) (show (upd g k v) = q_fill f v (k + 1) from (by rw [e_g]; exact q_fill_1 f v k)) (show (k + 1) ≤ N from (by omega)) _ _ h _ (lv_sub hl [1, 0, 2, 3] rfl)
  exact loop5 (N - 0 + 1) 0 f (Nat.lt_succ_self _) (show f = q_fill f v 0 from (q_fill_0 f v)) (show 0 ≤ N from (Nat.zero_le _)) _ _ h _ (lv_sub hl [0, 1, 2, 3] rfl)

set_option maxHeartbeats 4000000 in
set_option maxRecDepth 100000 in
theorem c_J7_fill_d0a16 (l : Launch) (G : vq_G) (a N : Nat) (f : Nat → Int64) (v : Int64) (hN : N < 2 ^ 31) : vq_v l yJ7_fill_d0a16 wsJ7_fill_d0a16 0 0 G [.ref a, .long v] [(a, .inl (G.2.2, N, .inr (.inl f)))]  [(a, .inl (G.2.2, N, .inr (.inl (fun _ => v))))] := by
  refine vq_openv (cc := cJ7_fill_d0a16) (maxL := 5) (ret := none) (Ts' := wsJ7_fill_d0a16.tail) (by decide) rfl (Nat.le_of_ble_eq_true rfl) ?_
  intro p e s m args below meth c A ls C h hnm hl
  have hx := C.1.1
  have hb := C.1.2.1
  have hts := C.1.2.2.2.2
  have hl : lv_has ls 5 [(0, .ref a), (1, .long v)] := hl
  refine lv_iconst (v := nI 0) hx hb dJ7_fill_d0a16_0 (by decide) ?_
  refine lv_istore_n (lv' := [(3, .int (nI 0)), (0, .ref a), (1, .long v)]) hx hb dJ7_fill_d0a16_1 rfl hl (by decide) rfl (fun ls hl => ?_)
  refine lv_aload_n hx hb dJ7_fill_d0a16_2 rfl (lv_at hl 1 rfl) ?_
  refine q_alenL (n := N) C h 0 rfl dJ7_fill_d0a16_3 ?_
  refine lv_istore (lv' := [(4, .int (nI N)), (3, .int (nI 0)), (0, .ref a), (1, .long v)]) hx hb dJ7_fill_d0a16_4 hl (by decide) rfl (fun ls hl => ?_)
  have loop6 : ∀ (fu : Nat) (k : Nat) (g : Nat → Int64), N - k < fu → g = q_fillL f v k → (k ≤ N) → ∀ (H : Heap) (locs : List Loc), vq_H G A s [(a, .inl (G.2.2, N, .inr (.inl g)))] H locs → ∀ (ls : Array Slot), lv_has ls 5 [(4, .int (nI N)), (3, .int (nI k)), (0, .ref a), (1, .long v)] → W p l e ({ frames := 0, cells := 0, slots := 0, locals := 0 } : Room) s m args below meth c H locs 0 0 (MQ below (va_Qv (fun (_ : Unit) => True) (fun _ => vq_T G A [(a, .inl (G.2.2, N, .inr (.inl (fun _ => v))))]) A) args s 0 0 A) (F0 m 6 ls []) := by
    intro fu
    induction fu with
    | zero => exact fun k g hm => absurd hm (Nat.not_lt_zero _)
    | succ fu ih =>
      intro k g hm6 e_g hk H locs h ls hl
      have ih6 := ih
      clear ih
      refine lv_iload_n hx hb dJ7_fill_d0a16_6 rfl (lv_at hl 1 rfl) ?_
      refine lv_iload hx hb dJ7_fill_d0a16_7 (lv_at hl 0 rfl) ?_
      refine q_icmp_ge (tgt := 22) hx hb (by omega) (by omega) dJ7_fill_d0a16_9 (by decide) (fun z9 => ?_) (fun z9 => ?_)
      · have h := q_reL h 0 (fun _ => v) rfl (fun j hj => by rw [e_g]; exact q_fillL_at f v (by omega))
        have h : vq_H G A s [(a, .inl (G.2.2, N, .inr (.inl (fun _ => v))))] H locs := h
        exact q_retv C h rfl rfl dJ7_fill_d0a16_22
      · refine lv_aload_n hx hb dJ7_fill_d0a16_12 rfl (lv_at hl 2 rfl) ?_
        refine lv_iload_n hx hb dJ7_fill_d0a16_13 rfl (lv_at hl 1 rfl) ?_
        refine lv_lload_n hx hb dJ7_fill_d0a16_14 rfl (lv_at hl 3 rfl) ?_
        refine q_last (i := k) (g := vp_updL g k v) (w' := [(a, .inl (G.2.2, N, .inr (.inl (vp_updL g k v))))]) C h 0 rfl (by omega) (by omega) rfl rfl dJ7_fill_d0a16_15 (fun H locs h => ?_)
        refine lv_iinc (v := nI (k + 1)) (lv' := [(3, .int (nI (k + 1))), (4, .int (nI N)), (0, .ref a), (1, .long v)]) hx hb dJ7_fill_d0a16_16 hl (k := 1) rfl (q_inc k) (by decide) rfl (fun ls hl => ?_)
        refine lv_goto (tgt := 6) hx hb dJ7_fill_d0a16_19 (by decide) ?_
        exact ih6 (k + 1) (vp_updL g k v) (by omega) (show (vp_updL g k v) = q_fillL f v (k + 1) from (by rw [e_g]; exact q_fillL_1 f v k)) (show (k + 1) ≤ N from (by omega)) _ _ h _ (lv_sub hl [1, 0, 2, 3] rfl)
  exact loop6 (N - 0 + 1) 0 f (Nat.lt_succ_self _) (show f = q_fillL f v 0 from (q_fillL_0 f v)) (show 0 ≤ N from (Nat.zero_le _)) _ _ h _ (lv_sub hl [0, 1, 2, 3] rfl)

set_option maxHeartbeats 4000000 in
set_option maxRecDepth 100000 in
theorem c_X4_sum (l : Launch) (G : vq_G) (o0 al : Nat) (w : Nat → Nat) : vq_i l yX4_sum wsX4_sum 0 0 G [.ref o0] [(o0, .inr (4, [.ref al])), (al, .inl (G.2.1, 12, .inl (fun zz => nI (w zz))))] (nI (q_sum w 12)) [(o0, .inr (4, [.ref al])), (al, .inl (G.2.1, 12, .inl (fun zz => nI (w zz))))] := by
  refine vq_openi (cc := cX4_sum) (maxL := 3) (ret := (some .int)) (Ts' := wsX4_sum.tail) (by decide) rfl (Nat.le_of_ble_eq_true rfl) ?_
  intro p e s m args below meth c A ls C h hnm hl
  have hx := C.1.1
  have hb := C.1.2.1
  have hts := C.1.2.2.2.2
  have hl : lv_has ls 3 [(0, .ref o0)] := hl
  have f20 := C.1.2.2.2.2 (.fieldLink RX4 20 "FountainCode$Weights" "list" "[I") (by decide +kernel)
  have iX4 : ∀ w ∈ u_ws RX4 TX4 1, w ∈ wsX4_sum := by decide +kernel
  refine lv_iconst (v := nI 0) hx hb dX4_sum_0 (by decide) ?_
  refine lv_istore_n (lv' := [(1, .int (nI 0)), (0, .ref o0)]) hx hb dX4_sum_1 rfl hl (by decide) rfl (fun ls hl => ?_)
  refine lv_iconst (v := nI 0) hx hb dX4_sum_2 (by decide) ?_
  refine lv_istore_n (lv' := [(2, .int (nI 0)), (1, .int (nI 0)), (0, .ref o0)]) hx hb dX4_sum_3 rfl hl (by decide) rfl (fun ls hl => ?_)
  have loop4 : ∀ (fu : Nat) (k : Nat) (y : Nat), 12 - k < fu → y = q_sum w k → (k ≤ 12) → ∀ (H : Heap) (locs : List Loc), vq_H G A s [(o0, .inr (4, [.ref al])), (al, .inl (G.2.1, 12, .inl (fun zz => nI (w zz))))] H locs → ∀ (ls : Array Slot), lv_has ls 3 [(2, .int (nI k)), (1, .int (nI y)), (0, .ref o0)] → W p l e ({ frames := 0, cells := 0, slots := 0, locals := 0 } : Room) s m args below meth c H locs 0 0 (MQ below (va_Qi (fun zr (_ : Unit) => zr = (nI (q_sum w 12))) (fun _ => vq_T G A [(o0, .inr (4, [.ref al])), (al, .inl (G.2.1, 12, .inl (fun zz => nI (w zz))))]) A) args s 0 0 A) (F0 m 4 ls []) := by
    intro fu
    induction fu with
    | zero => exact fun k y hm => absurd hm (Nat.not_lt_zero _)
    | succ fu ih =>
      intro k y hm4 e_y hk H locs h ls hl
      have ih4 := ih
      clear ih
      refine lv_iload_n hx hb dX4_sum_4 rfl (lv_at hl 0 rfl) ?_
      refine lv_aload_n hx hb dX4_sum_5 rfl (lv_at hl 2 rfl) ?_
      refine q_get (Cn := RX4) (T := TX4) (N := 1) (ci := 4) (v := .ref al) C h iX4 0 rfl rfl 0 (by decide) f20 rfl dX4_sum_6 ?_
      refine q_alen (n := 12) C h 1 rfl dX4_sum_9 ?_
      refine q_icmp_ge (tgt := 28) hx hb (by omega) (by omega) dX4_sum_10 (by decide) (fun z10 => ?_) (fun z10 => ?_)
      · refine lv_iload_n hx hb dX4_sum_28 rfl (lv_at hl 1 rfl) ?_
        exact q_reti C h rfl (by rw [e_y, show k = 12 from by omega]) rfl dX4_sum_29
      · refine lv_iload_n hx hb dX4_sum_13 rfl (lv_at hl 1 rfl) ?_
        refine lv_aload_n hx hb dX4_sum_14 rfl (lv_at hl 2 rfl) ?_
        refine q_get (Cn := RX4) (T := TX4) (N := 1) (ci := 4) (v := .ref al) C h iX4 0 rfl rfl 0 (by decide) f20 rfl dX4_sum_15 ?_
        refine lv_iload_n hx hb dX4_sum_18 rfl (lv_at hl 0 rfl) ?_
        refine q_iald (i := k) (v := (nI (w k))) C h 1 rfl (by omega) (by omega) rfl dX4_sum_19 ?_
        refine q_iadd hx hb dX4_sum_20 ?_
        refine lv_istore_n (lv' := [(1, .int (nI (y + w k))), (2, .int (nI k)), (0, .ref o0)]) hx hb dX4_sum_21 rfl hl (by decide) rfl (fun ls hl => ?_)
        refine lv_iinc (v := nI (k + 1)) (lv' := [(2, .int (nI (k + 1))), (1, .int (nI (y + w k))), (0, .ref o0)]) hx hb dX4_sum_22 hl (k := 1) rfl (q_inc k) (by decide) rfl (fun ls hl => ?_)
        refine lv_goto (tgt := 4) hx hb dX4_sum_25 (by decide) ?_
        exact ih4 (k + 1) (y + w k) (by omega) (show (y + w k) = q_sum w (k + 1) from (by rw [e_y]; rfl)) (show (k + 1) ≤ 12 from (by omega)) _ _ h _ (lv_sub hl [0, 1, 2] rfl)
  exact loop4 (12 - 0 + 1) 0 0 (Nat.lt_succ_self _) (show 0 = q_sum w 0 from rfl) (show 0 ≤ 12 from (Nat.zero_le _)) _ _ h _ (lv_sub hl [0, 1, 2] rfl)

set_option maxHeartbeats 4000000 in
set_option maxRecDepth 100000 in
theorem c_X4_weightOf (l : Launch) (G : vq_G) (o0 al : Nat) (w : Nat → Nat) (d : Nat) (h1 : 1 ≤ d) (h2 : d ≤ 12) : vq_i l yX4_weightOf wsX4_weightOf 0 0 G [.ref o0, .int (nI d)] [(o0, .inr (4, [.ref al])), (al, .inl (G.2.1, 12, .inl (fun zz => nI (w zz))))] (nI (w (d - 1))) [(o0, .inr (4, [.ref al])), (al, .inl (G.2.1, 12, .inl (fun zz => nI (w zz))))] := by
  refine vq_openi (cc := cX4_weightOf) (maxL := 3) (ret := (some .int)) (Ts' := wsX4_weightOf.tail) (by decide) rfl (Nat.le_of_ble_eq_true rfl) ?_
  intro p e s m args below meth c A ls C h hnm hl
  have hx := C.1.1
  have hb := C.1.2.1
  have hts := C.1.2.2.2.2
  have hl : lv_has ls 3 [(0, .ref o0), (1, .int (nI d))] := hl
  have f20 := C.1.2.2.2.2 (.fieldLink RX4 20 "FountainCode$Weights" "list" "[I") (by decide +kernel)
  have iX4 : ∀ w ∈ u_ws RX4 TX4 1, w ∈ wsX4_weightOf := by decide +kernel
  refine lv_iload_n hx hb dX4_weightOf_0 rfl (lv_at hl 1 rfl) ?_
  refine lv_iconst (v := nI 1) hx hb dX4_weightOf_1 (by decide) ?_
  refine q_isub hx hb (by omega) dX4_weightOf_2 ?_
  refine lv_istore_n (lv' := [(2, .int (nI (d - 1))), (0, .ref o0), (1, .int (nI d))]) hx hb dX4_weightOf_3 rfl hl (by decide) rfl (fun ls hl => ?_)
  refine lv_iload_n hx hb dX4_weightOf_4 rfl (lv_at hl 0 rfl) ?_
  refine q_if_lt (tgt := 26) hx hb (by omega) dX4_weightOf_5 (by decide) (fun z5 => absurd z5 (by omega)) (fun z5 => ?_)
  refine lv_iload_n hx hb dX4_weightOf_8 rfl (lv_at hl 0 rfl) ?_
  refine lv_aload_n hx hb dX4_weightOf_9 rfl (lv_at hl 1 rfl) ?_
  refine q_get (Cn := RX4) (T := TX4) (N := 1) (ci := 4) (v := .ref al) C h iX4 0 rfl rfl 0 (by decide) f20 rfl dX4_weightOf_10 ?_
  refine q_alen (n := 12) C h 1 rfl dX4_weightOf_13 ?_
  refine q_icmp_ge (tgt := 26) hx hb (by omega) (by omega) dX4_weightOf_14 (by decide) (fun z14 => absurd z14 (by omega)) (fun z14 => ?_)
  refine lv_aload_n hx hb dX4_weightOf_17 rfl (lv_at hl 1 rfl) ?_
  refine q_get (Cn := RX4) (T := TX4) (N := 1) (ci := 4) (v := .ref al) C h iX4 0 rfl rfl 0 (by decide) f20 rfl dX4_weightOf_18 ?_
  refine lv_iload_n hx hb dX4_weightOf_21 rfl (lv_at hl 0 rfl) ?_
  refine q_iald (i := d - 1) (v := (nI (w (d - 1)))) C h 1 rfl (by omega) (by omega) rfl dX4_weightOf_22 ?_
  refine lv_goto (tgt := 27) hx hb dX4_weightOf_23 (by decide) ?_
  exact q_reti C h rfl rfl rfl dX4_weightOf_27

set_option maxHeartbeats 4000000 in
set_option maxRecDepth 100000 in
theorem c_X4_change (l : Launch) (G : vq_G) (o0 al : Nat) (w : Nat → Nat) (d x : Nat) (h1 : 1 ≤ d) (h2 : d ≤ 12) : vq_v l yX4_change wsX4_change 0 0 G [.ref o0, .int (nI d), .int (nI x)] [(o0, .inr (4, [.ref al])), (al, .inl (G.2.1, 12, .inl (fun zz => nI (w zz))))]  [(o0, .inr (4, [.ref al])), (al, .inl (G.2.1, 12, .inl (fun zz => nI (va_up w (d - 1) x zz))))] := by
  refine vq_openv (cc := cX4_change) (maxL := 4) (ret := none) (Ts' := wsX4_change.tail) (by decide) rfl (Nat.le_of_ble_eq_true rfl) ?_
  intro p e s m args below meth c A ls C h hnm hl
  have hx := C.1.1
  have hb := C.1.2.1
  have hts := C.1.2.2.2.2
  have hl : lv_has ls 4 [(0, .ref o0), (1, .int (nI d)), (2, .int (nI x))] := hl
  have f20 := C.1.2.2.2.2 (.fieldLink RX4 20 "FountainCode$Weights" "list" "[I") (by decide +kernel)
  have iX4 : ∀ w ∈ u_ws RX4 TX4 1, w ∈ wsX4_change := by decide +kernel
  refine lv_iload_n hx hb dX4_change_0 rfl (lv_at hl 1 rfl) ?_
  refine lv_iconst (v := nI 1) hx hb dX4_change_1 (by decide) ?_
  refine q_isub hx hb (by omega) dX4_change_2 ?_
  refine lv_istore_n (lv' := [(3, .int (nI (d - 1))), (0, .ref o0), (1, .int (nI d)), (2, .int (nI x))]) hx hb dX4_change_3 rfl hl (by decide) rfl (fun ls hl => ?_)
  refine lv_iload_n hx hb dX4_change_4 rfl (lv_at hl 0 rfl) ?_
  refine q_if_lt (tgt := 24) hx hb (by omega) dX4_change_5 (by decide) (fun z5 => absurd z5 (by omega)) (fun z5 => ?_)
  refine lv_iload_n hx hb dX4_change_8 rfl (lv_at hl 0 rfl) ?_
  refine lv_aload_n hx hb dX4_change_9 rfl (lv_at hl 1 rfl) ?_
  refine q_get (Cn := RX4) (T := TX4) (N := 1) (ci := 4) (v := .ref al) C h iX4 0 rfl rfl 0 (by decide) f20 rfl dX4_change_10 ?_
  refine q_alen (n := 12) C h 1 rfl dX4_change_13 ?_
  refine q_icmp_ge (tgt := 24) hx hb (by omega) (by omega) dX4_change_14 (by decide) (fun z14 => absurd z14 (by omega)) (fun z14 => ?_)
  refine lv_aload_n hx hb dX4_change_17 rfl (lv_at hl 1 rfl) ?_
  refine q_get (Cn := RX4) (T := TX4) (N := 1) (ci := 4) (v := .ref al) C h iX4 0 rfl rfl 0 (by decide) f20 rfl dX4_change_18 ?_
  refine lv_iload_n hx hb dX4_change_21 rfl (lv_at hl 0 rfl) ?_
  refine lv_iload_n hx hb dX4_change_22 rfl (lv_at hl 3 rfl) ?_
  refine q_iast (i := d - 1) (g := (fun zz => nI ((va_up w (d - 1) x) zz))) (w' := [(o0, .inr (4, [.ref al])), (al, .inl (G.2.1, 12, .inl (fun zz => nI ((va_up w (d - 1) x) zz))))]) C h 1 rfl (by omega) (by omega) (q_upN _ _ _) rfl dX4_change_23 (fun H locs h => ?_)
  exact q_retv C h rfl (by rfl) dX4_change_24

set_option maxHeartbeats 4000000 in
set_option maxRecDepth 100000 in
theorem c_X4_degreeFor (l : Launch) (G : vq_G) (o0 al : Nat) (w : Nat → Nat) (r : Nat) (hW : ∀ j, w j ≤ 1000) (hr : r < q_sum w 12) : vq_i l yX4_degreeFor wsX4_degreeFor 0 0 G [.ref o0, .int (nI r)] [(o0, .inr (4, [.ref al])), (al, .inl (G.2.1, 12, .inl (fun zz => nI (w zz))))] (nI (q_deg w r)) [(o0, .inr (4, [.ref al])), (al, .inl (G.2.1, 12, .inl (fun zz => nI (w zz))))] := by
  refine vq_openi (cc := cX4_degreeFor) (maxL := 4) (ret := (some .int)) (Ts' := wsX4_degreeFor.tail) (by decide) rfl (Nat.le_of_ble_eq_true rfl) ?_
  intro p e s m args below meth c A ls C h hnm hl
  have hx := C.1.1
  have hb := C.1.2.1
  have hts := C.1.2.2.2.2
  have hl : lv_has ls 4 [(0, .ref o0), (1, .int (nI r))] := hl
  have f20 := C.1.2.2.2.2 (.fieldLink RX4 20 "FountainCode$Weights" "list" "[I") (by decide +kernel)
  have iX4 : ∀ w ∈ u_ws RX4 TX4 1, w ∈ wsX4_degreeFor := by decide +kernel
  refine lv_iconst (v := nI 0) hx hb dX4_degreeFor_0 (by decide) ?_
  refine lv_istore_n (lv' := [(2, .int (nI 0)), (0, .ref o0), (1, .int (nI r))]) hx hb dX4_degreeFor_1 rfl hl (by decide) rfl (fun ls hl => ?_)
  refine lv_iconst (v := nI 0) hx hb dX4_degreeFor_2 (by decide) ?_
  refine lv_istore_n (lv' := [(3, .int (nI 0)), (2, .int (nI 0)), (0, .ref o0), (1, .int (nI r))]) hx hb dX4_degreeFor_3 rfl hl (by decide) rfl (fun ls hl => ?_)
  have loop4 : ∀ (fu : Nat) (k : Nat) (y : Nat), 12 - k < fu → y = q_sum w k → (k ≤ 12) → (∀ j, j ≤ k → q_sum w j ≤ r) → ∀ (H : Heap) (locs : List Loc), vq_H G A s [(o0, .inr (4, [.ref al])), (al, .inl (G.2.1, 12, .inl (fun zz => nI (w zz))))] H locs → ∀ (ls : Array Slot), lv_has ls 4 [(3, .int (nI k)), (2, .int (nI y)), (0, .ref o0), (1, .int (nI r))] → W p l e ({ frames := 0, cells := 0, slots := 0, locals := 0 } : Room) s m args below meth c H locs 0 0 (MQ below (va_Qi (fun zr (_ : Unit) => zr = (nI (q_deg w r))) (fun _ => vq_T G A [(o0, .inr (4, [.ref al])), (al, .inl (G.2.1, 12, .inl (fun zz => nI (w zz))))]) A) args s 0 0 A) (F0 m 4 ls []) := by
    intro fu
    induction fu with
    | zero => exact fun k y hm => absurd hm (Nat.not_lt_zero _)
    | succ fu ih =>
      intro k y hm4 e_y hk hall H locs h ls hl
      have ih4 := ih
      clear ih
      refine lv_iload_n hx hb dX4_degreeFor_4 rfl (lv_at hl 0 rfl) ?_
      refine lv_aload_n hx hb dX4_degreeFor_5 rfl (lv_at hl 2 rfl) ?_
      refine q_get (Cn := RX4) (T := TX4) (N := 1) (ci := 4) (v := .ref al) C h iX4 0 rfl rfl 0 (by decide) f20 rfl dX4_degreeFor_6 ?_
      refine q_alen (n := 12) C h 1 rfl dX4_degreeFor_9 ?_
      refine q_icmp_ge (tgt := 37) hx hb (by omega) (by omega) dX4_degreeFor_10 (by decide) (fun z10 => absurd z10 (fun z => by have := hall k (Nat.le_refl _); rw [show k = 12 from by omega] at this; omega)) (fun z10 => ?_)
      refine lv_iload_n hx hb dX4_degreeFor_13 rfl (lv_at hl 1 rfl) ?_
      refine lv_aload_n hx hb dX4_degreeFor_14 rfl (lv_at hl 2 rfl) ?_
      refine q_get (Cn := RX4) (T := TX4) (N := 1) (ci := 4) (v := .ref al) C h iX4 0 rfl rfl 0 (by decide) f20 rfl dX4_degreeFor_15 ?_
      refine lv_iload_n hx hb dX4_degreeFor_18 rfl (lv_at hl 0 rfl) ?_
      refine q_iald (i := k) (v := (nI (w k))) C h 1 rfl (by omega) (by omega) rfl dX4_degreeFor_19 ?_
      refine q_iadd hx hb dX4_degreeFor_20 ?_
      refine lv_istore_n (lv' := [(2, .int (nI (y + w k))), (3, .int (nI k)), (0, .ref o0), (1, .int (nI r))]) hx hb dX4_degreeFor_21 rfl hl (by decide) rfl (fun ls hl => ?_)
      refine lv_iload_n hx hb dX4_degreeFor_22 rfl (lv_at hl 0 rfl) ?_
      refine lv_iload_n hx hb dX4_degreeFor_23 rfl (lv_at hl 3 rfl) ?_
      refine q_icmp_le (tgt := 31) hx hb (by have := q_sum_le hW k; have := hW k; omega) (by have := q_sum_le hW 12; omega) dX4_degreeFor_24 (by decide) (fun z24 => ?_) (fun z24 => ?_)
      · refine lv_iinc (v := nI (k + 1)) (lv' := [(3, .int (nI (k + 1))), (2, .int (nI (y + w k))), (0, .ref o0), (1, .int (nI r))]) hx hb dX4_degreeFor_31 hl (k := 1) rfl (q_inc k) (by decide) rfl (fun ls hl => ?_)
        refine lv_goto (tgt := 4) hx hb dX4_degreeFor_34 (by decide) ?_
        exact ih4 (k + 1) (y + w k) (by omega) (show (y + w k) = q_sum w (k + 1) from (by rw [e_y]; rfl)) (show (k + 1) ≤ 12 from (by omega)) (show ∀ j, j ≤ (k + 1) → q_sum w j ≤ r from (fun j hj => by rcases Nat.lt_or_ge j (k + 1) with a | a; exact hall j (by omega); rw [show j = k + 1 from by omega]; show q_sum w k + w k ≤ r; omega)) _ _ h _ (lv_sub hl [0, 1, 2, 3] rfl)
      · refine lv_iload_n hx hb dX4_degreeFor_27 rfl (lv_at hl 1 rfl) ?_
        refine lv_iconst (v := nI 1) hx hb dX4_degreeFor_28 (by decide) ?_
        refine q_iadd hx hb dX4_degreeFor_29 ?_
        exact q_reti C h rfl (by rw [q_deg_eq (d := k + 1) (show r < q_sum w k + w k from by omega) (fun j hj => hall j (by omega))]) rfl dX4_degreeFor_30
  exact loop4 (12 - 0 + 1) 0 0 (Nat.lt_succ_self _) (show 0 = q_sum w 0 from rfl) (show 0 ≤ 12 from (Nat.zero_le _)) (show ∀ j, j ≤ 0 → q_sum w j ≤ r from (fun j hj => by rw [show j = 0 from by omega]; exact Nat.zero_le _)) _ _ h _ (lv_sub hl [0, 1, 2, 3] rfl)

set_option maxHeartbeats 4000000 in
set_option maxRecDepth 100000 in
theorem c_X3_sourceCount (l : Launch) (G : vq_G) (o0 av : Nat) (vals : Nat → Int32) (S P : Nat) : vq_i l yX3_sourceCount wsX3_sourceCount 0 0 G [.ref o0] [(o0, .inr (3, [.ref av, .int (nI S), .int (nI P)])), (av, .inl (G.2.1, 32, .inl vals))] (nI S) [(o0, .inr (3, [.ref av, .int (nI S), .int (nI P)])), (av, .inl (G.2.1, 32, .inl vals))] := by
  refine vq_openi (cc := cX3_sourceCount) (maxL := 1) (ret := (some .int)) (Ts' := wsX3_sourceCount.tail) (by decide) rfl (Nat.le_of_ble_eq_true rfl) ?_
  intro p e s m args below meth c A ls C h hnm hl
  have hx := C.1.1
  have hb := C.1.2.1
  have hts := C.1.2.2.2.2
  have hl : lv_has ls 1 [(0, .ref o0)] := hl
  have f15 := C.1.2.2.2.2 (.fieldLink RX3 15 "FountainCode$Sender" "sources" "I") (by decide +kernel)
  have iX3 : ∀ w ∈ u_ws RX3 TX3 3, w ∈ wsX3_sourceCount := by decide +kernel
  refine lv_aload_n hx hb dX3_sourceCount_0 rfl (lv_at hl 0 rfl) ?_
  refine q_get (Cn := RX3) (T := TX3) (N := 3) (ci := 3) (v := .int (nI S)) C h iX3 0 rfl rfl 1 (by decide) f15 rfl dX3_sourceCount_1 ?_
  exact q_reti C h rfl rfl rfl dX3_sourceCount_4

set_option maxHeartbeats 4000000 in
set_option maxRecDepth 100000 in
theorem c_X3_parityCount (l : Launch) (G : vq_G) (o0 av : Nat) (vals : Nat → Int32) (S P : Nat) : vq_i l yX3_parityCount wsX3_parityCount 0 0 G [.ref o0] [(o0, .inr (3, [.ref av, .int (nI S), .int (nI P)])), (av, .inl (G.2.1, 32, .inl vals))] (nI P) [(o0, .inr (3, [.ref av, .int (nI S), .int (nI P)])), (av, .inl (G.2.1, 32, .inl vals))] := by
  refine vq_openi (cc := cX3_parityCount) (maxL := 1) (ret := (some .int)) (Ts' := wsX3_parityCount.tail) (by decide) rfl (Nat.le_of_ble_eq_true rfl) ?_
  intro p e s m args below meth c A ls C h hnm hl
  have hx := C.1.1
  have hb := C.1.2.1
  have hts := C.1.2.2.2.2
  have hl : lv_has ls 1 [(0, .ref o0)] := hl
  have f19 := C.1.2.2.2.2 (.fieldLink RX3 19 "FountainCode$Sender" "parities" "I") (by decide +kernel)
  have iX3 : ∀ w ∈ u_ws RX3 TX3 3, w ∈ wsX3_parityCount := by decide +kernel
  refine lv_aload_n hx hb dX3_parityCount_0 rfl (lv_at hl 0 rfl) ?_
  refine q_get (Cn := RX3) (T := TX3) (N := 3) (ci := 3) (v := .int (nI P)) C h iX3 0 rfl rfl 2 (by decide) f19 rfl dX3_parityCount_1 ?_
  exact q_reti C h rfl rfl rfl dX3_parityCount_4

set_option maxHeartbeats 4000000 in
set_option maxRecDepth 100000 in
theorem c_X3_blockCount (l : Launch) (G : vq_G) (o0 av : Nat) (vals : Nat → Int32) (S P : Nat) : vq_i l yX3_blockCount wsX3_blockCount 0 0 G [.ref o0] [(o0, .inr (3, [.ref av, .int (nI S), .int (nI P)])), (av, .inl (G.2.1, 32, .inl vals))] (nI (S + P)) [(o0, .inr (3, [.ref av, .int (nI S), .int (nI P)])), (av, .inl (G.2.1, 32, .inl vals))] := by
  refine vq_openi (cc := cX3_blockCount) (maxL := 1) (ret := (some .int)) (Ts' := wsX3_blockCount.tail) (by decide) rfl (Nat.le_of_ble_eq_true rfl) ?_
  intro p e s m args below meth c A ls C h hnm hl
  have hx := C.1.1
  have hb := C.1.2.1
  have hts := C.1.2.2.2.2
  have hl : lv_has ls 1 [(0, .ref o0)] := hl
  have f15 := C.1.2.2.2.2 (.fieldLink RX3 15 "FountainCode$Sender" "sources" "I") (by decide +kernel)
  have iX3 : ∀ w ∈ u_ws RX3 TX3 3, w ∈ wsX3_blockCount := by decide +kernel
  have f19 := C.1.2.2.2.2 (.fieldLink RX3 19 "FountainCode$Sender" "parities" "I") (by decide +kernel)
  refine lv_aload_n hx hb dX3_blockCount_0 rfl (lv_at hl 0 rfl) ?_
  refine q_get (Cn := RX3) (T := TX3) (N := 3) (ci := 3) (v := .int (nI S)) C h iX3 0 rfl rfl 1 (by decide) f15 rfl dX3_blockCount_1 ?_
  refine lv_aload_n hx hb dX3_blockCount_4 rfl (lv_at hl 0 rfl) ?_
  refine q_get (Cn := RX3) (T := TX3) (N := 3) (ci := 3) (v := .int (nI P)) C h iX3 0 rfl rfl 2 (by decide) f19 rfl dX3_blockCount_5 ?_
  refine q_iadd hx hb dX3_blockCount_8 ?_
  exact q_reti C h rfl rfl rfl dX3_blockCount_9

set_option maxHeartbeats 4000000 in
set_option maxRecDepth 100000 in
theorem c_X3_begin (l : Launch) (G : vq_G) (o0 av : Nat) (vals : Nat → Int32) (S P : Nat) (S2 P2 : Nat) : vq_v l yX3_begin wsX3_begin 1 23 G [.ref o0, .int (nI S2), .int (nI P2)] [(o0, .inr (3, [.ref av, .int (nI S), .int (nI P)])), (av, .inl (G.2.1, 32, .inl vals))]  [(o0, .inr (3, [.ref av, .int (nI S2), .int (nI P2)])), (av, .inl (G.2.1, 32, .inl (fun _ => (nI 0))))] := by
  refine vq_openv (cc := cX3_begin) (maxL := 3) (ret := none) (Ts' := wsX3_begin.tail) (by decide) rfl (Nat.le_of_ble_eq_true rfl) ?_
  intro p e s m args below meth c A ls C h hnm hl
  have hx := C.1.1
  have hb := C.1.2.1
  have hts := C.1.2.2.2.2
  have hl : lv_has ls 3 [(0, .ref o0), (1, .int (nI S2)), (2, .int (nI P2))] := hl
  have f15 := C.1.2.2.2.2 (.fieldLink RX3 15 "FountainCode$Sender" "sources" "I") (by decide +kernel)
  have iX3 : ∀ w ∈ u_ws RX3 TX3 3, w ∈ wsX3_begin := by decide +kernel
  have f19 := C.1.2.2.2.2 (.fieldLink RX3 19 "FountainCode$Sender" "parities" "I") (by decide +kernel)
  have f9 := C.1.2.2.2.2 (.fieldLink RX3 9 "FountainCode$Sender" "sourceValues" "[I") (by decide +kernel)
  refine lv_aload_n hx hb dX3_begin_0 rfl (lv_at hl 0 rfl) ?_
  refine lv_iload_n hx hb dX3_begin_1 rfl (lv_at hl 1 rfl) ?_
  refine q_put (Cn := RX3) (T := TX3) (N := 3) (ci := 3) (v := .int (nI S2)) (w' := [(o0, .inr (3, [.ref av, .int (nI S2), .int (nI P)])), (av, .inl (G.2.1, 32, .inl vals))]) C h iX3 tyX3 tyX3_ok nmX3 0 rfl rfl 1 (by decide) f15 rfl rfl rfl (Nat.le_of_ble_eq_true rfl) dX3_begin_2 rfl (fun H locs h => ?_)
  refine lv_aload_n hx hb dX3_begin_5 rfl (lv_at hl 0 rfl) ?_
  refine lv_iload_n hx hb dX3_begin_6 rfl (lv_at hl 2 rfl) ?_
  refine q_put (Cn := RX3) (T := TX3) (N := 3) (ci := 3) (v := .int (nI P2)) (w' := [(o0, .inr (3, [.ref av, .int (nI S2), .int (nI P2)])), (av, .inl (G.2.1, 32, .inl vals))]) C h iX3 tyX3 tyX3_ok nmX3 0 rfl rfl 2 (by decide) f19 rfl rfl rfl (Nat.le_of_ble_eq_true rfl) dX3_begin_7 rfl (fun H locs h => ?_)
  refine lv_aload_n hx hb dX3_begin_10 rfl (lv_at hl 0 rfl) ?_
  refine q_get (Cn := RX3) (T := TX3) (N := 3) (ci := 3) (v := .ref av) C h iX3 0 rfl rfl 0 (by decide) f9 rfl dX3_begin_11 ?_
  refine lv_iconst (v := nI 0) hx hb dX3_begin_14 (by decide) ?_
  refine q_callSv C h (c_J7_fill_53178 l G av 32 vals (nI 0) (by decide)) (va_cwS 2 hts gX3_begin_J7_fill_53178 rfl rfl rfl (by decide +kernel) ⟨Nat.le_of_ble_eq_true rfl, Nat.le_of_ble_eq_true rfl⟩) [1] rfl rfl [0] (wr := [(o0, .inr (3, [.ref av, .int (nI S2), .int (nI P2)]))]) rfl rfl (by decide) rfl hl.1 rfl (Nat.le_of_ble_eq_true rfl) dX3_begin_15 ⟨Nat.zero_le _, Nat.zero_le _⟩ [0, 1] (w' := [(o0, .inr (3, [.ref av, .int (nI S2), .int (nI P2)])), (av, .inl (G.2.1, 32, .inl (fun _ => (nI 0))))]) rfl rfl (fun H locs h => ?_)
  exact q_retv C h rfl rfl dX3_begin_18

set_option maxHeartbeats 4000000 in
set_option maxRecDepth 100000 in
theorem c_X3_change (l : Launch) (G : vq_G) (o0 av : Nat) (vals : Nat → Int32) (S P : Nat) (b : Nat) (x : Int32) (hb2 : b < 32) : vq_v l yX3_change wsX3_change 0 0 G [.ref o0, .int (nI b), .int x] [(o0, .inr (3, [.ref av, .int (nI S), .int (nI P)])), (av, .inl (G.2.1, 32, .inl vals))]  [(o0, .inr (3, [.ref av, .int (nI S), .int (nI P)])), (av, .inl (G.2.1, 32, .inl (upd vals b x)))] := by
  refine vq_openv (cc := cX3_change) (maxL := 3) (ret := none) (Ts' := wsX3_change.tail) (by decide) rfl (Nat.le_of_ble_eq_true rfl) ?_
  intro p e s m args below meth c A ls C h hnm hl
  have hx := C.1.1
  have hb := C.1.2.1
  have hts := C.1.2.2.2.2
  have hl : lv_has ls 3 [(0, .ref o0), (1, .int (nI b)), (2, .int x)] := hl
  have f9 := C.1.2.2.2.2 (.fieldLink RX3 9 "FountainCode$Sender" "sourceValues" "[I") (by decide +kernel)
  have iX3 : ∀ w ∈ u_ws RX3 TX3 3, w ∈ wsX3_change := by decide +kernel
  refine lv_iload_n hx hb dX3_change_0 rfl (lv_at hl 1 rfl) ?_
  refine q_if_lt (tgt := 20) hx hb (by omega) dX3_change_1 (by decide) (fun z1 => absurd z1 (by omega)) (fun z1 => ?_)
  refine lv_iload_n hx hb dX3_change_4 rfl (lv_at hl 1 rfl) ?_
  refine lv_aload_n hx hb dX3_change_5 rfl (lv_at hl 0 rfl) ?_
  refine q_get (Cn := RX3) (T := TX3) (N := 3) (ci := 3) (v := .ref av) C h iX3 0 rfl rfl 0 (by decide) f9 rfl dX3_change_6 ?_
  refine q_alen (n := 32) C h 1 rfl dX3_change_9 ?_
  refine q_icmp_ge (tgt := 20) hx hb (by omega) (by omega) dX3_change_10 (by decide) (fun z10 => absurd z10 (by omega)) (fun z10 => ?_)
  refine lv_aload_n hx hb dX3_change_13 rfl (lv_at hl 0 rfl) ?_
  refine q_get (Cn := RX3) (T := TX3) (N := 3) (ci := 3) (v := .ref av) C h iX3 0 rfl rfl 0 (by decide) f9 rfl dX3_change_14 ?_
  refine lv_iload_n hx hb dX3_change_17 rfl (lv_at hl 1 rfl) ?_
  refine lv_iload_n hx hb dX3_change_18 rfl (lv_at hl 2 rfl) ?_
  refine q_iast (i := b) (g := upd vals b x) (w' := [(o0, .inr (3, [.ref av, .int (nI S), .int (nI P)])), (av, .inl (G.2.1, 32, .inl (upd vals b x)))]) C h 1 rfl (by omega) (by omega) rfl rfl dX3_change_19 (fun H locs h => ?_)
  exact q_retv C h rfl rfl dX3_change_20

set_option maxHeartbeats 4000000 in
set_option maxRecDepth 100000 in
theorem c_X3_coveredBy (l : Launch) (G : vq_G) (o0 av : Nat) (vals : Nat → Int32) (S P : Nat) (j : Nat) (hS : S ≤ 32) (hj : j < 31) : vq_l l yX3_coveredBy wsX3_coveredBy 1 20 G [.ref o0, .int (nI j)] [(o0, .inr (3, [.ref av, .int (nI S), .int (nI P)])), (av, .inl (G.2.1, 32, .inl vals))] (q_cov j S) [(o0, .inr (3, [.ref av, .int (nI S), .int (nI P)])), (av, .inl (G.2.1, 32, .inl vals))] := by
  refine vq_openl (cc := cX3_coveredBy) (maxL := 5) (ret := (some .long)) (Ts' := wsX3_coveredBy.tail) (by decide) rfl (Nat.le_of_ble_eq_true rfl) ?_
  intro p e s m args below meth c A ls C h hnm hl
  have hx := C.1.1
  have hb := C.1.2.1
  have hts := C.1.2.2.2.2
  have hl : lv_has ls 5 [(0, .ref o0), (1, .int (nI j))] := hl
  have f15 := C.1.2.2.2.2 (.fieldLink RX3 15 "FountainCode$Sender" "sources" "I") (by decide +kernel)
  have iX3 : ∀ w ∈ u_ws RX3 TX3 3, w ∈ wsX3_coveredBy := by decide +kernel
  have iniX5 := C.1.2.2.2.2 (.initialized RX5) (by decide +kernel)
  have stX5_setOf := C.1.2.2.2.2 (.static yX5_setOf) (by decide +kernel)
  refine lv_lconst (v := 0) hx hb dX3_coveredBy_0 (by decide) ?_
  refine lv_lstore_n (lv' := [(2, .long 0), (0, .ref o0), (1, .int (nI j))]) hx hb dX3_coveredBy_1 rfl hl (by decide) rfl (fun ls hl => ?_)
  refine lv_iconst (v := nI 0) hx hb dX3_coveredBy_2 (by decide) ?_
  refine lv_istore (lv' := [(4, .int (nI 0)), (2, .long 0), (0, .ref o0), (1, .int (nI j))]) hx hb dX3_coveredBy_3 hl (by decide) rfl (fun ls hl => ?_)
  have loop5 : ∀ (fu : Nat) (k : Nat) (y : Int64), S - k < fu → y = q_cov j k → (k ≤ S) → ∀ (H : Heap) (locs : List Loc), vq_H G A s [(o0, .inr (3, [.ref av, .int (nI S), .int (nI P)])), (av, .inl (G.2.1, 32, .inl vals))] H locs → ∀ (ls : Array Slot), lv_has ls 5 [(4, .int (nI k)), (2, .long y), (0, .ref o0), (1, .int (nI j))] → W p l e ({ frames := 1, cells := 0, slots := 0, locals := 20 } : Room) s m args below meth c H locs 0 0 (MQ below (va_Ql (fun zr (_ : Unit) => zr = (q_cov j S)) (fun _ => vq_T G A [(o0, .inr (3, [.ref av, .int (nI S), .int (nI P)])), (av, .inl (G.2.1, 32, .inl vals))]) A) args s 0 0 A) (F0 m 5 ls []) := by
    intro fu
    induction fu with
    | zero => exact fun k y hm => absurd hm (Nat.not_lt_zero _)
    | succ fu ih =>
      intro k y hm5 e_y hk H locs h ls hl
      have ih5 := ih
      clear ih
      refine lv_iload hx hb dX3_coveredBy_5 (lv_at hl 0 rfl) ?_
      refine lv_aload_n hx hb dX3_coveredBy_7 rfl (lv_at hl 2 rfl) ?_
      refine q_get (Cn := RX3) (T := TX3) (N := 3) (ci := 3) (v := .int (nI S)) C h iX3 0 rfl rfl 1 (by decide) f15 rfl dX3_coveredBy_8 ?_
      refine q_icmp_ge (tgt := 39) hx hb (by omega) (by omega) dX3_coveredBy_11 (by decide) (fun z11 => ?_) (fun z11 => ?_)
      · refine lv_lload_n hx hb dX3_coveredBy_39 rfl (lv_at hl 1 rfl) ?_
        exact q_retl C h rfl (by rw [e_y, show k = S from by omega]) rfl dX3_coveredBy_40
      · refine lv_iload hx hb dX3_coveredBy_14 (lv_at hl 0 rfl) ?_
        refine lv_iconst (v := nI 1) hx hb dX3_coveredBy_16 (by decide) ?_
        refine q_iadd hx hb dX3_coveredBy_17 ?_
        refine lv_iload_n hx hb dX3_coveredBy_18 rfl (lv_at hl 3 rfl) ?_
        refine lv_ishr hx hb dX3_coveredBy_19 ?_
        refine q_top (v' := .int (nI ((k + 1) / 2 ^ j))) (congrArg Value.int (q_ishr (by omega) (by omega))) ?_
        refine lv_iconst (v := nI 1) hx hb dX3_coveredBy_20 (by decide) ?_
        refine lv_iand hx hb dX3_coveredBy_21 ?_
        refine q_top (v' := .int (q_b (q_cv j k))) (congrArg Value.int (q_and1b (q_half (by omega)))) ?_
        refine q_ifb_eq (tgt := 33) hx hb dX3_coveredBy_22 (by decide) (fun z22 => ?_) (fun z22 => ?_)
        · refine lv_iinc (v := nI (k + 1)) (lv' := [(4, .int (nI (k + 1))), (2, .long y), (0, .ref o0), (1, .int (nI j))]) hx hb dX3_coveredBy_33 hl (k := 0) rfl (q_inc k) (by decide) rfl (fun ls hl => ?_)
          refine lv_goto (tgt := 5) hx hb dX3_coveredBy_36 (by decide) ?_
          exact ih5 (k + 1) y (by omega) (show y = q_cov j (k + 1) from (by rw [e_y]; simp [q_cov, z22])) (show (k + 1) ≤ S from (by omega)) _ _ h _ (lv_sub hl [0, 1, 2, 3] rfl)
        · refine lv_lload_n hx hb dX3_coveredBy_25 rfl (lv_at hl 1 rfl) ?_
          refine lv_iload hx hb dX3_coveredBy_26 (lv_at hl 0 rfl) ?_
          refine q_callNl C h (c_X5_setOf l G k (by omega)) ⟨va_cnB 1 hts gX3_coveredBy_X5_setOf_n28 rfl rfl rfl (C.2.2.1.at 5 rfl) iniX5 (by decide +kernel) ⟨Nat.le_of_ble_eq_true rfl, Nat.le_of_ble_eq_true rfl⟩, stX5_setOf, trivial⟩ [] rfl rfl [0, 1] (wr := [(o0, .inr (3, [.ref av, .int (nI S), .int (nI P)])), (av, .inl (G.2.1, 32, .inl vals))]) rfl rfl (by decide) rfl hl.1 rfl (Nat.le_of_ble_eq_true rfl) dX3_coveredBy_28 ⟨Nat.zero_le _, Nat.zero_le _⟩ [0, 1] (w' := [(o0, .inr (3, [.ref av, .int (nI S), .int (nI P)])), (av, .inl (G.2.1, 32, .inl vals))]) rfl rfl (fun H locs h => ?_)
          refine lv_lor hx hb dX3_coveredBy_31 ?_
          refine lv_lstore_n (lv' := [(2, .long (y ||| (q_bit k))), (4, .int (nI k)), (0, .ref o0), (1, .int (nI j))]) hx hb dX3_coveredBy_32 rfl hl (by decide) rfl (fun ls hl => ?_)
          refine lv_iinc (v := nI (k + 1)) (lv' := [(4, .int (nI (k + 1))), (2, .long (y ||| (q_bit k))), (0, .ref o0), (1, .int (nI j))]) hx hb dX3_coveredBy_33 hl (k := 1) rfl (q_inc k) (by decide) rfl (fun ls hl => ?_)
          refine lv_goto (tgt := 5) hx hb dX3_coveredBy_36 (by decide) ?_
          exact ih5 (k + 1) (y ||| (q_bit k)) (by omega) (show (y ||| (q_bit k)) = q_cov j (k + 1) from (by rw [e_y]; simp [q_cov, z22])) (show (k + 1) ≤ S from (by omega)) _ _ h _ (lv_sub hl [0, 1, 2, 3] rfl)
  exact loop5 (S - 0 + 1) 0 0 (Nat.lt_succ_self _) (show 0 = q_cov j 0 from rfl) (show 0 ≤ S from (Nat.zero_le _)) _ _ h _ (lv_sub hl [0, 1, 2, 3] rfl)

set_option maxHeartbeats 4000000 in
set_option maxRecDepth 100000 in
theorem c_X3_valueOfSources (l : Launch) (G : vq_G) (o0 av : Nat) (vals : Nat → Int32) (S P : Nat) (x : Int64) (hS : S ≤ 32) : vq_i l yX3_valueOfSources wsX3_valueOfSources 2 42 G [.ref o0, .long x] [(o0, .inr (3, [.ref av, .int (nI S), .int (nI P)])), (av, .inl (G.2.1, 32, .inl vals))] (q_kv vals x S) [(o0, .inr (3, [.ref av, .int (nI S), .int (nI P)])), (av, .inl (G.2.1, 32, .inl vals))] := by
  refine vq_openi (cc := cX3_valueOfSources) (maxL := 5) (ret := (some .int)) (Ts' := wsX3_valueOfSources.tail) (by decide) rfl (Nat.le_of_ble_eq_true rfl) ?_
  intro p e s m args below meth c A ls C h hnm hl
  have hx := C.1.1
  have hb := C.1.2.1
  have hts := C.1.2.2.2.2
  have hl : lv_has ls 5 [(0, .ref o0), (1, .long x)] := hl
  have f15 := C.1.2.2.2.2 (.fieldLink RX3 15 "FountainCode$Sender" "sources" "I") (by decide +kernel)
  have iX3 : ∀ w ∈ u_ws RX3 TX3 3, w ∈ wsX3_valueOfSources := by decide +kernel
  have f9 := C.1.2.2.2.2 (.fieldLink RX3 9 "FountainCode$Sender" "sourceValues" "[I") (by decide +kernel)
  have iniX5 := C.1.2.2.2.2 (.initialized RX5) (by decide +kernel)
  have stX5_holds := C.1.2.2.2.2 (.static yX5_holds) (by decide +kernel)
  refine lv_iconst (v := nI 0) hx hb dX3_valueOfSources_0 (by decide) ?_
  refine lv_istore_n (lv' := [(3, .int (nI 0)), (0, .ref o0), (1, .long x)]) hx hb dX3_valueOfSources_1 rfl hl (by decide) rfl (fun ls hl => ?_)
  refine lv_iconst (v := nI 0) hx hb dX3_valueOfSources_2 (by decide) ?_
  refine lv_istore (lv' := [(4, .int (nI 0)), (3, .int (nI 0)), (0, .ref o0), (1, .long x)]) hx hb dX3_valueOfSources_3 hl (by decide) rfl (fun ls hl => ?_)
  have loop5 : ∀ (fu : Nat) (k : Nat) (y : Int32), S - k < fu → y = q_kv vals x k → (k ≤ S) → ∀ (H : Heap) (locs : List Loc), vq_H G A s [(o0, .inr (3, [.ref av, .int (nI S), .int (nI P)])), (av, .inl (G.2.1, 32, .inl vals))] H locs → ∀ (ls : Array Slot), lv_has ls 5 [(4, .int (nI k)), (3, .int y), (0, .ref o0), (1, .long x)] → W p l e ({ frames := 2, cells := 0, slots := 0, locals := 42 } : Room) s m args below meth c H locs 0 0 (MQ below (va_Qi (fun zr (_ : Unit) => zr = (q_kv vals x S)) (fun _ => vq_T G A [(o0, .inr (3, [.ref av, .int (nI S), .int (nI P)])), (av, .inl (G.2.1, 32, .inl vals))]) A) args s 0 0 A) (F0 m 5 ls []) := by
    intro fu
    induction fu with
    | zero => exact fun k y hm => absurd hm (Nat.not_lt_zero _)
    | succ fu ih =>
      intro k y hm5 e_y hk H locs h ls hl
      have ih5 := ih
      clear ih
      refine lv_iload hx hb dX3_valueOfSources_5 (lv_at hl 0 rfl) ?_
      refine lv_aload_n hx hb dX3_valueOfSources_7 rfl (lv_at hl 2 rfl) ?_
      refine q_get (Cn := RX3) (T := TX3) (N := 3) (ci := 3) (v := .int (nI S)) C h iX3 0 rfl rfl 1 (by decide) f15 rfl dX3_valueOfSources_8 ?_
      refine q_icmp_ge (tgt := 49) hx hb (by omega) (by omega) dX3_valueOfSources_11 (by decide) (fun z11 => ?_) (fun z11 => ?_)
      · refine lv_iload_n hx hb dX3_valueOfSources_49 rfl (lv_at hl 1 rfl) ?_
        exact q_reti C h rfl (by rw [e_y, show k = S from by omega]) rfl dX3_valueOfSources_50
      · refine lv_iload hx hb dX3_valueOfSources_14 (lv_at hl 0 rfl) ?_
        refine lv_aload_n hx hb dX3_valueOfSources_16 rfl (lv_at hl 2 rfl) ?_
        refine q_get (Cn := RX3) (T := TX3) (N := 3) (ci := 3) (v := .ref av) C h iX3 0 rfl rfl 0 (by decide) f9 rfl dX3_valueOfSources_17 ?_
        refine q_alen (n := 32) C h 1 rfl dX3_valueOfSources_20 ?_
        refine q_icmp_ge (tgt := 49) hx hb (by omega) (by omega) dX3_valueOfSources_21 (by decide) (fun z21 => absurd z21 (by omega)) (fun z21 => ?_)
        refine lv_lload_n hx hb dX3_valueOfSources_24 rfl (lv_at hl 3 rfl) ?_
        refine lv_iload hx hb dX3_valueOfSources_25 (lv_at hl 0 rfl) ?_
        refine q_callNi C h (c_X5_holds l G x k (by omega)) ⟨va_cnB 2 hts gX3_valueOfSources_X5_holds_n43 rfl rfl rfl (C.2.2.1.at 11 rfl) iniX5 (by decide +kernel) ⟨Nat.le_of_ble_eq_true rfl, Nat.le_of_ble_eq_true rfl⟩, stX5_holds, trivial⟩ [] rfl rfl [0, 1] (wr := [(o0, .inr (3, [.ref av, .int (nI S), .int (nI P)])), (av, .inl (G.2.1, 32, .inl vals))]) rfl rfl (by decide) rfl hl.1 rfl (Nat.le_of_ble_eq_true rfl) dX3_valueOfSources_27 ⟨Nat.zero_le _, Nat.zero_le _⟩ [0, 1] (w' := [(o0, .inr (3, [.ref av, .int (nI S), .int (nI P)])), (av, .inl (G.2.1, 32, .inl vals))]) rfl rfl (fun H locs h => ?_)
        refine q_ifb_eq (tgt := 43) hx hb dX3_valueOfSources_30 (by decide) (fun z30 => ?_) (fun z30 => ?_)
        · refine lv_iinc (v := nI (k + 1)) (lv' := [(4, .int (nI (k + 1))), (3, .int y), (0, .ref o0), (1, .long x)]) hx hb dX3_valueOfSources_43 hl (k := 0) rfl (q_inc k) (by decide) rfl (fun ls hl => ?_)
          refine lv_goto (tgt := 5) hx hb dX3_valueOfSources_46 (by decide) ?_
          exact ih5 (k + 1) y (by omega) (show y = q_kv vals x (k + 1) from (by rw [e_y]; simp [q_kv, z30])) (show (k + 1) ≤ S from (by omega)) _ _ h _ (lv_sub hl [0, 1, 2, 3] rfl)
        · refine lv_iload_n hx hb dX3_valueOfSources_33 rfl (lv_at hl 1 rfl) ?_
          refine lv_aload_n hx hb dX3_valueOfSources_34 rfl (lv_at hl 2 rfl) ?_
          refine q_get (Cn := RX3) (T := TX3) (N := 3) (ci := 3) (v := .ref av) C h iX3 0 rfl rfl 0 (by decide) f9 rfl dX3_valueOfSources_35 ?_
          refine lv_iload hx hb dX3_valueOfSources_38 (lv_at hl 0 rfl) ?_
          refine q_iald (i := k) (v := (vals k)) C h 1 rfl (by omega) (by omega) rfl dX3_valueOfSources_40 ?_
          refine lv_ixor hx hb dX3_valueOfSources_41 ?_
          refine lv_istore_n (lv' := [(3, .int (y ^^^ (vals k))), (4, .int (nI k)), (0, .ref o0), (1, .long x)]) hx hb dX3_valueOfSources_42 rfl hl (by decide) rfl (fun ls hl => ?_)
          refine lv_iinc (v := nI (k + 1)) (lv' := [(4, .int (nI (k + 1))), (3, .int (y ^^^ (vals k))), (0, .ref o0), (1, .long x)]) hx hb dX3_valueOfSources_43 hl (k := 1) rfl (q_inc k) (by decide) rfl (fun ls hl => ?_)
          refine lv_goto (tgt := 5) hx hb dX3_valueOfSources_46 (by decide) ?_
          exact ih5 (k + 1) (y ^^^ (vals k)) (by omega) (show (y ^^^ (vals k)) = q_kv vals x (k + 1) from (by rw [e_y]; simp [q_kv, z30])) (show (k + 1) ≤ S from (by omega)) _ _ h _ (lv_sub hl [0, 1, 2, 3] rfl)
  exact loop5 (S - 0 + 1) 0 (nI 0) (Nat.lt_succ_self _) (show (nI 0) = q_kv vals x 0 from rfl) (show 0 ≤ S from (Nat.zero_le _)) _ _ h _ (lv_sub hl [0, 1, 2, 3] rfl)

set_option maxHeartbeats 4000000 in
set_option maxRecDepth 100000 in
theorem c_X3_valueOfBlock (l : Launch) (G : vq_G) (o0 av : Nat) (vals : Nat → Int32) (S P : Nat) (b : Nat) (hS : S ≤ 32) (hP : P ≤ 6) (hb2 : b < S + P) : vq_i l yX3_valueOfBlock wsX3_valueOfBlock 3 66 G [.ref o0, .int (nI b)] [(o0, .inr (3, [.ref av, .int (nI S), .int (nI P)])), (av, .inl (G.2.1, 32, .inl vals))] (q_vb vals S b) [(o0, .inr (3, [.ref av, .int (nI S), .int (nI P)])), (av, .inl (G.2.1, 32, .inl vals))] := by
  refine vq_openi (cc := cX3_valueOfBlock) (maxL := 2) (ret := (some .int)) (Ts' := wsX3_valueOfBlock.tail) (by decide) rfl (Nat.le_of_ble_eq_true rfl) ?_
  intro p e s m args below meth c A ls C h hnm hl
  have hx := C.1.1
  have hb := C.1.2.1
  have hts := C.1.2.2.2.2
  have hl : lv_has ls 2 [(0, .ref o0), (1, .int (nI b))] := hl
  have f15 := C.1.2.2.2.2 (.fieldLink RX3 15 "FountainCode$Sender" "sources" "I") (by decide +kernel)
  have iX3 : ∀ w ∈ u_ws RX3 TX3 3, w ∈ wsX3_valueOfBlock := by decide +kernel
  have iniX5 := C.1.2.2.2.2 (.initialized RX5) (by decide +kernel)
  have stX5_setOf := C.1.2.2.2.2 (.static yX5_setOf) (by decide +kernel)
  refine lv_iload_n hx hb dX3_valueOfBlock_0 rfl (lv_at hl 1 rfl) ?_
  refine lv_aload_n hx hb dX3_valueOfBlock_1 rfl (lv_at hl 0 rfl) ?_
  refine q_get (Cn := RX3) (T := TX3) (N := 3) (ci := 3) (v := .int (nI S)) C h iX3 0 rfl rfl 1 (by decide) f15 rfl dX3_valueOfBlock_2 ?_
  refine q_icmp_lt (tgt := 23) hx hb (by omega) (by omega) dX3_valueOfBlock_5 (by decide) (fun z5 => ?_) (fun z5 => ?_)
  · refine lv_aload_n hx hb dX3_valueOfBlock_23 rfl (lv_at hl 0 rfl) ?_
    refine lv_iload_n hx hb dX3_valueOfBlock_24 rfl (lv_at hl 1 rfl) ?_
    refine q_callNl C h (c_X5_setOf l G b (by omega)) ⟨va_cnB 1 hts gX3_valueOfBlock_X5_setOf_n28 rfl rfl rfl (C.2.2.1.at 5 rfl) iniX5 (by decide +kernel) ⟨Nat.le_of_ble_eq_true rfl, Nat.le_of_ble_eq_true rfl⟩, stX5_setOf, trivial⟩ [] rfl rfl [0, 1] (wr := [(o0, .inr (3, [.ref av, .int (nI S), .int (nI P)])), (av, .inl (G.2.1, 32, .inl vals))]) rfl rfl (by decide) rfl hl.1 rfl (Nat.le_of_ble_eq_true rfl) dX3_valueOfBlock_25 ⟨Nat.zero_le _, Nat.zero_le _⟩ [0, 1] (w' := [(o0, .inr (3, [.ref av, .int (nI S), .int (nI P)])), (av, .inl (G.2.1, 32, .inl vals))]) rfl rfl (fun H locs h => ?_)
    refine q_callVi C h (c_X3_valueOfSources l G o0 av vals S P (q_bit b) (by omega)) (cwV 1 hts gX3_valueOfBlock_X3_valueOfSources rfl rfl rfl (by decide +kernel) ⟨Nat.le_of_ble_eq_true rfl, Nat.le_of_ble_eq_true rfl⟩) [0, 1] rfl rfl [] (wr := []) rfl rfl (by decide) 0 rfl rfl rfl hl.1 rfl (Nat.le_of_ble_eq_true rfl) dX3_valueOfBlock_28 ⟨Nat.zero_le _, Nat.zero_le _⟩ [0, 1] (w' := [(o0, .inr (3, [.ref av, .int (nI S), .int (nI P)])), (av, .inl (G.2.1, 32, .inl vals))]) rfl rfl (fun H locs h => ?_)
    exact q_reti C h rfl (by simp [q_vb, show b < S from by omega]) rfl dX3_valueOfBlock_31
  · refine lv_aload_n hx hb dX3_valueOfBlock_8 rfl (lv_at hl 0 rfl) ?_
    refine lv_aload_n hx hb dX3_valueOfBlock_9 rfl (lv_at hl 0 rfl) ?_
    refine lv_iload_n hx hb dX3_valueOfBlock_10 rfl (lv_at hl 1 rfl) ?_
    refine lv_aload_n hx hb dX3_valueOfBlock_11 rfl (lv_at hl 0 rfl) ?_
    refine q_get (Cn := RX3) (T := TX3) (N := 3) (ci := 3) (v := .int (nI S)) C h iX3 0 rfl rfl 1 (by decide) f15 rfl dX3_valueOfBlock_12 ?_
    refine q_isub hx hb (by omega) dX3_valueOfBlock_15 ?_
    refine q_callVl C h (c_X3_coveredBy l G o0 av vals S P (b - S) (by omega) (by omega)) (cwV 1 hts gX3_valueOfBlock_X3_coveredBy rfl rfl rfl (by decide +kernel) ⟨Nat.le_of_ble_eq_true rfl, Nat.le_of_ble_eq_true rfl⟩) [0, 1] rfl rfl [] (wr := []) rfl rfl (by decide) 0 rfl rfl rfl hl.1 rfl (Nat.le_of_ble_eq_true rfl) dX3_valueOfBlock_16 ⟨Nat.zero_le _, Nat.zero_le _⟩ [0, 1] (w' := [(o0, .inr (3, [.ref av, .int (nI S), .int (nI P)])), (av, .inl (G.2.1, 32, .inl vals))]) rfl rfl (fun H locs h => ?_)
    refine q_callVi C h (c_X3_valueOfSources l G o0 av vals S P (q_cov (b - S) S) (by omega)) (cwV 1 hts gX3_valueOfBlock_X3_valueOfSources rfl rfl rfl (by decide +kernel) ⟨Nat.le_of_ble_eq_true rfl, Nat.le_of_ble_eq_true rfl⟩) [0, 1] rfl rfl [] (wr := []) rfl rfl (by decide) 0 rfl rfl rfl hl.1 rfl (Nat.le_of_ble_eq_true rfl) dX3_valueOfBlock_19 ⟨Nat.zero_le _, Nat.zero_le _⟩ [0, 1] (w' := [(o0, .inr (3, [.ref av, .int (nI S), .int (nI P)])), (av, .inl (G.2.1, 32, .inl vals))]) rfl rfl (fun H locs h => ?_)
    exact q_reti C h rfl (by simp [q_vb, show ¬ b < S from by omega]) rfl dX3_valueOfBlock_22

set_option maxHeartbeats 4000000 in
set_option maxRecDepth 100000 in
theorem c_X3_valueOfSet (l : Launch) (G : vq_G) (o0 av : Nat) (vals : Nat → Int32) (S P : Nat) (x : Int64) (hS : S ≤ 32) (hP : P ≤ 6) : vq_i l yX3_valueOfSet wsX3_valueOfSet 4 87 G [.ref o0, .long x] [(o0, .inr (3, [.ref av, .int (nI S), .int (nI P)])), (av, .inl (G.2.1, 32, .inl vals))] (q_vs vals S x P) [(o0, .inr (3, [.ref av, .int (nI S), .int (nI P)])), (av, .inl (G.2.1, 32, .inl vals))] := by
  refine vq_openi (cc := cX3_valueOfSet) (maxL := 5) (ret := (some .int)) (Ts' := wsX3_valueOfSet.tail) (by decide) rfl (Nat.le_of_ble_eq_true rfl) ?_
  intro p e s m args below meth c A ls C h hnm hl
  have hx := C.1.1
  have hb := C.1.2.1
  have hts := C.1.2.2.2.2
  have hl : lv_has ls 5 [(0, .ref o0), (1, .long x)] := hl
  have f15 := C.1.2.2.2.2 (.fieldLink RX3 15 "FountainCode$Sender" "sources" "I") (by decide +kernel)
  have iX3 : ∀ w ∈ u_ws RX3 TX3 3, w ∈ wsX3_valueOfSet := by decide +kernel
  have iniX5 := C.1.2.2.2.2 (.initialized RX5) (by decide +kernel)
  have stX5_holds := C.1.2.2.2.2 (.static yX5_holds) (by decide +kernel)
  refine lv_aload_n hx hb dX3_valueOfSet_0 rfl (lv_at hl 0 rfl) ?_
  refine lv_lload_n hx hb dX3_valueOfSet_1 rfl (lv_at hl 1 rfl) ?_
  refine q_callVi C h (c_X3_valueOfSources l G o0 av vals S P x (by omega)) (cwV 1 hts gX3_valueOfSet_X3_valueOfSources rfl rfl rfl (by decide +kernel) ⟨Nat.le_of_ble_eq_true rfl, Nat.le_of_ble_eq_true rfl⟩) [0, 1] rfl rfl [] (wr := []) rfl rfl (by decide) 0 rfl rfl rfl hl.1 rfl (Nat.le_of_ble_eq_true rfl) dX3_valueOfSet_2 ⟨Nat.zero_le _, Nat.zero_le _⟩ [0, 1] (w' := [(o0, .inr (3, [.ref av, .int (nI S), .int (nI P)])), (av, .inl (G.2.1, 32, .inl vals))]) rfl rfl (fun H locs h => ?_)
  refine lv_istore_n (lv' := [(3, .int (q_kv vals x S)), (0, .ref o0), (1, .long x)]) hx hb dX3_valueOfSet_5 rfl hl (by decide) rfl (fun ls hl => ?_)
  refine lv_aload_n hx hb dX3_valueOfSet_6 rfl (lv_at hl 1 rfl) ?_
  refine q_get (Cn := RX3) (T := TX3) (N := 3) (ci := 3) (v := .int (nI S)) C h iX3 0 rfl rfl 1 (by decide) f15 rfl dX3_valueOfSet_7 ?_
  refine lv_istore (lv' := [(4, .int (nI S)), (3, .int (q_kv vals x S)), (0, .ref o0), (1, .long x)]) hx hb dX3_valueOfSet_10 hl (by decide) rfl (fun ls hl => ?_)
  have loop12 : ∀ (fu : Nat) (k : Nat) (y : Int32), S + P - k < fu → y = q_vs vals S x (k - S) → (k ≤ S + P) → (S ≤ k) → ∀ (H : Heap) (locs : List Loc), vq_H G A s [(o0, .inr (3, [.ref av, .int (nI S), .int (nI P)])), (av, .inl (G.2.1, 32, .inl vals))] H locs → ∀ (ls : Array Slot), lv_has ls 5 [(4, .int (nI k)), (3, .int y), (0, .ref o0), (1, .long x)] → W p l e ({ frames := 4, cells := 0, slots := 0, locals := 87 } : Room) s m args below meth c H locs 0 0 (MQ below (va_Qi (fun zr (_ : Unit) => zr = (q_vs vals S x P)) (fun _ => vq_T G A [(o0, .inr (3, [.ref av, .int (nI S), .int (nI P)])), (av, .inl (G.2.1, 32, .inl vals))]) A) args s 0 0 A) (F0 m 12 ls []) := by
    intro fu
    induction fu with
    | zero => exact fun k y hm => absurd hm (Nat.not_lt_zero _)
    | succ fu ih =>
      intro k y hm12 e_y hk hk2 H locs h ls hl
      have ih12 := ih
      clear ih
      refine lv_iload hx hb dX3_valueOfSet_12 (lv_at hl 0 rfl) ?_
      refine lv_aload_n hx hb dX3_valueOfSet_14 rfl (lv_at hl 2 rfl) ?_
      refine q_callVi C h (c_X3_blockCount l G o0 av vals S P) (cwV 0 hts gX3_valueOfSet_X3_blockCount rfl rfl rfl (by decide +kernel) ⟨Nat.le_of_ble_eq_true rfl, Nat.le_of_ble_eq_true rfl⟩) [0, 1] rfl rfl [] (wr := []) rfl rfl (by decide) 0 rfl rfl rfl hl.1 rfl (Nat.le_of_ble_eq_true rfl) dX3_valueOfSet_15 ⟨Nat.zero_le _, Nat.zero_le _⟩ [0, 1] (w' := [(o0, .inr (3, [.ref av, .int (nI S), .int (nI P)])), (av, .inl (G.2.1, 32, .inl vals))]) rfl rfl (fun H locs h => ?_)
      refine q_icmp_ge (tgt := 45) hx hb (by omega) (by omega) dX3_valueOfSet_18 (by decide) (fun z18 => ?_) (fun z18 => ?_)
      · refine lv_iload_n hx hb dX3_valueOfSet_45 rfl (lv_at hl 1 rfl) ?_
        exact q_reti C h rfl (by rw [e_y, show k - S = P from by omega]) rfl dX3_valueOfSet_46
      · refine lv_lload_n hx hb dX3_valueOfSet_21 rfl (lv_at hl 3 rfl) ?_
        refine lv_iload hx hb dX3_valueOfSet_22 (lv_at hl 0 rfl) ?_
        refine q_callNi C h (c_X5_holds l G x k (by omega)) ⟨va_cnB 2 hts gX3_valueOfSet_X5_holds_n43 rfl rfl rfl (C.2.2.1.at 11 rfl) iniX5 (by decide +kernel) ⟨Nat.le_of_ble_eq_true rfl, Nat.le_of_ble_eq_true rfl⟩, stX5_holds, trivial⟩ [] rfl rfl [0, 1] (wr := [(o0, .inr (3, [.ref av, .int (nI S), .int (nI P)])), (av, .inl (G.2.1, 32, .inl vals))]) rfl rfl (by decide) rfl hl.1 rfl (Nat.le_of_ble_eq_true rfl) dX3_valueOfSet_24 ⟨Nat.zero_le _, Nat.zero_le _⟩ [0, 1] (w' := [(o0, .inr (3, [.ref av, .int (nI S), .int (nI P)])), (av, .inl (G.2.1, 32, .inl vals))]) rfl rfl (fun H locs h => ?_)
        refine q_ifb_eq (tgt := 39) hx hb dX3_valueOfSet_27 (by decide) (fun z27 => ?_) (fun z27 => ?_)
        · refine lv_iinc (v := nI (k + 1)) (lv' := [(4, .int (nI (k + 1))), (3, .int y), (0, .ref o0), (1, .long x)]) hx hb dX3_valueOfSet_39 hl (k := 0) rfl (q_inc k) (by decide) rfl (fun ls hl => ?_)
          refine lv_goto (tgt := 12) hx hb dX3_valueOfSet_42 (by decide) ?_
          exact ih12 (k + 1) y (by omega) (show y = q_vs vals S x ((k + 1) - S) from (by rw [e_y, show k + 1 - S = (k - S) + 1 from by omega]; simp [q_vs, show S + (k - S) = k from by omega, z27])) (show (k + 1) ≤ S + P from (by omega)) (show S ≤ (k + 1) from (by omega)) _ _ h _ (lv_sub hl [0, 1, 2, 3] rfl)
        · refine lv_iload_n hx hb dX3_valueOfSet_30 rfl (lv_at hl 1 rfl) ?_
          refine lv_aload_n hx hb dX3_valueOfSet_31 rfl (lv_at hl 2 rfl) ?_
          refine lv_iload hx hb dX3_valueOfSet_32 (lv_at hl 0 rfl) ?_
          refine q_callVi C h (c_X3_valueOfBlock l G o0 av vals S P k (by omega) (by omega) (by omega)) (cwV 1 hts gX3_valueOfSet_X3_valueOfBlock rfl rfl rfl (by decide +kernel) ⟨Nat.le_of_ble_eq_true rfl, Nat.le_of_ble_eq_true rfl⟩) [0, 1] rfl rfl [] (wr := []) rfl rfl (by decide) 0 rfl rfl rfl hl.1 rfl (Nat.le_of_ble_eq_true rfl) dX3_valueOfSet_34 ⟨Nat.zero_le _, Nat.zero_le _⟩ [0, 1] (w' := [(o0, .inr (3, [.ref av, .int (nI S), .int (nI P)])), (av, .inl (G.2.1, 32, .inl vals))]) rfl rfl (fun H locs h => ?_)
          refine lv_ixor hx hb dX3_valueOfSet_37 ?_
          refine lv_istore_n (lv' := [(3, .int (y ^^^ (q_vb vals S k))), (4, .int (nI k)), (0, .ref o0), (1, .long x)]) hx hb dX3_valueOfSet_38 rfl hl (by decide) rfl (fun ls hl => ?_)
          refine lv_iinc (v := nI (k + 1)) (lv' := [(4, .int (nI (k + 1))), (3, .int (y ^^^ (q_vb vals S k))), (0, .ref o0), (1, .long x)]) hx hb dX3_valueOfSet_39 hl (k := 1) rfl (q_inc k) (by decide) rfl (fun ls hl => ?_)
          refine lv_goto (tgt := 12) hx hb dX3_valueOfSet_42 (by decide) ?_
          exact ih12 (k + 1) (y ^^^ (q_vb vals S k)) (by omega) (show (y ^^^ (q_vb vals S k)) = q_vs vals S x ((k + 1) - S) from (by rw [e_y, show k + 1 - S = (k - S) + 1 from by omega]; simp [q_vs, show S + (k - S) = k from by omega, z27])) (show (k + 1) ≤ S + P from (by omega)) (show S ≤ (k + 1) from (by omega)) _ _ h _ (lv_sub hl [0, 1, 2, 3] rfl)
  exact loop12 (S + P - S + 1) S (q_kv vals x S) (Nat.lt_succ_self _) (show (q_kv vals x S) = q_vs vals S x (S - S) from (by rw [Nat.sub_self]; rfl)) (show S ≤ S + P from (by omega)) (show S ≤ S from (Nat.le_refl _)) _ _ h _ (lv_sub hl [0, 1, 2, 3] rfl)

set_option maxHeartbeats 4000000 in
set_option maxRecDepth 100000 in
theorem c_X0_size (l : Launch) (G : vq_G) (o0 ad : Nat) (gen : Int64) (sz : Nat) (bs : Int64) (row : Nat → Nat) : vq_i l yX0_size wsX0_size 0 0 G [.ref o0] [(o0, .inr (0, [.ref ad, .long gen, .int (nI sz), .long bs])), (ad, .inl (G.2.1, 38, .inl (fun zz => nI (row zz))))] (nI sz) [(o0, .inr (0, [.ref ad, .long gen, .int (nI sz), .long bs])), (ad, .inl (G.2.1, 38, .inl (fun zz => nI (row zz))))] := by
  refine vq_openi (cc := cX0_size) (maxL := 1) (ret := (some .int)) (Ts' := wsX0_size.tail) (by decide) rfl (Nat.le_of_ble_eq_true rfl) ?_
  intro p e s m args below meth c A ls C h hnm hl
  have hx := C.1.1
  have hb := C.1.2.1
  have hts := C.1.2.2.2.2
  have hl : lv_has ls 1 [(0, .ref o0)] := hl
  have f38 := C.1.2.2.2.2 (.fieldLink RX0 38 "FountainCode$Drop" "size" "I") (by decide +kernel)
  have iX0 : ∀ w ∈ u_ws RX0 TX0 4, w ∈ wsX0_size := by decide +kernel
  refine lv_aload_n hx hb dX0_size_0 rfl (lv_at hl 0 rfl) ?_
  refine q_get (Cn := RX0) (T := TX0) (N := 4) (ci := 0) (v := .int (nI sz)) C h iX0 0 rfl rfl 2 (by decide) f38 rfl dX0_size_1 ?_
  exact q_reti C h rfl rfl rfl dX0_size_4

set_option maxHeartbeats 4000000 in
set_option maxRecDepth 100000 in
theorem c_X0_blockSet (l : Launch) (G : vq_G) (o0 ad : Nat) (gen : Int64) (sz : Nat) (bs : Int64) (row : Nat → Nat) : vq_l l yX0_blockSet wsX0_blockSet 0 0 G [.ref o0] [(o0, .inr (0, [.ref ad, .long gen, .int (nI sz), .long bs])), (ad, .inl (G.2.1, 38, .inl (fun zz => nI (row zz))))] bs [(o0, .inr (0, [.ref ad, .long gen, .int (nI sz), .long bs])), (ad, .inl (G.2.1, 38, .inl (fun zz => nI (row zz))))] := by
  refine vq_openl (cc := cX0_blockSet) (maxL := 1) (ret := (some .long)) (Ts' := wsX0_blockSet.tail) (by decide) rfl (Nat.le_of_ble_eq_true rfl) ?_
  intro p e s m args below meth c A ls C h hnm hl
  have hx := C.1.1
  have hb := C.1.2.1
  have hts := C.1.2.2.2.2
  have hl : lv_has ls 1 [(0, .ref o0)] := hl
  have f46 := C.1.2.2.2.2 (.fieldLink RX0 46 "FountainCode$Drop" "blockSet" "J") (by decide +kernel)
  have iX0 : ∀ w ∈ u_ws RX0 TX0 4, w ∈ wsX0_blockSet := by decide +kernel
  refine lv_aload_n hx hb dX0_blockSet_0 rfl (lv_at hl 0 rfl) ?_
  refine q_get (Cn := RX0) (T := TX0) (N := 4) (ci := 0) (v := .long bs) C h iX0 0 rfl rfl 3 (by decide) f46 rfl dX0_blockSet_1 ?_
  exact q_retl C h rfl rfl rfl dX0_blockSet_4

set_option maxHeartbeats 4000000 in
set_option maxRecDepth 100000 in
theorem c_X0_blockInPlace (l : Launch) (G : vq_G) (o0 ad : Nat) (gen : Int64) (sz : Nat) (bs : Int64) (row : Nat → Nat) (i : Nat) (hi : i < 38) : vq_i l yX0_blockInPlace wsX0_blockInPlace 0 0 G [.ref o0, .int (nI i)] [(o0, .inr (0, [.ref ad, .long gen, .int (nI sz), .long bs])), (ad, .inl (G.2.1, 38, .inl (fun zz => nI (row zz))))] (nI (row i)) [(o0, .inr (0, [.ref ad, .long gen, .int (nI sz), .long bs])), (ad, .inl (G.2.1, 38, .inl (fun zz => nI (row zz))))] := by
  refine vq_openi (cc := cX0_blockInPlace) (maxL := 2) (ret := (some .int)) (Ts' := wsX0_blockInPlace.tail) (by decide) rfl (Nat.le_of_ble_eq_true rfl) ?_
  intro p e s m args below meth c A ls C h hnm hl
  have hx := C.1.1
  have hb := C.1.2.1
  have hts := C.1.2.2.2.2
  have hl : lv_has ls 2 [(0, .ref o0), (1, .int (nI i))] := hl
  have f9 := C.1.2.2.2.2 (.fieldLink RX0 9 "FountainCode$Drop" "row" "[I") (by decide +kernel)
  have iX0 : ∀ w ∈ u_ws RX0 TX0 4, w ∈ wsX0_blockInPlace := by decide +kernel
  refine lv_iload_n hx hb dX0_blockInPlace_0 rfl (lv_at hl 1 rfl) ?_
  refine q_if_lt (tgt := 22) hx hb (by omega) dX0_blockInPlace_1 (by decide) (fun z1 => absurd z1 (by omega)) (fun z1 => ?_)
  refine lv_iload_n hx hb dX0_blockInPlace_4 rfl (lv_at hl 1 rfl) ?_
  refine lv_aload_n hx hb dX0_blockInPlace_5 rfl (lv_at hl 0 rfl) ?_
  refine q_get (Cn := RX0) (T := TX0) (N := 4) (ci := 0) (v := .ref ad) C h iX0 0 rfl rfl 0 (by decide) f9 rfl dX0_blockInPlace_6 ?_
  refine q_alen (n := 38) C h 1 rfl dX0_blockInPlace_9 ?_
  refine q_icmp_ge (tgt := 22) hx hb (by omega) (by omega) dX0_blockInPlace_10 (by decide) (fun z10 => absurd z10 (by omega)) (fun z10 => ?_)
  refine lv_aload_n hx hb dX0_blockInPlace_13 rfl (lv_at hl 0 rfl) ?_
  refine q_get (Cn := RX0) (T := TX0) (N := 4) (ci := 0) (v := .ref ad) C h iX0 0 rfl rfl 0 (by decide) f9 rfl dX0_blockInPlace_14 ?_
  refine lv_iload_n hx hb dX0_blockInPlace_17 rfl (lv_at hl 1 rfl) ?_
  refine q_iald (i := i) (v := (nI (row i))) C h 1 rfl (by omega) (by omega) rfl dX0_blockInPlace_18 ?_
  refine lv_goto (tgt := 23) hx hb dX0_blockInPlace_19 (by decide) ?_
  exact q_reti C h rfl rfl rfl dX0_blockInPlace_23

set_option maxHeartbeats 4000000 in
set_option maxRecDepth 100000 in
theorem c_X0_numberBelow (l : Launch) (G : vq_G) (o0 ad : Nat) (gen : Int64) (sz : Nat) (bs : Int64) (row : Nat → Nat) (n : Nat) (h0 : 0 < n) (hn : n < 2 ^ 31) : vq_i l yX0_numberBelow wsX0_numberBelow 0 0 G [.ref o0, .int (nI n)] [(o0, .inr (0, [.ref ad, .long gen, .int (nI sz), .long bs])), (ad, .inl (G.2.1, 38, .inl (fun zz => nI (row zz))))] (nI (q_hi (q_step gen) % n)) [(o0, .inr (0, [.ref ad, .long (q_step gen), .int (nI sz), .long bs])), (ad, .inl (G.2.1, 38, .inl (fun zz => nI (row zz))))] := by
  refine vq_openi (cc := cX0_numberBelow) (maxL := 2) (ret := (some .int)) (Ts' := wsX0_numberBelow.tail) (by decide) rfl (Nat.le_of_ble_eq_true rfl) ?_
  intro p e s m args below meth c A ls C h hnm hl
  have hx := C.1.1
  have hb := C.1.2.1
  have hts := C.1.2.2.2.2
  have hl : lv_has ls 2 [(0, .ref o0), (1, .int (nI n))] := hl
  have f15 := C.1.2.2.2.2 (.fieldLink RX0 15 "FountainCode$Drop" "generator" "J") (by decide +kernel)
  have iX0 : ∀ w ∈ u_ws RX0 TX0 4, w ∈ wsX0_numberBelow := by decide +kernel
  have k57 := C.1.2.2.2.2 (.constantLong RX0 57 (6364136223846793005)) (by decide +kernel)
  have k59 := C.1.2.2.2.2 (.constantLong RX0 59 (1442695040888963407)) (by decide +kernel)
  refine lv_aload_n hx hb dX0_numberBelow_0 rfl (lv_at hl 0 rfl) ?_
  refine lv_aload_n hx hb dX0_numberBelow_1 rfl (lv_at hl 0 rfl) ?_
  refine q_get (Cn := RX0) (T := TX0) (N := 4) (ci := 0) (v := .long gen) C h iX0 0 rfl rfl 1 (by decide) f15 rfl dX0_numberBelow_2 ?_
  refine q_ldc2 C k57 dX0_numberBelow_5 ?_
  refine lv_lmul hx hb dX0_numberBelow_8 ?_
  refine q_ldc2 C k59 dX0_numberBelow_9 ?_
  refine lv_ladd hx hb dX0_numberBelow_12 ?_
  refine q_top (v' := .long (q_step gen)) rfl ?_
  refine q_put (Cn := RX0) (T := TX0) (N := 4) (ci := 0) (v := .long (q_step gen)) (w' := [(o0, .inr (0, [.ref ad, .long (q_step gen), .int (nI sz), .long bs])), (ad, .inl (G.2.1, 38, .inl (fun zz => nI (row zz))))]) C h iX0 tyX0 tyX0_ok nmX0 0 rfl rfl 1 (by decide) f15 rfl rfl rfl (Nat.le_of_ble_eq_true rfl) dX0_numberBelow_13 rfl (fun H locs h => ?_)
  refine lv_iload_n hx hb dX0_numberBelow_16 rfl (lv_at hl 1 rfl) ?_
  refine q_if_gt (tgt := 22) hx hb (by omega) dX0_numberBelow_17 (by decide) (fun z17 => ?_) (fun z17 => absurd z17 (by omega))
  refine lv_aload_n hx hb dX0_numberBelow_22 rfl (lv_at hl 0 rfl) ?_
  refine q_get (Cn := RX0) (T := TX0) (N := 4) (ci := 0) (v := .long (q_step gen)) C h iX0 0 rfl rfl 1 (by decide) f15 rfl dX0_numberBelow_23 ?_
  refine lv_bipush (v := nI 33) hx hb dX0_numberBelow_26 (by decide) ?_
  refine lv_lushr (v := lN (q_hi (q_step gen))) hx hb dX0_numberBelow_28 (q_ushr33 _) ?_
  refine lv_iload_n hx hb dX0_numberBelow_29 rfl (lv_at hl 1 rfl) ?_
  refine lv_i2l (v := lN n) hx hb dX0_numberBelow_30 (nI_l hn) ?_
  refine lv_lrem hx hb dX0_numberBelow_31 (q_lN0 h0 hn) ?_
  refine q_top (v' := .long (lN (q_hi (q_step gen) % n))) (congrArg Value.long (pk_lRem (Nat.lt_trans (q_hi_lt _) (by decide)) h0 (Nat.lt_trans hn (by decide)))) ?_
  refine lv_l2i (v := nI (q_hi (q_step gen) % n)) hx hb dX0_numberBelow_32 (lN_i _) ?_
  exact q_reti C h rfl rfl rfl dX0_numberBelow_33

set_option maxHeartbeats 4000000 in
set_option maxRecDepth 100000 in
theorem c_X0_lineUp (l : Launch) (G : vq_G) (o0 ad : Nat) (gen : Int64) (sz : Nat) (bs : Int64) (row : Nat → Nat) (B : Nat) (hB : B ≤ 38) : vq_v l yX0_lineUp wsX0_lineUp 0 0 G [.ref o0, .int (nI B)] [(o0, .inr (0, [.ref ad, .long gen, .int (nI sz), .long bs])), (ad, .inl (G.2.1, 38, .inl (fun zz => nI (row zz))))]  [(o0, .inr (0, [.ref ad, .long gen, .int (nI sz), .long bs])), (ad, .inl (G.2.1, 38, .inl (fun zz => nI ((q_line row B) zz))))] := by
  refine vq_openv (cc := cX0_lineUp) (maxL := 3) (ret := none) (Ts' := wsX0_lineUp.tail) (by decide) rfl (Nat.le_of_ble_eq_true rfl) ?_
  intro p e s m args below meth c A ls C h hnm hl
  have hx := C.1.1
  have hb := C.1.2.1
  have hts := C.1.2.2.2.2
  have hl : lv_has ls 3 [(0, .ref o0), (1, .int (nI B))] := hl
  have f9 := C.1.2.2.2.2 (.fieldLink RX0 9 "FountainCode$Drop" "row" "[I") (by decide +kernel)
  have iX0 : ∀ w ∈ u_ws RX0 TX0 4, w ∈ wsX0_lineUp := by decide +kernel
  refine lv_iconst (v := nI 0) hx hb dX0_lineUp_0 (by decide) ?_
  refine lv_istore_n (lv' := [(2, .int (nI 0)), (0, .ref o0), (1, .int (nI B))]) hx hb dX0_lineUp_1 rfl hl (by decide) rfl (fun ls hl => ?_)
  have loop2 : ∀ (fu : Nat) (k : Nat) (g : Nat → Nat), B - k < fu → g = q_line row k → (k ≤ B) → ∀ (H : Heap) (locs : List Loc), vq_H G A s [(o0, .inr (0, [.ref ad, .long gen, .int (nI sz), .long bs])), (ad, .inl (G.2.1, 38, .inl (fun zz => nI (g zz))))] H locs → ∀ (ls : Array Slot), lv_has ls 3 [(2, .int (nI k)), (0, .ref o0), (1, .int (nI B))] → W p l e ({ frames := 0, cells := 0, slots := 0, locals := 0 } : Room) s m args below meth c H locs 0 0 (MQ below (va_Qv (fun (_ : Unit) => True) (fun _ => vq_T G A [(o0, .inr (0, [.ref ad, .long gen, .int (nI sz), .long bs])), (ad, .inl (G.2.1, 38, .inl (fun zz => nI ((q_line row B) zz))))]) A) args s 0 0 A) (F0 m 2 ls []) := by
    intro fu
    induction fu with
    | zero => exact fun k g hm => absurd hm (Nat.not_lt_zero _)
    | succ fu ih =>
      intro k g hm2 e_g hk H locs h ls hl
      have ih2 := ih
      clear ih
      refine lv_iload_n hx hb dX0_lineUp_2 rfl (lv_at hl 0 rfl) ?_
      refine lv_iload_n hx hb dX0_lineUp_3 rfl (lv_at hl 2 rfl) ?_
      refine q_icmp_ge (tgt := 29) hx hb (by omega) (by omega) dX0_lineUp_4 (by decide) (fun z4 => ?_) (fun z4 => ?_)
      · exact q_retv C h rfl (by rw [e_g, show k = B from by omega]) dX0_lineUp_29
      · refine lv_iload_n hx hb dX0_lineUp_7 rfl (lv_at hl 0 rfl) ?_
        refine lv_aload_n hx hb dX0_lineUp_8 rfl (lv_at hl 1 rfl) ?_
        refine q_get (Cn := RX0) (T := TX0) (N := 4) (ci := 0) (v := .ref ad) C h iX0 0 rfl rfl 0 (by decide) f9 rfl dX0_lineUp_9 ?_
        refine q_alen (n := 38) C h 1 rfl dX0_lineUp_12 ?_
        refine q_icmp_ge (tgt := 29) hx hb (by omega) (by omega) dX0_lineUp_13 (by decide) (fun z13 => absurd z13 (by omega)) (fun z13 => ?_)
        refine lv_aload_n hx hb dX0_lineUp_16 rfl (lv_at hl 1 rfl) ?_
        refine q_get (Cn := RX0) (T := TX0) (N := 4) (ci := 0) (v := .ref ad) C h iX0 0 rfl rfl 0 (by decide) f9 rfl dX0_lineUp_17 ?_
        refine lv_iload_n hx hb dX0_lineUp_20 rfl (lv_at hl 0 rfl) ?_
        refine lv_iload_n hx hb dX0_lineUp_21 rfl (lv_at hl 0 rfl) ?_
        refine q_iast (i := k) (g := (fun zz => nI ((va_up g k k) zz))) (w' := [(o0, .inr (0, [.ref ad, .long gen, .int (nI sz), .long bs])), (ad, .inl (G.2.1, 38, .inl (fun zz => nI ((va_up g k k) zz))))]) C h 1 rfl (by omega) (by omega) (q_upN _ _ _) rfl dX0_lineUp_22 (fun H locs h => ?_)
        refine lv_iinc (v := nI (k + 1)) (lv' := [(2, .int (nI (k + 1))), (0, .ref o0), (1, .int (nI B))]) hx hb dX0_lineUp_23 hl (k := 0) rfl (q_inc k) (by decide) rfl (fun ls hl => ?_)
        refine lv_goto (tgt := 2) hx hb dX0_lineUp_26 (by decide) ?_
        exact ih2 (k + 1) (va_up g k k) (by omega) (show (va_up g k k) = q_line row (k + 1) from (by rw [e_g]; exact q_line_1 row k)) (show (k + 1) ≤ B from (by omega)) _ _ h _ (lv_sub hl [0, 1, 2] rfl)
  exact loop2 (B - 0 + 1) 0 row (Nat.lt_succ_self _) (show row = q_line row 0 from (q_line_0 row)) (show 0 ≤ B from (Nat.zero_le _)) _ _ h _ (lv_sub hl [0, 1, 2] rfl)

set_option maxHeartbeats 4000000 in
set_option maxRecDepth 100000 in
theorem c_X0_swap (l : Launch) (G : vq_G) (o0 ad : Nat) (gen : Int64) (sz : Nat) (bs : Int64) (row : Nat → Nat) (i j : Nat) (hi : i < 38) (hj : j < 38) : vq_v l yX0_swap wsX0_swap 0 0 G [.ref o0, .int (nI i), .int (nI j)] [(o0, .inr (0, [.ref ad, .long gen, .int (nI sz), .long bs])), (ad, .inl (G.2.1, 38, .inl (fun zz => nI (row zz))))]  [(o0, .inr (0, [.ref ad, .long gen, .int (nI sz), .long bs])), (ad, .inl (G.2.1, 38, .inl (fun zz => nI ((va_up (va_up row i (row j)) j (row i)) zz))))] := by
  refine vq_openv (cc := cX0_swap) (maxL := 4) (ret := none) (Ts' := wsX0_swap.tail) (by decide) rfl (Nat.le_of_ble_eq_true rfl) ?_
  intro p e s m args below meth c A ls C h hnm hl
  have hx := C.1.1
  have hb := C.1.2.1
  have hts := C.1.2.2.2.2
  have hl : lv_has ls 4 [(0, .ref o0), (1, .int (nI i)), (2, .int (nI j))] := hl
  have f9 := C.1.2.2.2.2 (.fieldLink RX0 9 "FountainCode$Drop" "row" "[I") (by decide +kernel)
  have iX0 : ∀ w ∈ u_ws RX0 TX0 4, w ∈ wsX0_swap := by decide +kernel
  refine lv_iload_n hx hb dX0_swap_0 rfl (lv_at hl 1 rfl) ?_
  refine q_if_lt (tgt := 26) hx hb (by omega) dX0_swap_1 (by decide) (fun z1 => absurd z1 (by omega)) (fun z1 => ?_)
  refine lv_iload_n hx hb dX0_swap_4 rfl (lv_at hl 1 rfl) ?_
  refine lv_aload_n hx hb dX0_swap_5 rfl (lv_at hl 0 rfl) ?_
  refine q_get (Cn := RX0) (T := TX0) (N := 4) (ci := 0) (v := .ref ad) C h iX0 0 rfl rfl 0 (by decide) f9 rfl dX0_swap_6 ?_
  refine q_alen (n := 38) C h 1 rfl dX0_swap_9 ?_
  refine q_icmp_ge (tgt := 26) hx hb (by omega) (by omega) dX0_swap_10 (by decide) (fun z10 => absurd z10 (by omega)) (fun z10 => ?_)
  refine lv_iload_n hx hb dX0_swap_13 rfl (lv_at hl 2 rfl) ?_
  refine q_if_lt (tgt := 26) hx hb (by omega) dX0_swap_14 (by decide) (fun z14 => absurd z14 (by omega)) (fun z14 => ?_)
  refine lv_iload_n hx hb dX0_swap_17 rfl (lv_at hl 2 rfl) ?_
  refine lv_aload_n hx hb dX0_swap_18 rfl (lv_at hl 0 rfl) ?_
  refine q_get (Cn := RX0) (T := TX0) (N := 4) (ci := 0) (v := .ref ad) C h iX0 0 rfl rfl 0 (by decide) f9 rfl dX0_swap_19 ?_
  refine q_alen (n := 38) C h 1 rfl dX0_swap_22 ?_
  refine q_icmp_lt (tgt := 27) hx hb (by omega) (by omega) dX0_swap_23 (by decide) (fun z23 => ?_) (fun z23 => absurd z23 (by omega))
  refine lv_aload_n hx hb dX0_swap_27 rfl (lv_at hl 0 rfl) ?_
  refine q_get (Cn := RX0) (T := TX0) (N := 4) (ci := 0) (v := .ref ad) C h iX0 0 rfl rfl 0 (by decide) f9 rfl dX0_swap_28 ?_
  refine lv_iload_n hx hb dX0_swap_31 rfl (lv_at hl 1 rfl) ?_
  refine q_iald (i := i) (v := (nI (row i))) C h 1 rfl (by omega) (by omega) rfl dX0_swap_32 ?_
  refine lv_istore_n (lv' := [(3, .int (nI (row i))), (0, .ref o0), (1, .int (nI i)), (2, .int (nI j))]) hx hb dX0_swap_33 rfl hl (by decide) rfl (fun ls hl => ?_)
  refine lv_aload_n hx hb dX0_swap_34 rfl (lv_at hl 1 rfl) ?_
  refine q_get (Cn := RX0) (T := TX0) (N := 4) (ci := 0) (v := .ref ad) C h iX0 0 rfl rfl 0 (by decide) f9 rfl dX0_swap_35 ?_
  refine lv_iload_n hx hb dX0_swap_38 rfl (lv_at hl 2 rfl) ?_
  refine lv_aload_n hx hb dX0_swap_39 rfl (lv_at hl 1 rfl) ?_
  refine q_get (Cn := RX0) (T := TX0) (N := 4) (ci := 0) (v := .ref ad) C h iX0 0 rfl rfl 0 (by decide) f9 rfl dX0_swap_40 ?_
  refine lv_iload_n hx hb dX0_swap_43 rfl (lv_at hl 3 rfl) ?_
  refine q_iald (i := j) (v := (nI (row j))) C h 1 rfl (by omega) (by omega) rfl dX0_swap_44 ?_
  refine q_iast (i := i) (g := (fun zz => nI ((va_up row i (row j)) zz))) (w' := [(o0, .inr (0, [.ref ad, .long gen, .int (nI sz), .long bs])), (ad, .inl (G.2.1, 38, .inl (fun zz => nI ((va_up row i (row j)) zz))))]) C h 1 rfl (by omega) (by omega) (q_upN _ _ _) rfl dX0_swap_45 (fun H locs h => ?_)
  refine lv_aload_n hx hb dX0_swap_46 rfl (lv_at hl 1 rfl) ?_
  refine q_get (Cn := RX0) (T := TX0) (N := 4) (ci := 0) (v := .ref ad) C h iX0 0 rfl rfl 0 (by decide) f9 rfl dX0_swap_47 ?_
  refine lv_iload_n hx hb dX0_swap_50 rfl (lv_at hl 3 rfl) ?_
  refine lv_iload_n hx hb dX0_swap_51 rfl (lv_at hl 0 rfl) ?_
  refine q_iast (i := j) (g := (fun zz => nI ((va_up (va_up row i (row j)) j (row i)) zz))) (w' := [(o0, .inr (0, [.ref ad, .long gen, .int (nI sz), .long bs])), (ad, .inl (G.2.1, 38, .inl (fun zz => nI ((va_up (va_up row i (row j)) j (row i)) zz))))]) C h 1 rfl (by omega) (by omega) (q_upN _ _ _) rfl dX0_swap_52 (fun H locs h => ?_)
  exact q_retv C h rfl rfl dX0_swap_53

set_option maxHeartbeats 4000000 in
set_option maxRecDepth 100000 in
theorem c_X1_rowCount (l : Launch) (G : vq_G) (o0 ar av : Nat) (rows : Nat → Int64) (rv : Nat → Int32) (rk : Nat) : vq_i l yX1_rowCount wsX1_rowCount 0 0 G [.ref o0] [(o0, .inr (1, [.ref ar, .ref av, .int (nI rk)])), (ar, .inl (G.2.2, 38, .inr (.inl rows))), (av, .inl (G.2.1, 38, .inl rv))] (nI rk) [(o0, .inr (1, [.ref ar, .ref av, .int (nI rk)])), (ar, .inl (G.2.2, 38, .inr (.inl rows))), (av, .inl (G.2.1, 38, .inl rv))] := by
  refine vq_openi (cc := cX1_rowCount) (maxL := 1) (ret := (some .int)) (Ts' := wsX1_rowCount.tail) (by decide) rfl (Nat.le_of_ble_eq_true rfl) ?_
  intro p e s m args below meth c A ls C h hnm hl
  have hx := C.1.1
  have hb := C.1.2.1
  have hts := C.1.2.2.2.2
  have hl : lv_has ls 1 [(0, .ref o0)] := hl
  have f19 := C.1.2.2.2.2 (.fieldLink RX1 19 "FountainCode$Elimination" "rowCount" "I") (by decide +kernel)
  have iX1 : ∀ w ∈ u_ws RX1 TX1 3, w ∈ wsX1_rowCount := by decide +kernel
  refine lv_aload_n hx hb dX1_rowCount_0 rfl (lv_at hl 0 rfl) ?_
  refine q_get (Cn := RX1) (T := TX1) (N := 3) (ci := 1) (v := .int (nI rk)) C h iX1 0 rfl rfl 2 (by decide) f19 rfl dX1_rowCount_1 ?_
  exact q_reti C h rfl rfl rfl dX1_rowCount_4

set_option maxHeartbeats 4000000 in
set_option maxRecDepth 100000 in
theorem c_X1_clear (l : Launch) (G : vq_G) (o0 ar av : Nat) (rows : Nat → Int64) (rv : Nat → Int32) (rk : Nat) : vq_v l yX1_clear wsX1_clear 1 24 G [.ref o0] [(o0, .inr (1, [.ref ar, .ref av, .int (nI rk)])), (ar, .inl (G.2.2, 38, .inr (.inl rows))), (av, .inl (G.2.1, 38, .inl rv))]  [(o0, .inr (1, [.ref ar, .ref av, .int (nI 0)])), (ar, .inl (G.2.2, 38, .inr (.inl (fun _ => 0)))), (av, .inl (G.2.1, 38, .inl (fun _ => (nI 0))))] := by
  refine vq_openv (cc := cX1_clear) (maxL := 1) (ret := none) (Ts' := wsX1_clear.tail) (by decide) rfl (Nat.le_of_ble_eq_true rfl) ?_
  intro p e s m args below meth c A ls C h hnm hl
  have hx := C.1.1
  have hb := C.1.2.1
  have hts := C.1.2.2.2.2
  have hl : lv_has ls 1 [(0, .ref o0)] := hl
  have f19 := C.1.2.2.2.2 (.fieldLink RX1 19 "FountainCode$Elimination" "rowCount" "I") (by decide +kernel)
  have iX1 : ∀ w ∈ u_ws RX1 TX1 3, w ∈ wsX1_clear := by decide +kernel
  have f9 := C.1.2.2.2.2 (.fieldLink RX1 9 "FountainCode$Elimination" "rows" "[J") (by decide +kernel)
  have f15 := C.1.2.2.2.2 (.fieldLink RX1 15 "FountainCode$Elimination" "values" "[I") (by decide +kernel)
  refine lv_aload_n hx hb dX1_clear_0 rfl (lv_at hl 0 rfl) ?_
  refine lv_iconst (v := nI 0) hx hb dX1_clear_1 (by decide) ?_
  refine q_put (Cn := RX1) (T := TX1) (N := 3) (ci := 1) (v := .int (nI 0)) (w' := [(o0, .inr (1, [.ref ar, .ref av, .int (nI 0)])), (ar, .inl (G.2.2, 38, .inr (.inl rows))), (av, .inl (G.2.1, 38, .inl rv))]) C h iX1 tyX1 tyX1_ok nmX1 0 rfl rfl 2 (by decide) f19 rfl rfl rfl (Nat.le_of_ble_eq_true rfl) dX1_clear_2 rfl (fun H locs h => ?_)
  refine lv_aload_n hx hb dX1_clear_5 rfl (lv_at hl 0 rfl) ?_
  refine q_get (Cn := RX1) (T := TX1) (N := 3) (ci := 1) (v := .ref ar) C h iX1 0 rfl rfl 0 (by decide) f9 rfl dX1_clear_6 ?_
  refine lv_lconst (v := 0) hx hb dX1_clear_9 (by decide) ?_
  refine q_callSv C h (c_J7_fill_d0a16 l G ar 38 rows 0 (by decide)) (va_cwS 2 hts gX1_clear_J7_fill_d0a16 rfl rfl rfl (by decide +kernel) ⟨Nat.le_of_ble_eq_true rfl, Nat.le_of_ble_eq_true rfl⟩) [1] rfl rfl [0, 2] (wr := [(o0, .inr (1, [.ref ar, .ref av, .int (nI 0)])), (av, .inl (G.2.1, 38, .inl rv))]) rfl rfl (by decide) rfl hl.1 rfl (Nat.le_of_ble_eq_true rfl) dX1_clear_10 ⟨Nat.zero_le _, Nat.zero_le _⟩ [0, 2, 1] (w' := [(o0, .inr (1, [.ref ar, .ref av, .int (nI 0)])), (ar, .inl (G.2.2, 38, .inr (.inl (fun _ => 0)))), (av, .inl (G.2.1, 38, .inl rv))]) rfl rfl (fun H locs h => ?_)
  refine lv_aload_n hx hb dX1_clear_13 rfl (lv_at hl 0 rfl) ?_
  refine q_get (Cn := RX1) (T := TX1) (N := 3) (ci := 1) (v := .ref av) C h iX1 0 rfl rfl 1 (by decide) f15 rfl dX1_clear_14 ?_
  refine lv_iconst (v := nI 0) hx hb dX1_clear_17 (by decide) ?_
  refine q_callSv C h (c_J7_fill_53178 l G av 38 rv (nI 0) (by decide)) (va_cwS 2 hts gX1_clear_J7_fill_53178 rfl rfl rfl (by decide +kernel) ⟨Nat.le_of_ble_eq_true rfl, Nat.le_of_ble_eq_true rfl⟩) [2] rfl rfl [0, 1] (wr := [(o0, .inr (1, [.ref ar, .ref av, .int (nI 0)])), (ar, .inl (G.2.2, 38, .inr (.inl (fun _ => 0))))]) rfl rfl (by decide) rfl hl.1 rfl (Nat.le_of_ble_eq_true rfl) dX1_clear_18 ⟨Nat.zero_le _, Nat.zero_le _⟩ [0, 1, 2] (w' := [(o0, .inr (1, [.ref ar, .ref av, .int (nI 0)])), (ar, .inl (G.2.2, 38, .inr (.inl (fun _ => 0)))), (av, .inl (G.2.1, 38, .inl (fun _ => (nI 0))))]) rfl rfl (fun H locs h => ?_)
  exact q_retv C h rfl rfl dX1_clear_21

set_option maxHeartbeats 4000000 in
set_option maxRecDepth 100000 in
theorem c_X1_remainder (l : Launch) (G : vq_G) (o0 ar av : Nat) (rows : Nat → Int64) (rv : Nat → Int32) (rk : Nat) (x : Int64) : vq_l l yX1_remainder wsX1_remainder 2 42 G [.ref o0, .long x] [(o0, .inr (1, [.ref ar, .ref av, .int (nI rk)])), (ar, .inl (G.2.2, 38, .inr (.inl rows))), (av, .inl (G.2.1, 38, .inl rv))] (q_rem rows x 38) [(o0, .inr (1, [.ref ar, .ref av, .int (nI rk)])), (ar, .inl (G.2.2, 38, .inr (.inl rows))), (av, .inl (G.2.1, 38, .inl rv))] := by
  refine vq_openl (cc := cX1_remainder) (maxL := 6) (ret := (some .long)) (Ts' := wsX1_remainder.tail) (by decide) rfl (Nat.le_of_ble_eq_true rfl) ?_
  intro p e s m args below meth c A ls C h hnm hl
  have hx := C.1.1
  have hb := C.1.2.1
  have hts := C.1.2.2.2.2
  have hl : lv_has ls 6 [(0, .ref o0), (1, .long x)] := hl
  have iniX5 := C.1.2.2.2.2 (.initialized RX5) (by decide +kernel)
  have stX5_holds := C.1.2.2.2.2 (.static yX5_holds) (by decide +kernel)
  have f9 := C.1.2.2.2.2 (.fieldLink RX1 9 "FountainCode$Elimination" "rows" "[J") (by decide +kernel)
  have iX1 : ∀ w ∈ u_ws RX1 TX1 3, w ∈ wsX1_remainder := by decide +kernel
  refine lv_lload_n hx hb dX1_remainder_0 rfl (lv_at hl 1 rfl) ?_
  refine lv_lstore_n (lv' := [(3, .long x), (0, .ref o0), (1, .long x)]) hx hb dX1_remainder_1 rfl hl (by decide) rfl (fun ls hl => ?_)
  refine lv_iconst (v := nI 0) hx hb dX1_remainder_2 (by decide) ?_
  refine lv_istore (lv' := [(5, .int (nI 0)), (3, .long x), (0, .ref o0), (1, .long x)]) hx hb dX1_remainder_3 hl (by decide) rfl (fun ls hl => ?_)
  have loop5 : ∀ (fu : Nat) (k : Nat) (y : Int64), 38 - k < fu → y = q_rem rows x k → (k ≤ 38) → ∀ (H : Heap) (locs : List Loc), vq_H G A s [(o0, .inr (1, [.ref ar, .ref av, .int (nI rk)])), (ar, .inl (G.2.2, 38, .inr (.inl rows))), (av, .inl (G.2.1, 38, .inl rv))] H locs → ∀ (ls : Array Slot), lv_has ls 6 [(5, .int (nI k)), (3, .long y), (0, .ref o0), (1, .long x)] → W p l e ({ frames := 2, cells := 0, slots := 0, locals := 42 } : Room) s m args below meth c H locs 0 0 (MQ below (va_Ql (fun zr (_ : Unit) => zr = (q_rem rows x 38)) (fun _ => vq_T G A [(o0, .inr (1, [.ref ar, .ref av, .int (nI rk)])), (ar, .inl (G.2.2, 38, .inr (.inl rows))), (av, .inl (G.2.1, 38, .inl rv))]) A) args s 0 0 A) (F0 m 5 ls []) := by
    intro fu
    induction fu with
    | zero => exact fun k y hm => absurd hm (Nat.not_lt_zero _)
    | succ fu ih =>
      intro k y hm5 e_y hk H locs h ls hl
      have ih5 := ih
      clear ih
      refine lv_iload hx hb dX1_remainder_5 (lv_at hl 0 rfl) ?_
      refine lv_bipush (v := nI 38) hx hb dX1_remainder_7 (by decide) ?_
      refine q_icmp_ge (tgt := 37) hx hb (by omega) (by omega) dX1_remainder_9 (by decide) (fun z9 => ?_) (fun z9 => ?_)
      · refine lv_lload_n hx hb dX1_remainder_37 rfl (lv_at hl 1 rfl) ?_
        exact q_retl C h rfl (by rw [e_y, show k = 38 from by omega]) rfl dX1_remainder_38
      · refine lv_lload_n hx hb dX1_remainder_12 rfl (lv_at hl 3 rfl) ?_
        refine lv_iload hx hb dX1_remainder_13 (lv_at hl 0 rfl) ?_
        refine q_callNi C h (c_X5_holds l G x k (by omega)) ⟨va_cnB 2 hts gX1_remainder_X5_holds_n32 rfl rfl rfl (C.2.2.1.at 6 rfl) iniX5 (by decide +kernel) ⟨Nat.le_of_ble_eq_true rfl, Nat.le_of_ble_eq_true rfl⟩, stX5_holds, trivial⟩ [] rfl rfl [0, 1, 2] (wr := [(o0, .inr (1, [.ref ar, .ref av, .int (nI rk)])), (ar, .inl (G.2.2, 38, .inr (.inl rows))), (av, .inl (G.2.1, 38, .inl rv))]) rfl rfl (by decide) rfl hl.1 rfl (Nat.le_of_ble_eq_true rfl) dX1_remainder_15 ⟨Nat.zero_le _, Nat.zero_le _⟩ [0, 1, 2] (w' := [(o0, .inr (1, [.ref ar, .ref av, .int (nI rk)])), (ar, .inl (G.2.2, 38, .inr (.inl rows))), (av, .inl (G.2.1, 38, .inl rv))]) rfl rfl (fun H locs h => ?_)
        refine q_ifb_eq (tgt := 31) hx hb dX1_remainder_18 (by decide) (fun z18 => ?_) (fun z18 => ?_)
        · refine lv_iinc (v := nI (k + 1)) (lv' := [(5, .int (nI (k + 1))), (3, .long y), (0, .ref o0), (1, .long x)]) hx hb dX1_remainder_31 hl (k := 0) rfl (q_inc k) (by decide) rfl (fun ls hl => ?_)
          refine lv_goto (tgt := 5) hx hb dX1_remainder_34 (by decide) ?_
          exact ih5 (k + 1) y (by omega) (show y = q_rem rows x (k + 1) from (by rw [e_y]; simp [q_rem, z18])) (show (k + 1) ≤ 38 from (by omega)) _ _ h _ (lv_sub hl [0, 1, 2, 3] rfl)
        · refine lv_lload_n hx hb dX1_remainder_21 rfl (lv_at hl 1 rfl) ?_
          refine lv_aload_n hx hb dX1_remainder_22 rfl (lv_at hl 2 rfl) ?_
          refine q_get (Cn := RX1) (T := TX1) (N := 3) (ci := 1) (v := .ref ar) C h iX1 0 rfl rfl 0 (by decide) f9 rfl dX1_remainder_23 ?_
          refine lv_iload hx hb dX1_remainder_26 (lv_at hl 0 rfl) ?_
          refine q_lald (i := k) (v := rows k) C h 1 rfl (by omega) (by omega) rfl dX1_remainder_28 ?_
          refine lv_lxor hx hb dX1_remainder_29 ?_
          refine lv_lstore_n (lv' := [(3, .long (y ^^^ (rows k))), (5, .int (nI k)), (0, .ref o0), (1, .long x)]) hx hb dX1_remainder_30 rfl hl (by decide) rfl (fun ls hl => ?_)
          refine lv_iinc (v := nI (k + 1)) (lv' := [(5, .int (nI (k + 1))), (3, .long (y ^^^ (rows k))), (0, .ref o0), (1, .long x)]) hx hb dX1_remainder_31 hl (k := 1) rfl (q_inc k) (by decide) rfl (fun ls hl => ?_)
          refine lv_goto (tgt := 5) hx hb dX1_remainder_34 (by decide) ?_
          exact ih5 (k + 1) (y ^^^ (rows k)) (by omega) (show (y ^^^ (rows k)) = q_rem rows x (k + 1) from (by rw [e_y]; simp [q_rem, z18])) (show (k + 1) ≤ 38 from (by omega)) _ _ h _ (lv_sub hl [0, 1, 2, 3] rfl)
  exact loop5 (38 - 0 + 1) 0 x (Nat.lt_succ_self _) (show x = q_rem rows x 0 from rfl) (show 0 ≤ 38 from (Nat.zero_le _)) _ _ h _ (lv_sub hl [0, 1, 2, 3] rfl)

set_option maxHeartbeats 4000000 in
set_option maxRecDepth 100000 in
theorem c_X1_knownValue (l : Launch) (G : vq_G) (o0 ar av : Nat) (rows : Nat → Int64) (rv : Nat → Int32) (rk : Nat) (x : Int64) : vq_i l yX1_knownValue wsX1_knownValue 2 42 G [.ref o0, .long x] [(o0, .inr (1, [.ref ar, .ref av, .int (nI rk)])), (ar, .inl (G.2.2, 38, .inr (.inl rows))), (av, .inl (G.2.1, 38, .inl rv))] (q_kv rv x 38) [(o0, .inr (1, [.ref ar, .ref av, .int (nI rk)])), (ar, .inl (G.2.2, 38, .inr (.inl rows))), (av, .inl (G.2.1, 38, .inl rv))] := by
  refine vq_openi (cc := cX1_knownValue) (maxL := 5) (ret := (some .int)) (Ts' := wsX1_knownValue.tail) (by decide) rfl (Nat.le_of_ble_eq_true rfl) ?_
  intro p e s m args below meth c A ls C h hnm hl
  have hx := C.1.1
  have hb := C.1.2.1
  have hts := C.1.2.2.2.2
  have hl : lv_has ls 5 [(0, .ref o0), (1, .long x)] := hl
  have iniX5 := C.1.2.2.2.2 (.initialized RX5) (by decide +kernel)
  have stX5_holds := C.1.2.2.2.2 (.static yX5_holds) (by decide +kernel)
  have f15 := C.1.2.2.2.2 (.fieldLink RX1 15 "FountainCode$Elimination" "values" "[I") (by decide +kernel)
  have iX1 : ∀ w ∈ u_ws RX1 TX1 3, w ∈ wsX1_knownValue := by decide +kernel
  refine lv_iconst (v := nI 0) hx hb dX1_knownValue_0 (by decide) ?_
  refine lv_istore_n (lv' := [(3, .int (nI 0)), (0, .ref o0), (1, .long x)]) hx hb dX1_knownValue_1 rfl hl (by decide) rfl (fun ls hl => ?_)
  refine lv_iconst (v := nI 0) hx hb dX1_knownValue_2 (by decide) ?_
  refine lv_istore (lv' := [(4, .int (nI 0)), (3, .int (nI 0)), (0, .ref o0), (1, .long x)]) hx hb dX1_knownValue_3 hl (by decide) rfl (fun ls hl => ?_)
  have loop5 : ∀ (fu : Nat) (k : Nat) (y : Int32), 38 - k < fu → y = q_kv rv x k → (k ≤ 38) → ∀ (H : Heap) (locs : List Loc), vq_H G A s [(o0, .inr (1, [.ref ar, .ref av, .int (nI rk)])), (ar, .inl (G.2.2, 38, .inr (.inl rows))), (av, .inl (G.2.1, 38, .inl rv))] H locs → ∀ (ls : Array Slot), lv_has ls 5 [(4, .int (nI k)), (3, .int y), (0, .ref o0), (1, .long x)] → W p l e ({ frames := 2, cells := 0, slots := 0, locals := 42 } : Room) s m args below meth c H locs 0 0 (MQ below (va_Qi (fun zr (_ : Unit) => zr = (q_kv rv x 38)) (fun _ => vq_T G A [(o0, .inr (1, [.ref ar, .ref av, .int (nI rk)])), (ar, .inl (G.2.2, 38, .inr (.inl rows))), (av, .inl (G.2.1, 38, .inl rv))]) A) args s 0 0 A) (F0 m 5 ls []) := by
    intro fu
    induction fu with
    | zero => exact fun k y hm => absurd hm (Nat.not_lt_zero _)
    | succ fu ih =>
      intro k y hm5 e_y hk H locs h ls hl
      have ih5 := ih
      clear ih
      refine lv_iload hx hb dX1_knownValue_5 (lv_at hl 0 rfl) ?_
      refine lv_bipush (v := nI 38) hx hb dX1_knownValue_7 (by decide) ?_
      refine q_icmp_ge (tgt := 37) hx hb (by omega) (by omega) dX1_knownValue_9 (by decide) (fun z9 => ?_) (fun z9 => ?_)
      · refine lv_iload_n hx hb dX1_knownValue_37 rfl (lv_at hl 1 rfl) ?_
        exact q_reti C h rfl (by rw [e_y, show k = 38 from by omega]) rfl dX1_knownValue_38
      · refine lv_lload_n hx hb dX1_knownValue_12 rfl (lv_at hl 3 rfl) ?_
        refine lv_iload hx hb dX1_knownValue_13 (lv_at hl 0 rfl) ?_
        refine q_callNi C h (c_X5_holds l G x k (by omega)) ⟨va_cnB 2 hts gX1_knownValue_X5_holds_n32 rfl rfl rfl (C.2.2.1.at 6 rfl) iniX5 (by decide +kernel) ⟨Nat.le_of_ble_eq_true rfl, Nat.le_of_ble_eq_true rfl⟩, stX5_holds, trivial⟩ [] rfl rfl [0, 1, 2] (wr := [(o0, .inr (1, [.ref ar, .ref av, .int (nI rk)])), (ar, .inl (G.2.2, 38, .inr (.inl rows))), (av, .inl (G.2.1, 38, .inl rv))]) rfl rfl (by decide) rfl hl.1 rfl (Nat.le_of_ble_eq_true rfl) dX1_knownValue_15 ⟨Nat.zero_le _, Nat.zero_le _⟩ [0, 1, 2] (w' := [(o0, .inr (1, [.ref ar, .ref av, .int (nI rk)])), (ar, .inl (G.2.2, 38, .inr (.inl rows))), (av, .inl (G.2.1, 38, .inl rv))]) rfl rfl (fun H locs h => ?_)
        refine q_ifb_eq (tgt := 31) hx hb dX1_knownValue_18 (by decide) (fun z18 => ?_) (fun z18 => ?_)
        · refine lv_iinc (v := nI (k + 1)) (lv' := [(4, .int (nI (k + 1))), (3, .int y), (0, .ref o0), (1, .long x)]) hx hb dX1_knownValue_31 hl (k := 0) rfl (q_inc k) (by decide) rfl (fun ls hl => ?_)
          refine lv_goto (tgt := 5) hx hb dX1_knownValue_34 (by decide) ?_
          exact ih5 (k + 1) y (by omega) (show y = q_kv rv x (k + 1) from (by rw [e_y]; simp [q_kv, z18])) (show (k + 1) ≤ 38 from (by omega)) _ _ h _ (lv_sub hl [0, 1, 2, 3] rfl)
        · refine lv_iload_n hx hb dX1_knownValue_21 rfl (lv_at hl 1 rfl) ?_
          refine lv_aload_n hx hb dX1_knownValue_22 rfl (lv_at hl 2 rfl) ?_
          refine q_get (Cn := RX1) (T := TX1) (N := 3) (ci := 1) (v := .ref av) C h iX1 0 rfl rfl 1 (by decide) f15 rfl dX1_knownValue_23 ?_
          refine lv_iload hx hb dX1_knownValue_26 (lv_at hl 0 rfl) ?_
          refine q_iald (i := k) (v := (rv k)) C h 2 rfl (by omega) (by omega) rfl dX1_knownValue_28 ?_
          refine lv_ixor hx hb dX1_knownValue_29 ?_
          refine lv_istore_n (lv' := [(3, .int (y ^^^ (rv k))), (4, .int (nI k)), (0, .ref o0), (1, .long x)]) hx hb dX1_knownValue_30 rfl hl (by decide) rfl (fun ls hl => ?_)
          refine lv_iinc (v := nI (k + 1)) (lv' := [(4, .int (nI (k + 1))), (3, .int (y ^^^ (rv k))), (0, .ref o0), (1, .long x)]) hx hb dX1_knownValue_31 hl (k := 1) rfl (q_inc k) (by decide) rfl (fun ls hl => ?_)
          refine lv_goto (tgt := 5) hx hb dX1_knownValue_34 (by decide) ?_
          exact ih5 (k + 1) (y ^^^ (rv k)) (by omega) (show (y ^^^ (rv k)) = q_kv rv x (k + 1) from (by rw [e_y]; simp [q_kv, z18])) (show (k + 1) ≤ 38 from (by omega)) _ _ h _ (lv_sub hl [0, 1, 2, 3] rfl)
  exact loop5 (38 - 0 + 1) 0 (nI 0) (Nat.lt_succ_self _) (show (nI 0) = q_kv rv x 0 from rfl) (show 0 ≤ 38 from (Nat.zero_le _)) _ _ h _ (lv_sub hl [0, 1, 2, 3] rfl)

set_option maxHeartbeats 4000000 in
set_option maxRecDepth 100000 in
theorem c_X1_contradicts (l : Launch) (G : vq_G) (o0 ar av : Nat) (rows : Nat → Int64) (rv : Nat → Int32) (rk : Nat) (x : Int64) (v : Int32) : vq_i l yX1_contradicts wsX1_contradicts 3 67 G [.ref o0, .long x, .int v] [(o0, .inr (1, [.ref ar, .ref av, .int (nI rk)])), (ar, .inl (G.2.2, 38, .inr (.inl rows))), (av, .inl (G.2.1, 38, .inl rv))] (q_b (q_con rows rv x v)) [(o0, .inr (1, [.ref ar, .ref av, .int (nI rk)])), (ar, .inl (G.2.2, 38, .inr (.inl rows))), (av, .inl (G.2.1, 38, .inl rv))] := by
  refine vq_openi (cc := cX1_contradicts) (maxL := 4) (ret := (some .boolean)) (Ts' := wsX1_contradicts.tail) (by decide) rfl (Nat.le_of_ble_eq_true rfl) ?_
  intro p e s m args below meth c A ls C h hnm hl
  have hx := C.1.1
  have hb := C.1.2.1
  have hts := C.1.2.2.2.2
  have hl : lv_has ls 4 [(0, .ref o0), (1, .long x), (3, .int v)] := hl
  refine lv_aload_n hx hb dX1_contradicts_0 rfl (lv_at hl 0 rfl) ?_
  refine lv_lload_n hx hb dX1_contradicts_1 rfl (lv_at hl 1 rfl) ?_
  refine q_callVl C h (c_X1_remainder l G o0 ar av rows rv rk x) (cwV 1 hts gX1_contradicts_X1_remainder rfl rfl rfl (by decide +kernel) ⟨Nat.le_of_ble_eq_true rfl, Nat.le_of_ble_eq_true rfl⟩) [0, 1, 2] rfl rfl [] (wr := []) rfl rfl (by decide) 0 rfl rfl rfl hl.1 rfl (Nat.le_of_ble_eq_true rfl) dX1_contradicts_2 ⟨Nat.zero_le _, Nat.zero_le _⟩ [0, 1, 2] (w' := [(o0, .inr (1, [.ref ar, .ref av, .int (nI rk)])), (ar, .inl (G.2.2, 38, .inr (.inl rows))), (av, .inl (G.2.1, 38, .inl rv))]) rfl rfl (fun H locs h => ?_)
  refine lv_lconst (v := 0) hx hb dX1_contradicts_5 (by decide) ?_
  refine q_lif_ne (tgt := 23) hx hb dX1_contradicts_6 dX1_contradicts_7 (by decide) (fun z7 => ?_) (fun z7 => ?_)
  · refine lv_iconst (v := nI 0) hx hb dX1_contradicts_23 (by decide) ?_
    refine q_top (v' := .int (q_b false)) rfl ?_
    exact q_retz C h rfl (by first | simp [q_con, z7, z16] | simp [q_con, z7]) rfl dX1_contradicts_24
  · refine lv_aload_n hx hb dX1_contradicts_10 rfl (lv_at hl 0 rfl) ?_
    refine lv_lload_n hx hb dX1_contradicts_11 rfl (lv_at hl 1 rfl) ?_
    refine q_callVi C h (c_X1_knownValue l G o0 ar av rows rv rk x) (cwV 1 hts gX1_contradicts_X1_knownValue rfl rfl rfl (by decide +kernel) ⟨Nat.le_of_ble_eq_true rfl, Nat.le_of_ble_eq_true rfl⟩) [0, 1, 2] rfl rfl [] (wr := []) rfl rfl (by decide) 0 rfl rfl rfl hl.1 rfl (Nat.le_of_ble_eq_true rfl) dX1_contradicts_12 ⟨Nat.zero_le _, Nat.zero_le _⟩ [0, 1, 2] (w' := [(o0, .inr (1, [.ref ar, .ref av, .int (nI rk)])), (ar, .inl (G.2.2, 38, .inr (.inl rows))), (av, .inl (G.2.1, 38, .inl rv))]) rfl rfl (fun H locs h => ?_)
    refine lv_iload_n hx hb dX1_contradicts_15 rfl (lv_at hl 2 rfl) ?_
    refine lv_icmp_eq (tgt := 23) hx hb dX1_contradicts_16 (by decide) (fun z16 => ?_) (fun z16 => ?_)
    · refine lv_iconst (v := nI 0) hx hb dX1_contradicts_23 (by decide) ?_
      refine q_top (v' := .int (q_b false)) rfl ?_
      exact q_retz C h rfl (by first | simp [q_con, z7, z16] | simp [q_con, z7]) rfl dX1_contradicts_24
    · refine lv_iconst (v := nI 1) hx hb dX1_contradicts_19 (by decide) ?_
      refine lv_goto (tgt := 24) hx hb dX1_contradicts_20 (by decide) ?_
      refine q_top (v' := .int (q_b true)) rfl ?_
      exact q_retz C h rfl (by first | simp [q_con, z7, z16] | simp [q_con, z7]) rfl dX1_contradicts_24

set_option maxHeartbeats 4000000 in
set_option maxRecDepth 100000 in
theorem c_X1_remainderOfBlock (l : Launch) (G : vq_G) (o0 ar av : Nat) (rows : Nat → Int64) (rv : Nat → Int32) (rk : Nat) (k : Nat) (hk : k < 38) : vq_l l yX1_remainderOfBlock wsX1_remainderOfBlock 1 20 G [.ref o0, .int (nI k)] [(o0, .inr (1, [.ref ar, .ref av, .int (nI rk)])), (ar, .inl (G.2.2, 38, .inr (.inl rows))), (av, .inl (G.2.1, 38, .inl rv))] (q_bit k ^^^ rows k) [(o0, .inr (1, [.ref ar, .ref av, .int (nI rk)])), (ar, .inl (G.2.2, 38, .inr (.inl rows))), (av, .inl (G.2.1, 38, .inl rv))] := by
  refine vq_openl (cc := cX1_remainderOfBlock) (maxL := 4) (ret := (some .long)) (Ts' := wsX1_remainderOfBlock.tail) (by decide) rfl (Nat.le_of_ble_eq_true rfl) ?_
  intro p e s m args below meth c A ls C h hnm hl
  have hx := C.1.1
  have hb := C.1.2.1
  have hts := C.1.2.2.2.2
  have hl : lv_has ls 4 [(0, .ref o0), (1, .int (nI k))] := hl
  have f9 := C.1.2.2.2.2 (.fieldLink RX1 9 "FountainCode$Elimination" "rows" "[J") (by decide +kernel)
  have iX1 : ∀ w ∈ u_ws RX1 TX1 3, w ∈ wsX1_remainderOfBlock := by decide +kernel
  have iniX5 := C.1.2.2.2.2 (.initialized RX5) (by decide +kernel)
  have stX5_setOf := C.1.2.2.2.2 (.static yX5_setOf) (by decide +kernel)
  refine lv_iload_n hx hb dX1_remainderOfBlock_0 rfl (lv_at hl 1 rfl) ?_
  refine q_if_lt (tgt := 19) hx hb (by omega) dX1_remainderOfBlock_1 (by decide) (fun z1 => absurd z1 (by omega)) (fun z1 => ?_)
  refine lv_iload_n hx hb dX1_remainderOfBlock_4 rfl (lv_at hl 1 rfl) ?_
  refine lv_bipush (v := nI 38) hx hb dX1_remainderOfBlock_5 (by decide) ?_
  refine q_icmp_ge (tgt := 19) hx hb (by omega) (by omega) dX1_remainderOfBlock_7 (by decide) (fun z7 => absurd z7 (by omega)) (fun z7 => ?_)
  refine lv_aload_n hx hb dX1_remainderOfBlock_10 rfl (lv_at hl 0 rfl) ?_
  refine q_get (Cn := RX1) (T := TX1) (N := 3) (ci := 1) (v := .ref ar) C h iX1 0 rfl rfl 0 (by decide) f9 rfl dX1_remainderOfBlock_11 ?_
  refine lv_iload_n hx hb dX1_remainderOfBlock_14 rfl (lv_at hl 1 rfl) ?_
  refine q_lald (i := k) (v := rows k) C h 1 rfl (by omega) (by omega) rfl dX1_remainderOfBlock_15 ?_
  refine lv_goto (tgt := 20) hx hb dX1_remainderOfBlock_16 (by decide) ?_
  refine lv_lstore_n (lv' := [(2, .long (rows k)), (0, .ref o0), (1, .int (nI k))]) hx hb dX1_remainderOfBlock_20 rfl hl (by decide) rfl (fun ls hl => ?_)
  refine lv_iload_n hx hb dX1_remainderOfBlock_21 rfl (lv_at hl 2 rfl) ?_
  refine q_callNl C h (c_X5_setOf l G k (by omega)) ⟨va_cnB 1 hts gX1_remainderOfBlock_X5_setOf_n51 rfl rfl rfl (C.2.2.1.at 12 rfl) iniX5 (by decide +kernel) ⟨Nat.le_of_ble_eq_true rfl, Nat.le_of_ble_eq_true rfl⟩, stX5_setOf, trivial⟩ [] rfl rfl [0, 1, 2] (wr := [(o0, .inr (1, [.ref ar, .ref av, .int (nI rk)])), (ar, .inl (G.2.2, 38, .inr (.inl rows))), (av, .inl (G.2.1, 38, .inl rv))]) rfl rfl (by decide) rfl hl.1 rfl (Nat.le_of_ble_eq_true rfl) dX1_remainderOfBlock_22 ⟨Nat.zero_le _, Nat.zero_le _⟩ [0, 1, 2] (w' := [(o0, .inr (1, [.ref ar, .ref av, .int (nI rk)])), (ar, .inl (G.2.2, 38, .inr (.inl rows))), (av, .inl (G.2.1, 38, .inl rv))]) rfl rfl (fun H locs h => ?_)
  refine lv_lload_n hx hb dX1_remainderOfBlock_25 rfl (lv_at hl 0 rfl) ?_
  refine lv_lxor hx hb dX1_remainderOfBlock_26 ?_
  exact q_retl C h rfl (by first | rfl | simp_all) rfl dX1_remainderOfBlock_27

set_option maxHeartbeats 4000000 in
set_option maxRecDepth 100000 in
theorem c_X1_fixes (l : Launch) (G : vq_G) (o0 ar av : Nat) (rows : Nat → Int64) (rv : Nat → Int32) (rk : Nat) (k : Nat) (hk : k < 38) : vq_i l yX1_fixes wsX1_fixes 2 43 G [.ref o0, .int (nI k)] [(o0, .inr (1, [.ref ar, .ref av, .int (nI rk)])), (ar, .inl (G.2.2, 38, .inr (.inl rows))), (av, .inl (G.2.1, 38, .inl rv))] (q_b (decide (q_bit k ^^^ rows k = 0))) [(o0, .inr (1, [.ref ar, .ref av, .int (nI rk)])), (ar, .inl (G.2.2, 38, .inr (.inl rows))), (av, .inl (G.2.1, 38, .inl rv))] := by
  refine vq_openi (cc := cX1_fixes) (maxL := 2) (ret := (some .boolean)) (Ts' := wsX1_fixes.tail) (by decide) rfl (Nat.le_of_ble_eq_true rfl) ?_
  intro p e s m args below meth c A ls C h hnm hl
  have hx := C.1.1
  have hb := C.1.2.1
  have hts := C.1.2.2.2.2
  have hl : lv_has ls 2 [(0, .ref o0), (1, .int (nI k))] := hl
  refine lv_aload_n hx hb dX1_fixes_0 rfl (lv_at hl 0 rfl) ?_
  refine lv_iload_n hx hb dX1_fixes_1 rfl (lv_at hl 1 rfl) ?_
  refine q_callVl C h (c_X1_remainderOfBlock l G o0 ar av rows rv rk k (by omega)) (cwV 1 hts gX1_fixes_X1_remainderOfBlock rfl rfl rfl (by decide +kernel) ⟨Nat.le_of_ble_eq_true rfl, Nat.le_of_ble_eq_true rfl⟩) [0, 1, 2] rfl rfl [] (wr := []) rfl rfl (by decide) 0 rfl rfl rfl hl.1 rfl (Nat.le_of_ble_eq_true rfl) dX1_fixes_2 ⟨Nat.zero_le _, Nat.zero_le _⟩ [0, 1, 2] (w' := [(o0, .inr (1, [.ref ar, .ref av, .int (nI rk)])), (ar, .inl (G.2.2, 38, .inr (.inl rows))), (av, .inl (G.2.1, 38, .inl rv))]) rfl rfl (fun H locs h => ?_)
  refine lv_lconst (v := 0) hx hb dX1_fixes_5 (by decide) ?_
  refine q_lif_ne (tgt := 14) hx hb dX1_fixes_6 dX1_fixes_7 (by decide) (fun z7 => ?_) (fun z7 => ?_)
  · refine lv_iconst (v := nI 0) hx hb dX1_fixes_14 (by decide) ?_
    refine q_top (v' := .int (q_b false)) rfl ?_
    exact q_retz C h rfl (by simp [z7]) rfl dX1_fixes_15
  · refine lv_iconst (v := nI 1) hx hb dX1_fixes_10 (by decide) ?_
    refine lv_goto (tgt := 15) hx hb dX1_fixes_11 (by decide) ?_
    refine q_top (v' := .int (q_b true)) rfl ?_
    exact q_retz C h rfl (by simp [z7]) rfl dX1_fixes_15

set_option maxHeartbeats 4000000 in
set_option maxRecDepth 100000 in
theorem c_X1_countLeaving (l : Launch) (G : vq_G) (o0 ar av : Nat) (rows : Nat → Int64) (rv : Nat → Int32) (rk : Nat) (x : Int64) (B : Nat) (hB : B ≤ 38) : vq_i l yX1_countLeaving wsX1_countLeaving 2 43 G [.ref o0, .long x, .int (nI B)] [(o0, .inr (1, [.ref ar, .ref av, .int (nI rk)])), (ar, .inl (G.2.2, 38, .inr (.inl rows))), (av, .inl (G.2.1, 38, .inl rv))] (nI (q_cnt rows x B)) [(o0, .inr (1, [.ref ar, .ref av, .int (nI rk)])), (ar, .inl (G.2.2, 38, .inr (.inl rows))), (av, .inl (G.2.1, 38, .inl rv))] := by
  refine vq_openi (cc := cX1_countLeaving) (maxL := 6) (ret := (some .int)) (Ts' := wsX1_countLeaving.tail) (by decide) rfl (Nat.le_of_ble_eq_true rfl) ?_
  intro p e s m args below meth c A ls C h hnm hl
  have hx := C.1.1
  have hb := C.1.2.1
  have hts := C.1.2.2.2.2
  have hl : lv_has ls 6 [(0, .ref o0), (1, .long x), (3, .int (nI B))] := hl
  refine lv_iconst (v := nI 0) hx hb dX1_countLeaving_0 (by decide) ?_
  refine lv_istore (lv' := [(4, .int (nI 0)), (0, .ref o0), (1, .long x), (3, .int (nI B))]) hx hb dX1_countLeaving_1 hl (by decide) rfl (fun ls hl => ?_)
  refine lv_iconst (v := nI 0) hx hb dX1_countLeaving_3 (by decide) ?_
  refine lv_istore (lv' := [(5, .int (nI 0)), (4, .int (nI 0)), (0, .ref o0), (1, .long x), (3, .int (nI B))]) hx hb dX1_countLeaving_4 hl (by decide) rfl (fun ls hl => ?_)
  have loop6 : ∀ (fu : Nat) (k : Nat) (y : Nat), B - k < fu → y = q_cnt rows x k → (k ≤ B) → ∀ (H : Heap) (locs : List Loc), vq_H G A s [(o0, .inr (1, [.ref ar, .ref av, .int (nI rk)])), (ar, .inl (G.2.2, 38, .inr (.inl rows))), (av, .inl (G.2.1, 38, .inl rv))] H locs → ∀ (ls : Array Slot), lv_has ls 6 [(5, .int (nI k)), (4, .int (nI y)), (0, .ref o0), (1, .long x), (3, .int (nI B))] → W p l e ({ frames := 2, cells := 0, slots := 0, locals := 43 } : Room) s m args below meth c H locs 0 0 (MQ below (va_Qi (fun zr (_ : Unit) => zr = (nI (q_cnt rows x B))) (fun _ => vq_T G A [(o0, .inr (1, [.ref ar, .ref av, .int (nI rk)])), (ar, .inl (G.2.2, 38, .inr (.inl rows))), (av, .inl (G.2.1, 38, .inl rv))]) A) args s 0 0 A) (F0 m 6 ls []) := by
    intro fu
    induction fu with
    | zero => exact fun k y hm => absurd hm (Nat.not_lt_zero _)
    | succ fu ih =>
      intro k y hm6 e_y hk H locs h ls hl
      have ih6 := ih
      clear ih
      refine lv_iload hx hb dX1_countLeaving_6 (lv_at hl 0 rfl) ?_
      refine lv_iload_n hx hb dX1_countLeaving_8 rfl (lv_at hl 4 rfl) ?_
      refine q_icmp_ge (tgt := 32) hx hb (by omega) (by omega) dX1_countLeaving_9 (by decide) (fun z9 => ?_) (fun z9 => ?_)
      · refine lv_iload hx hb dX1_countLeaving_32 (lv_at hl 1 rfl) ?_
        exact q_reti C h rfl (by rw [e_y, show k = B from by omega]) rfl dX1_countLeaving_34
      · refine lv_aload_n hx hb dX1_countLeaving_12 rfl (lv_at hl 2 rfl) ?_
        refine lv_iload hx hb dX1_countLeaving_13 (lv_at hl 0 rfl) ?_
        refine q_callVl C h (c_X1_remainderOfBlock l G o0 ar av rows rv rk k (by omega)) (cwV 1 hts gX1_countLeaving_X1_remainderOfBlock rfl rfl rfl (by decide +kernel) ⟨Nat.le_of_ble_eq_true rfl, Nat.le_of_ble_eq_true rfl⟩) [0, 1, 2] rfl rfl [] (wr := []) rfl rfl (by decide) 0 rfl rfl rfl hl.1 rfl (Nat.le_of_ble_eq_true rfl) dX1_countLeaving_15 ⟨Nat.zero_le _, Nat.zero_le _⟩ [0, 1, 2] (w' := [(o0, .inr (1, [.ref ar, .ref av, .int (nI rk)])), (ar, .inl (G.2.2, 38, .inr (.inl rows))), (av, .inl (G.2.1, 38, .inl rv))]) rfl rfl (fun H locs h => ?_)
        refine lv_lload_n hx hb dX1_countLeaving_18 rfl (lv_at hl 3 rfl) ?_
        refine q_lif_ne (tgt := 26) hx hb dX1_countLeaving_19 dX1_countLeaving_20 (by decide) (fun z20 => ?_) (fun z20 => ?_)
        · refine lv_iinc (v := nI (k + 1)) (lv' := [(5, .int (nI (k + 1))), (4, .int (nI y)), (0, .ref o0), (1, .long x), (3, .int (nI B))]) hx hb dX1_countLeaving_26 hl (k := 0) rfl (q_inc k) (by decide) rfl (fun ls hl => ?_)
          refine lv_goto (tgt := 6) hx hb dX1_countLeaving_29 (by decide) ?_
          exact ih6 (k + 1) y (by omega) (show y = q_cnt rows x (k + 1) from (by rw [e_y]; simp [q_cnt, z20])) (show (k + 1) ≤ B from (by omega)) _ _ h _ (lv_sub hl [0, 1, 2, 3, 4] rfl)
        · refine lv_iinc (v := nI (y + 1)) (lv' := [(4, .int (nI (y + 1))), (5, .int (nI k)), (0, .ref o0), (1, .long x), (3, .int (nI B))]) hx hb dX1_countLeaving_23 hl (k := 1) rfl (q_inc y) (by decide) rfl (fun ls hl => ?_)
          refine lv_iinc (v := nI (k + 1)) (lv' := [(5, .int (nI (k + 1))), (4, .int (nI (y + 1))), (0, .ref o0), (1, .long x), (3, .int (nI B))]) hx hb dX1_countLeaving_26 hl (k := 1) rfl (q_inc k) (by decide) rfl (fun ls hl => ?_)
          refine lv_goto (tgt := 6) hx hb dX1_countLeaving_29 (by decide) ?_
          exact ih6 (k + 1) (y + 1) (by omega) (show (y + 1) = q_cnt rows x (k + 1) from (by rw [e_y]; simp [q_cnt, z20])) (show (k + 1) ≤ B from (by omega)) _ _ h _ (lv_sub hl [0, 1, 2, 3, 4] rfl)
  exact loop6 (B - 0 + 1) 0 0 (Nat.lt_succ_self _) (show 0 = q_cnt rows x 0 from rfl) (show 0 ≤ B from (Nat.zero_le _)) _ _ h _ (lv_sub hl [0, 1, 2, 3, 4] rfl)
end
section
/-! further leaves of the landed class: laid by wip/whole/gen2.py -/
set_option maxHeartbeats 4000000 in
set_option maxRecDepth 100000 in
theorem c_J13_bitCount_95d88 (l : Launch) (G : vq_G) (x : Int64) : vq_i l yJ13_bitCount_95d88 wsJ13_bitCount_95d88 0 0 G [.long x] [] (q_bc x) [] := by
  refine vq_openi (cc := cJ13_bitCount_95d88) (maxL := 2) (ret := (some .int)) (Ts' := wsJ13_bitCount_95d88.tail) (by decide) rfl (Nat.le_of_ble_eq_true rfl) ?_
  intro p e s m args below meth c A ls C h hnm hl
  have hx := C.1.1
  have hb := C.1.2.1
  have hts := C.1.2.2.2.2
  have hl : lv_has ls 2 [(0, .long x)] := hl
  have k314 := C.1.2.2.2.2 (.constantLong RJ13 314 (6148914691236517205)) (by decide +kernel)
  have k316 := C.1.2.2.2.2 (.constantLong RJ13 316 (3689348814741910323)) (by decide +kernel)
  have k318 := C.1.2.2.2.2 (.constantLong RJ13 318 (1085102592571150095)) (by decide +kernel)
  refine lv_lload_n hx hb dJ13_bitCount_95d88_0 rfl (lv_at hl 0 rfl) ?_
  refine lv_lload_n hx hb dJ13_bitCount_95d88_1 rfl (lv_at hl 0 rfl) ?_
  refine lv_iconst (v := nI 1) hx hb dJ13_bitCount_95d88_2 (by decide) ?_
  refine lv_lushr (v := q_u x 1) hx hb dJ13_bitCount_95d88_3 rfl ?_
  refine q_ldc2 C k314 dJ13_bitCount_95d88_4 ?_
  refine lv_land hx hb dJ13_bitCount_95d88_7 ?_
  refine lv_lsub hx hb dJ13_bitCount_95d88_8 ?_
  refine q_top (v' := .long (q_bc1 x)) rfl ?_
  refine lv_lstore_n (lv' := [(0, .long (q_bc1 x))]) hx hb dJ13_bitCount_95d88_9 rfl hl (by decide) rfl (fun ls hl => ?_)
  refine lv_lload_n hx hb dJ13_bitCount_95d88_10 rfl (lv_at hl 0 rfl) ?_
  refine q_ldc2 C k316 dJ13_bitCount_95d88_11 ?_
  refine lv_land hx hb dJ13_bitCount_95d88_14 ?_
  refine lv_lload_n hx hb dJ13_bitCount_95d88_15 rfl (lv_at hl 0 rfl) ?_
  refine lv_iconst (v := nI 2) hx hb dJ13_bitCount_95d88_16 (by decide) ?_
  refine lv_lushr (v := q_u (q_bc1 x) 2) hx hb dJ13_bitCount_95d88_17 rfl ?_
  refine q_ldc2 C k316 dJ13_bitCount_95d88_18 ?_
  refine lv_land hx hb dJ13_bitCount_95d88_21 ?_
  refine lv_ladd hx hb dJ13_bitCount_95d88_22 ?_
  refine q_top (v' := .long (q_bc2 (q_bc1 x))) rfl ?_
  refine lv_lstore_n (lv' := [(0, .long (q_bc2 (q_bc1 x)))]) hx hb dJ13_bitCount_95d88_23 rfl hl (by decide) rfl (fun ls hl => ?_)
  refine lv_lload_n hx hb dJ13_bitCount_95d88_24 rfl (lv_at hl 0 rfl) ?_
  refine lv_lload_n hx hb dJ13_bitCount_95d88_25 rfl (lv_at hl 0 rfl) ?_
  refine lv_iconst (v := nI 4) hx hb dJ13_bitCount_95d88_26 (by decide) ?_
  refine lv_lushr (v := q_u (q_bc2 (q_bc1 x)) 4) hx hb dJ13_bitCount_95d88_27 rfl ?_
  refine lv_ladd hx hb dJ13_bitCount_95d88_28 ?_
  refine q_ldc2 C k318 dJ13_bitCount_95d88_29 ?_
  refine lv_land hx hb dJ13_bitCount_95d88_32 ?_
  refine q_top (v' := .long (q_bc3 (q_bc2 (q_bc1 x)))) rfl ?_
  refine lv_lstore_n (lv' := [(0, .long (q_bc3 (q_bc2 (q_bc1 x))))]) hx hb dJ13_bitCount_95d88_33 rfl hl (by decide) rfl (fun ls hl => ?_)
  refine lv_lload_n hx hb dJ13_bitCount_95d88_34 rfl (lv_at hl 0 rfl) ?_
  refine lv_lload_n hx hb dJ13_bitCount_95d88_35 rfl (lv_at hl 0 rfl) ?_
  refine lv_bipush (v := nI 8) hx hb dJ13_bitCount_95d88_36 (by decide) ?_
  refine lv_lushr (v := q_u (q_bc3 (q_bc2 (q_bc1 x))) 8) hx hb dJ13_bitCount_95d88_38 rfl ?_
  refine lv_ladd hx hb dJ13_bitCount_95d88_39 ?_
  refine q_top (v' := .long (q_bc4 (q_bc3 (q_bc2 (q_bc1 x))))) rfl ?_
  refine lv_lstore_n (lv' := [(0, .long (q_bc4 (q_bc3 (q_bc2 (q_bc1 x)))))]) hx hb dJ13_bitCount_95d88_40 rfl hl (by decide) rfl (fun ls hl => ?_)
  refine lv_lload_n hx hb dJ13_bitCount_95d88_41 rfl (lv_at hl 0 rfl) ?_
  refine lv_lload_n hx hb dJ13_bitCount_95d88_42 rfl (lv_at hl 0 rfl) ?_
  refine lv_bipush (v := nI 16) hx hb dJ13_bitCount_95d88_43 (by decide) ?_
  refine lv_lushr (v := q_u (q_bc4 (q_bc3 (q_bc2 (q_bc1 x)))) 16) hx hb dJ13_bitCount_95d88_45 rfl ?_
  refine lv_ladd hx hb dJ13_bitCount_95d88_46 ?_
  refine q_top (v' := .long (q_bc5 (q_bc4 (q_bc3 (q_bc2 (q_bc1 x)))))) rfl ?_
  refine lv_lstore_n (lv' := [(0, .long (q_bc5 (q_bc4 (q_bc3 (q_bc2 (q_bc1 x))))))]) hx hb dJ13_bitCount_95d88_47 rfl hl (by decide) rfl (fun ls hl => ?_)
  refine lv_lload_n hx hb dJ13_bitCount_95d88_48 rfl (lv_at hl 0 rfl) ?_
  refine lv_lload_n hx hb dJ13_bitCount_95d88_49 rfl (lv_at hl 0 rfl) ?_
  refine lv_bipush (v := nI 32) hx hb dJ13_bitCount_95d88_50 (by decide) ?_
  refine lv_lushr (v := q_u (q_bc5 (q_bc4 (q_bc3 (q_bc2 (q_bc1 x))))) 32) hx hb dJ13_bitCount_95d88_52 rfl ?_
  refine lv_ladd hx hb dJ13_bitCount_95d88_53 ?_
  refine q_top (v' := .long (q_bc6 (q_bc5 (q_bc4 (q_bc3 (q_bc2 (q_bc1 x))))))) rfl ?_
  refine lv_lstore_n (lv' := [(0, .long (q_bc6 (q_bc5 (q_bc4 (q_bc3 (q_bc2 (q_bc1 x)))))))]) hx hb dJ13_bitCount_95d88_54 rfl hl (by decide) rfl (fun ls hl => ?_)
  refine lv_lload_n hx hb dJ13_bitCount_95d88_55 rfl (lv_at hl 0 rfl) ?_
  refine lv_l2i (v := (q_bc6 (q_bc5 (q_bc4 (q_bc3 (q_bc2 (q_bc1 x)))))).toInt32) hx hb dJ13_bitCount_95d88_56 rfl ?_
  refine lv_bipush (v := nI 127) hx hb dJ13_bitCount_95d88_57 (by decide) ?_
  refine lv_iand hx hb dJ13_bitCount_95d88_59 ?_
  refine q_top (v' := .int (q_bc x)) rfl ?_
  exact q_reti C h rfl rfl rfl dJ13_bitCount_95d88_60

set_option maxHeartbeats 4000000 in
set_option maxRecDepth 100000 in
theorem c_X5_lowestOf (l : Launch) (G : vq_G) (x : Int64) : vq_i l yX5_lowestOf wsX5_lowestOf 1 21 G [.long x] [] (nI (q_low x)) [] := by
  refine vq_openi (cc := cX5_lowestOf) (maxL := 2) (ret := (some .int)) (Ts' := wsX5_lowestOf.tail) (by decide) rfl (Nat.le_of_ble_eq_true rfl) ?_
  intro p e s m args below meth c A ls C h hnm hl
  have hx := C.1.1
  have hb := C.1.2.1
  have hts := C.1.2.2.2.2
  have hl : lv_has ls 2 [(0, .long x)] := hl
  refine lv_lload_n hx hb dX5_lowestOf_0 rfl (lv_at hl 0 rfl) ?_
  refine lv_lload_n hx hb dX5_lowestOf_1 rfl (lv_at hl 0 rfl) ?_
  refine lv_lneg hx hb dX5_lowestOf_2 ?_
  refine lv_land hx hb dX5_lowestOf_3 ?_
  refine lv_lconst (v := 1) hx hb dX5_lowestOf_4 (by decide) ?_
  refine lv_lsub hx hb dX5_lowestOf_5 ?_
  refine q_callSi C h (c_J13_bitCount_95d88 l G ((x &&& (-x)) - 1)) (va_cwS 1 hts gX5_lowestOf_J13_bitCount_95d88 rfl rfl rfl (by decide +kernel) ⟨Nat.le_of_ble_eq_true rfl, Nat.le_of_ble_eq_true rfl⟩) [] rfl rfl [] (wr := []) rfl rfl (by decide) rfl hl.1 rfl (Nat.le_of_ble_eq_true rfl) dX5_lowestOf_6 ⟨Nat.zero_le _, Nat.zero_le _⟩ [] (w' := []) rfl rfl (fun H locs h => ?_)
  refine q_top (v' := .int (nI (q_low x))) (congrArg Value.int (q_bc_low x)) ?_
  exact q_reti C h rfl rfl rfl dX5_lowestOf_9

set_option maxHeartbeats 4000000 in
set_option maxRecDepth 100000 in
theorem c_X0_draw (l : Launch) (G : vq_G) (o0 ad : Nat) (gen : Int64) (sz : Nat) (bs : Int64) (row : Nat → Nat) (wh al : Nat) (w : Nat → Nat) (num : Int32) (B : Nat) (hW : ∀ j, w j ≤ 1000) (hs : 0 < q_sum w 12) (hB0 : 1 ≤ B) (hB : B ≤ 38) : vq_v l yX0_draw wsX0_draw 1 23 G [.ref o0, .int num, .ref wh, .int (nI B)] [(o0, .inr (0, [.ref ad, .long gen, .int (nI sz), .long bs])), (ad, .inl (G.2.1, 38, .inl (fun zz => nI (row zz)))), (wh, .inr (4, [.ref al])), (al, .inl (G.2.1, 12, .inl (fun zz => nI (w zz))))]  [(o0, .inr (0, [.ref ad, .long (q_gen w B num), .int (nI (q_sz w B num)), .long (q_set w B num)])), (ad, .inl (G.2.1, 38, .inl (fun zz => nI ((q_rowS row w B num) zz)))), (wh, .inr (4, [.ref al])), (al, .inl (G.2.1, 12, .inl (fun zz => nI (w zz))))] := by
  refine vq_openv (cc := cX0_draw) (maxL := 5) (ret := none) (Ts' := wsX0_draw.tail) (by decide) rfl (Nat.le_of_ble_eq_true rfl) ?_
  intro p e s m args below meth c A ls C h hnm hl
  have hx := C.1.1
  have hb := C.1.2.1
  have hts := C.1.2.2.2.2
  have hl : lv_has ls 5 [(0, .ref o0), (1, .int num), (2, .ref wh), (3, .int (nI B))] := hl
  have f15 := C.1.2.2.2.2 (.fieldLink RX0 15 "FountainCode$Drop" "generator" "J") (by decide +kernel)
  have iX0 : ∀ w ∈ u_ws RX0 TX0 4, w ∈ wsX0_draw := by decide +kernel
  have mn1 := C.1.2.2.2.2 (.methodLink RX0 32 Lib.Math.min.name) (by decide +kernel)
  have mn2 := C.1.2.2.2.2 (.static Lib.Math.min.name) (by decide +kernel)
  have mn3 := C.1.2.2.2.2 (.initialized "java/lang/Math") (by decide +kernel)
  have mn4 := C.1.2.2.2.2 (.code Lib.Math.min.name Lib.Math.min.code 2 (some .int)) (by decide +kernel)
  have f38 := C.1.2.2.2.2 (.fieldLink RX0 38 "FountainCode$Drop" "size" "I") (by decide +kernel)
  have f46 := C.1.2.2.2.2 (.fieldLink RX0 46 "FountainCode$Drop" "blockSet" "J") (by decide +kernel)
  have f9 := C.1.2.2.2.2 (.fieldLink RX0 9 "FountainCode$Drop" "row" "[I") (by decide +kernel)
  have iniX5 := C.1.2.2.2.2 (.initialized RX5) (by decide +kernel)
  have stX5_setOf := C.1.2.2.2.2 (.static yX5_setOf) (by decide +kernel)
  have hz := q_sz_le w B num
  refine lv_aload_n hx hb dX0_draw_0 rfl (lv_at hl 0 rfl) ?_
  refine lv_iload_n hx hb dX0_draw_1 rfl (lv_at hl 1 rfl) ?_
  refine lv_i2l (v := num.toInt64) hx hb dX0_draw_2 rfl ?_
  refine q_put (Cn := RX0) (T := TX0) (N := 4) (ci := 0) (v := .long num.toInt64) (w' := [(o0, .inr (0, [.ref ad, .long num.toInt64, .int (nI sz), .long bs])), (ad, .inl (G.2.1, 38, .inl (fun zz => nI (row zz)))), (wh, .inr (4, [.ref al])), (al, .inl (G.2.1, 12, .inl (fun zz => nI (w zz))))]) C h iX0 tyX0 tyX0_ok nmX0 0 rfl rfl 1 (by decide) f15 rfl rfl rfl (Nat.le_of_ble_eq_true rfl) dX0_draw_3 rfl (fun H locs h => ?_)
  refine lv_aload_n hx hb dX0_draw_6 rfl (lv_at hl 0 rfl) ?_
  refine lv_aload_n hx hb dX0_draw_7 rfl (lv_at hl 2 rfl) ?_
  refine lv_aload_n hx hb dX0_draw_8 rfl (lv_at hl 0 rfl) ?_
  refine lv_aload_n hx hb dX0_draw_9 rfl (lv_at hl 2 rfl) ?_
  refine q_callVi C h (c_X4_sum l G wh al w) (cwV 0 hts gX0_draw_X4_sum rfl rfl rfl (by decide +kernel) ⟨Nat.le_of_ble_eq_true rfl, Nat.le_of_ble_eq_true rfl⟩) [2, 3] rfl rfl [0, 1] (wr := [(o0, .inr (0, [.ref ad, .long num.toInt64, .int (nI sz), .long bs])), (ad, .inl (G.2.1, 38, .inl (fun zz => nI (row zz))))]) rfl rfl (by decide) 2 rfl rfl rfl hl.1 rfl (Nat.le_of_ble_eq_true rfl) dX0_draw_10 ⟨Nat.zero_le _, Nat.zero_le _⟩ [0, 1, 2, 3] (w' := [(o0, .inr (0, [.ref ad, .long num.toInt64, .int (nI sz), .long bs])), (ad, .inl (G.2.1, 38, .inl (fun zz => nI (row zz)))), (wh, .inr (4, [.ref al])), (al, .inl (G.2.1, 12, .inl (fun zz => nI (w zz))))]) rfl rfl (fun H locs h => ?_)
  refine q_top (v' := .int (nI (q_sum w 12))) rfl ?_
  refine q_callVi C h (c_X0_numberBelow l G o0 ad num.toInt64 sz bs row (q_sum w 12) hs (by have := q_sum_le hW 12; omega)) (cwV 1 hts gX0_draw_X0_numberBelow rfl rfl rfl (by decide +kernel) ⟨Nat.le_of_ble_eq_true rfl, Nat.le_of_ble_eq_true rfl⟩) [0, 1] rfl rfl [2, 3] (wr := [(wh, .inr (4, [.ref al])), (al, .inl (G.2.1, 12, .inl (fun zz => nI (w zz))))]) rfl rfl (by decide) 0 rfl rfl rfl hl.1 rfl (Nat.le_of_ble_eq_true rfl) dX0_draw_13 ⟨Nat.zero_le _, Nat.zero_le _⟩ [2, 3, 0, 1] (w' := [(o0, .inr (0, [.ref ad, .long (q_step num.toInt64), .int (nI sz), .long bs])), (ad, .inl (G.2.1, 38, .inl (fun zz => nI (row zz)))), (wh, .inr (4, [.ref al])), (al, .inl (G.2.1, 12, .inl (fun zz => nI (w zz))))]) rfl rfl (fun H locs h => ?_)
  refine q_top (v' := .int (nI (q_hi (q_g0 num) % q_sum w 12))) rfl ?_
  refine q_callVi C h (c_X4_degreeFor l G wh al w (q_hi (q_g0 num) % q_sum w 12) hW (Nat.mod_lt _ hs)) (cwV 1 hts gX0_draw_X4_degreeFor rfl rfl rfl (by decide +kernel) ⟨Nat.le_of_ble_eq_true rfl, Nat.le_of_ble_eq_true rfl⟩) [2, 3] rfl rfl [0, 1] (wr := [(o0, .inr (0, [.ref ad, .long (q_step num.toInt64), .int (nI sz), .long bs])), (ad, .inl (G.2.1, 38, .inl (fun zz => nI (row zz))))]) rfl rfl (by decide) 2 rfl rfl rfl hl.1 rfl (Nat.le_of_ble_eq_true rfl) dX0_draw_16 ⟨Nat.zero_le _, Nat.zero_le _⟩ [0, 1, 2, 3] (w' := [(o0, .inr (0, [.ref ad, .long (q_step num.toInt64), .int (nI sz), .long bs])), (ad, .inl (G.2.1, 38, .inl (fun zz => nI (row zz)))), (wh, .inr (4, [.ref al])), (al, .inl (G.2.1, 12, .inl (fun zz => nI (w zz))))]) rfl rfl (fun H locs h => ?_)
  refine lv_iload_n hx hb dX0_draw_19 rfl (lv_at hl 3 rfl) ?_
  refine q_min C h mn1 mn2 mn3 mn4 (a := q_deg w (q_hi (q_g0 num) % q_sum w 12)) (b := B) (by have := q_deg_le12 hW hs (q_hi (q_g0 num)); omega) (by omega) hl.1 (Nat.le_of_ble_eq_true rfl) (Nat.le_of_ble_eq_true rfl) ⟨Nat.zero_le _, Nat.zero_le _⟩ dX0_draw_20 ?_
  refine q_top (v' := .int (nI (q_sz w B num))) rfl ?_
  refine q_put (Cn := RX0) (T := TX0) (N := 4) (ci := 0) (v := .int (nI (q_sz w B num))) (w' := [(o0, .inr (0, [.ref ad, .long (q_step num.toInt64), .int (nI (q_sz w B num)), .long bs])), (ad, .inl (G.2.1, 38, .inl (fun zz => nI (row zz)))), (wh, .inr (4, [.ref al])), (al, .inl (G.2.1, 12, .inl (fun zz => nI (w zz))))]) C h iX0 tyX0 tyX0_ok nmX0 0 rfl rfl 2 (by decide) f38 rfl rfl rfl (Nat.le_of_ble_eq_true rfl) dX0_draw_23 rfl (fun H locs h => ?_)
  refine lv_aload_n hx hb dX0_draw_26 rfl (lv_at hl 0 rfl) ?_
  refine lv_iload_n hx hb dX0_draw_27 rfl (lv_at hl 3 rfl) ?_
  refine q_callVv C h (c_X0_lineUp l G o0 ad (q_step num.toInt64) (q_sz w B num) bs row B (by omega)) (cwV 1 hts gX0_draw_X0_lineUp rfl rfl rfl (by decide +kernel) ⟨Nat.le_of_ble_eq_true rfl, Nat.le_of_ble_eq_true rfl⟩) [0, 1] rfl rfl [2, 3] (wr := [(wh, .inr (4, [.ref al])), (al, .inl (G.2.1, 12, .inl (fun zz => nI (w zz))))]) rfl rfl (by decide) 0 rfl rfl rfl hl.1 rfl (Nat.le_of_ble_eq_true rfl) dX0_draw_28 ⟨Nat.zero_le _, Nat.zero_le _⟩ [2, 3, 0, 1] (w' := [(o0, .inr (0, [.ref ad, .long (q_step num.toInt64), .int (nI (q_sz w B num)), .long bs])), (ad, .inl (G.2.1, 38, .inl (fun zz => nI ((q_line row B) zz)))), (wh, .inr (4, [.ref al])), (al, .inl (G.2.1, 12, .inl (fun zz => nI (w zz))))]) rfl rfl (fun H locs h => ?_)
  refine lv_aload_n hx hb dX0_draw_31 rfl (lv_at hl 0 rfl) ?_
  refine lv_lconst (v := 0) hx hb dX0_draw_32 (by decide) ?_
  refine q_put (Cn := RX0) (T := TX0) (N := 4) (ci := 0) (v := .long 0) (w' := [(o0, .inr (0, [.ref ad, .long (q_step num.toInt64), .int (nI (q_sz w B num)), .long 0])), (ad, .inl (G.2.1, 38, .inl (fun zz => nI ((q_line row B) zz)))), (wh, .inr (4, [.ref al])), (al, .inl (G.2.1, 12, .inl (fun zz => nI (w zz))))]) C h iX0 tyX0 tyX0_ok nmX0 0 rfl rfl 3 (by decide) f46 rfl rfl rfl (Nat.le_of_ble_eq_true rfl) dX0_draw_33 rfl (fun H locs h => ?_)
  refine lv_iconst (v := nI 0) hx hb dX0_draw_36 (by decide) ?_
  refine lv_istore (lv' := [(4, .int (nI 0)), (0, .ref o0), (1, .int num), (2, .ref wh), (3, .int (nI B))]) hx hb dX0_draw_37 hl (by decide) rfl (fun ls hl => ?_)
  have loop39 : ∀ (fu : Nat) (k : Nat) (ro : Nat → Nat) (ge : Int64) (bt : Int64), q_sz w B num - k < fu → ro = (q_dr B (q_line row B) (q_g0 num) k).1 → ge = (q_dr B (q_line row B) (q_g0 num) k).2 → bt = q_ds B (q_line row B) (q_g0 num) k → (k ≤ q_sz w B num) → (∀ j, j < B → ro j < B) → ∀ (H : Heap) (locs : List Loc), vq_H G A s [(o0, .inr (0, [.ref ad, .long ge, .int (nI (q_sz w B num)), .long bt])), (ad, .inl (G.2.1, 38, .inl (fun zz => nI (ro zz)))), (wh, .inr (4, [.ref al])), (al, .inl (G.2.1, 12, .inl (fun zz => nI (w zz))))] H locs → ∀ (ls : Array Slot), lv_has ls 5 [(4, .int (nI k)), (0, .ref o0), (1, .int num), (2, .ref wh), (3, .int (nI B))] → W p l e ({ frames := 1, cells := 0, slots := 0, locals := 23 } : Room) s m args below meth c H locs 0 0 (MQ below (va_Qv (fun (_ : Unit) => True) (fun _ => vq_T G A [(o0, .inr (0, [.ref ad, .long (q_gen w B num), .int (nI (q_sz w B num)), .long (q_set w B num)])), (ad, .inl (G.2.1, 38, .inl (fun zz => nI ((q_rowS row w B num) zz)))), (wh, .inr (4, [.ref al])), (al, .inl (G.2.1, 12, .inl (fun zz => nI (w zz))))]) A) args s 0 0 A) (F0 m 39 ls []) := by
    intro fu
    induction fu with
    | zero => exact fun k ro ge bt hm => absurd hm (Nat.not_lt_zero _)
    | succ fu ih =>
      intro k ro ge bt hm39 e_ro e_ge e_bt hk hro H locs h ls hl
      have ih39 := ih
      clear ih
      refine lv_iload hx hb dX0_draw_39 (lv_at hl 0 rfl) ?_
      refine lv_aload_n hx hb dX0_draw_41 rfl (lv_at hl 1 rfl) ?_
      refine q_get (Cn := RX0) (T := TX0) (N := 4) (ci := 0) (v := .int (nI (q_sz w B num))) C h iX0 0 rfl rfl 2 (by decide) f38 rfl dX0_draw_42 ?_
      refine q_icmp_ge (tgt := 100) hx hb (by omega) (by omega) dX0_draw_45 (by decide) (fun z45 => ?_) (fun z45 => ?_)
      · exact q_retv C h rfl (by rw [e_ro, e_ge, e_bt, show k = q_sz w B num from by omega, q_gen_S, q_set_S]; rfl) dX0_draw_100
      · have hq : q_hi (q_step ge) % (B - k) < B - k := Nat.mod_lt _ (by omega)
        refine lv_iload hx hb dX0_draw_48 (lv_at hl 0 rfl) ?_
        refine lv_aload_n hx hb dX0_draw_50 rfl (lv_at hl 1 rfl) ?_
        refine q_get (Cn := RX0) (T := TX0) (N := 4) (ci := 0) (v := .ref ad) C h iX0 0 rfl rfl 0 (by decide) f9 rfl dX0_draw_51 ?_
        refine q_alen (n := 38) C h 1 rfl dX0_draw_54 ?_
        refine q_icmp_ge (tgt := 100) hx hb (by omega) (by omega) dX0_draw_55 (by decide) (fun z55 => absurd z55 (by omega)) (fun z55 => ?_)
        refine lv_aload_n hx hb dX0_draw_58 rfl (lv_at hl 1 rfl) ?_
        refine lv_iload hx hb dX0_draw_59 (lv_at hl 0 rfl) ?_
        refine lv_iload hx hb dX0_draw_61 (lv_at hl 0 rfl) ?_
        refine lv_aload_n hx hb dX0_draw_63 rfl (lv_at hl 1 rfl) ?_
        refine lv_iload_n hx hb dX0_draw_64 rfl (lv_at hl 4 rfl) ?_
        refine lv_iload hx hb dX0_draw_65 (lv_at hl 0 rfl) ?_
        refine q_isub hx hb (by omega) dX0_draw_67 ?_
        refine q_callVi C h (c_X0_numberBelow l G o0 ad ge (q_sz w B num) bt ro (B - k) (by omega) (by omega)) (cwV 1 hts gX0_draw_X0_numberBelow rfl rfl rfl (by decide +kernel) ⟨Nat.le_of_ble_eq_true rfl, Nat.le_of_ble_eq_true rfl⟩) [0, 1] rfl rfl [2, 3] (wr := [(wh, .inr (4, [.ref al])), (al, .inl (G.2.1, 12, .inl (fun zz => nI (w zz))))]) rfl rfl (by decide) 0 rfl rfl rfl hl.1 rfl (Nat.le_of_ble_eq_true rfl) dX0_draw_68 ⟨Nat.zero_le _, Nat.zero_le _⟩ [2, 3, 0, 1] (w' := [(o0, .inr (0, [.ref ad, .long (q_step ge), .int (nI (q_sz w B num)), .long bt])), (ad, .inl (G.2.1, 38, .inl (fun zz => nI (ro zz)))), (wh, .inr (4, [.ref al])), (al, .inl (G.2.1, 12, .inl (fun zz => nI (w zz))))]) rfl rfl (fun H locs h => ?_)
        refine q_iadd hx hb dX0_draw_71 ?_
        refine q_callVv C h (c_X0_swap l G o0 ad (q_step ge) (q_sz w B num) bt ro k (k + (q_hi (q_step ge) % (B - k))) (by omega) (by omega)) (cwV 2 hts gX0_draw_X0_swap rfl rfl rfl (by decide +kernel) ⟨Nat.le_of_ble_eq_true rfl, Nat.le_of_ble_eq_true rfl⟩) [0, 1] rfl rfl [2, 3] (wr := [(wh, .inr (4, [.ref al])), (al, .inl (G.2.1, 12, .inl (fun zz => nI (w zz))))]) rfl rfl (by decide) 0 rfl rfl rfl hl.1 rfl (Nat.le_of_ble_eq_true rfl) dX0_draw_72 ⟨Nat.zero_le _, Nat.zero_le _⟩ [2, 3, 0, 1] (w' := [(o0, .inr (0, [.ref ad, .long (q_step ge), .int (nI (q_sz w B num)), .long bt])), (ad, .inl (G.2.1, 38, .inl (fun zz => nI ((va_up (va_up ro k (ro (k + (q_hi (q_step ge) % (B - k))))) (k + (q_hi (q_step ge) % (B - k))) (ro k)) zz)))), (wh, .inr (4, [.ref al])), (al, .inl (G.2.1, 12, .inl (fun zz => nI (w zz))))]) rfl rfl (fun H locs h => ?_)
        refine lv_aload_n hx hb dX0_draw_75 rfl (lv_at hl 1 rfl) ?_
        refine lv_dup hx hb dX0_draw_76 rfl ?_
        refine q_get (Cn := RX0) (T := TX0) (N := 4) (ci := 0) (v := .long bt) C h iX0 0 rfl rfl 3 (by decide) f46 rfl dX0_draw_77 ?_
        refine lv_aload_n hx hb dX0_draw_80 rfl (lv_at hl 1 rfl) ?_
        refine q_get (Cn := RX0) (T := TX0) (N := 4) (ci := 0) (v := .ref ad) C h iX0 0 rfl rfl 0 (by decide) f9 rfl dX0_draw_81 ?_
        refine lv_iload hx hb dX0_draw_84 (lv_at hl 0 rfl) ?_
        refine q_iald (i := k) (v := (nI ((va_up (va_up ro k (ro (k + (q_hi (q_step ge) % (B - k))))) (k + (q_hi (q_step ge) % (B - k))) (ro k)) k))) C h 1 rfl (by omega) (by omega) rfl dX0_draw_86 ?_
        refine q_callNl C h (c_X5_setOf l G ((va_up (va_up ro k (ro (k + (q_hi (q_step ge) % (B - k))))) (k + (q_hi (q_step ge) % (B - k))) (ro k)) k) (Nat.lt_of_lt_of_le (q_swap_lt hro (by omega) (by omega) k (by omega)) (by omega))) ⟨va_cnB 1 hts gX0_draw_X5_setOf_n53 rfl rfl rfl (C.2.2.1.at 10 rfl) iniX5 (by decide +kernel) ⟨Nat.le_of_ble_eq_true rfl, Nat.le_of_ble_eq_true rfl⟩, stX5_setOf, trivial⟩ [] rfl rfl [0, 1, 2, 3] (wr := [(o0, .inr (0, [.ref ad, .long (q_step ge), .int (nI (q_sz w B num)), .long bt])), (ad, .inl (G.2.1, 38, .inl (fun zz => nI ((va_up (va_up ro k (ro (k + (q_hi (q_step ge) % (B - k))))) (k + (q_hi (q_step ge) % (B - k))) (ro k)) zz)))), (wh, .inr (4, [.ref al])), (al, .inl (G.2.1, 12, .inl (fun zz => nI (w zz))))]) rfl rfl (by decide) rfl hl.1 rfl (Nat.le_of_ble_eq_true rfl) dX0_draw_87 ⟨Nat.zero_le _, Nat.zero_le _⟩ [0, 1, 2, 3] (w' := [(o0, .inr (0, [.ref ad, .long (q_step ge), .int (nI (q_sz w B num)), .long bt])), (ad, .inl (G.2.1, 38, .inl (fun zz => nI ((va_up (va_up ro k (ro (k + (q_hi (q_step ge) % (B - k))))) (k + (q_hi (q_step ge) % (B - k))) (ro k)) zz)))), (wh, .inr (4, [.ref al])), (al, .inl (G.2.1, 12, .inl (fun zz => nI (w zz))))]) rfl rfl (fun H locs h => ?_)
        refine lv_lor hx hb dX0_draw_90 ?_
        refine q_put (Cn := RX0) (T := TX0) (N := 4) (ci := 0) (v := .long (bt ||| (q_bit ((va_up (va_up ro k (ro (k + (q_hi (q_step ge) % (B - k))))) (k + (q_hi (q_step ge) % (B - k))) (ro k)) k)))) (w' := [(o0, .inr (0, [.ref ad, .long (q_step ge), .int (nI (q_sz w B num)), .long (bt ||| (q_bit ((va_up (va_up ro k (ro (k + (q_hi (q_step ge) % (B - k))))) (k + (q_hi (q_step ge) % (B - k))) (ro k)) k)))])), (ad, .inl (G.2.1, 38, .inl (fun zz => nI ((va_up (va_up ro k (ro (k + (q_hi (q_step ge) % (B - k))))) (k + (q_hi (q_step ge) % (B - k))) (ro k)) zz)))), (wh, .inr (4, [.ref al])), (al, .inl (G.2.1, 12, .inl (fun zz => nI (w zz))))]) C h iX0 tyX0 tyX0_ok nmX0 0 rfl rfl 3 (by decide) f46 rfl rfl rfl (Nat.le_of_ble_eq_true rfl) dX0_draw_91 rfl (fun H locs h => ?_)
        refine lv_iinc (v := nI (k + 1)) (lv' := [(4, .int (nI (k + 1))), (0, .ref o0), (1, .int num), (2, .ref wh), (3, .int (nI B))]) hx hb dX0_draw_94 hl (k := 0) rfl (q_inc k) (by decide) rfl (fun ls hl => ?_)
        refine lv_goto (tgt := 39) hx hb dX0_draw_97 (by decide) ?_
        exact ih39 (k + 1) (va_up (va_up ro k (ro (k + (q_hi (q_step ge) % (B - k))))) (k + (q_hi (q_step ge) % (B - k))) (ro k)) (q_step ge) (bt ||| (q_bit ((va_up (va_up ro k (ro (k + (q_hi (q_step ge) % (B - k))))) (k + (q_hi (q_step ge) % (B - k))) (ro k)) k))) (by omega) (show (va_up (va_up ro k (ro (k + (q_hi (q_step ge) % (B - k))))) (k + (q_hi (q_step ge) % (B - k))) (ro k)) = (q_dr B (q_line row B) (q_g0 num) (k + 1)).1 from (by rw [e_ro, e_ge]; rfl)) (show (q_step ge) = (q_dr B (q_line row B) (q_g0 num) (k + 1)).2 from (by rw [e_ge]; rfl)) (show (bt ||| (q_bit ((va_up (va_up ro k (ro (k + (q_hi (q_step ge) % (B - k))))) (k + (q_hi (q_step ge) % (B - k))) (ro k)) k))) = q_ds B (q_line row B) (q_g0 num) (k + 1) from (by rw [e_bt, e_ro, e_ge]; rfl)) (show (k + 1) ≤ q_sz w B num from (by omega)) (show ∀ j, j < B → (va_up (va_up ro k (ro (k + (q_hi (q_step ge) % (B - k))))) (k + (q_hi (q_step ge) % (B - k))) (ro k)) j < B from (q_swap_lt hro (by omega) (by omega))) _ _ h _ (lv_sub hl [0, 1, 2, 3, 4] rfl)
  exact loop39 (q_sz w B num - 0 + 1) 0 (q_line row B) (q_step num.toInt64) 0 (Nat.lt_succ_self _) (show (q_line row B) = (q_dr B (q_line row B) (q_g0 num) 0).1 from rfl) (show (q_step num.toInt64) = (q_dr B (q_line row B) (q_g0 num) 0).2 from rfl) (show 0 = q_ds B (q_line row B) (q_g0 num) 0 from rfl) (show 0 ≤ q_sz w B num from (Nat.zero_le _)) (show ∀ j, j < B → (q_line row B) j < B from (q_line_lt row)) _ _ h _ (lv_sub hl [0, 1, 2, 3, 4] rfl)

set_option maxHeartbeats 4000000 in
set_option maxRecDepth 100000 in
theorem c_X2_equationCount (l : Launch) (G : vq_G) (o0 ae ao ab : Nat) (nn pk : Nat) (ps : Int64) (msk : Nat → Int64) (po : Nat → Nat) (pb : Nat → Int32) : vq_i l yX2_equationCount wsX2_equationCount 0 0 G [.ref o0] [(o0, .inr (2, [.ref ae, .int (nI nn), .ref ao, .ref ab, .int (nI pk), .long ps])), (ae, .inl (G.2.2, 126, .inr (.inl msk))), (ao, .inl (G.2.1, 38, .inl (fun zz => nI (po zz)))), (ab, .inl (G.2.1, 38, .inl pb))] (nI nn) [(o0, .inr (2, [.ref ae, .int (nI nn), .ref ao, .ref ab, .int (nI pk), .long ps])), (ae, .inl (G.2.2, 126, .inr (.inl msk))), (ao, .inl (G.2.1, 38, .inl (fun zz => nI (po zz)))), (ab, .inl (G.2.1, 38, .inl pb))] := by
  refine vq_openi (cc := cX2_equationCount) (maxL := 1) (ret := (some .int)) (Ts' := wsX2_equationCount.tail) (by decide) rfl (Nat.le_of_ble_eq_true rfl) ?_
  intro p e s m args below meth c A ls C h hnm hl
  have hx := C.1.1
  have hb := C.1.2.1
  have hts := C.1.2.2.2.2
  have hl : lv_has ls 1 [(0, .ref o0)] := hl
  have f22 := C.1.2.2.2.2 (.fieldLink RX2 22 "FountainCode$Peeler" "equationCount" "I") (by decide +kernel)
  have iX2 : ∀ w ∈ u_ws RX2 TX2 6, w ∈ wsX2_equationCount := by decide +kernel
  refine lv_aload_n hx hb dX2_equationCount_0 rfl (lv_at hl 0 rfl) ?_
  refine q_get (Cn := RX2) (T := TX2) (N := 6) (ci := 2) (v := .int (nI nn)) C h iX2 0 rfl rfl 1 (by decide) f22 rfl dX2_equationCount_1 ?_
  exact q_reti C h rfl rfl rfl dX2_equationCount_4

set_option maxHeartbeats 4000000 in
set_option maxRecDepth 100000 in
theorem c_X2_peeledCount (l : Launch) (G : vq_G) (o0 ae ao ab : Nat) (nn pk : Nat) (ps : Int64) (msk : Nat → Int64) (po : Nat → Nat) (pb : Nat → Int32) : vq_i l yX2_peeledCount wsX2_peeledCount 0 0 G [.ref o0] [(o0, .inr (2, [.ref ae, .int (nI nn), .ref ao, .ref ab, .int (nI pk), .long ps])), (ae, .inl (G.2.2, 126, .inr (.inl msk))), (ao, .inl (G.2.1, 38, .inl (fun zz => nI (po zz)))), (ab, .inl (G.2.1, 38, .inl pb))] (nI pk) [(o0, .inr (2, [.ref ae, .int (nI nn), .ref ao, .ref ab, .int (nI pk), .long ps])), (ae, .inl (G.2.2, 126, .inr (.inl msk))), (ao, .inl (G.2.1, 38, .inl (fun zz => nI (po zz)))), (ab, .inl (G.2.1, 38, .inl pb))] := by
  refine vq_openi (cc := cX2_peeledCount) (maxL := 1) (ret := (some .int)) (Ts' := wsX2_peeledCount.tail) (by decide) rfl (Nat.le_of_ble_eq_true rfl) ?_
  intro p e s m args below meth c A ls C h hnm hl
  have hx := C.1.1
  have hb := C.1.2.1
  have hts := C.1.2.2.2.2
  have hl : lv_has ls 1 [(0, .ref o0)] := hl
  have f26 := C.1.2.2.2.2 (.fieldLink RX2 26 "FountainCode$Peeler" "peeledCount" "I") (by decide +kernel)
  have iX2 : ∀ w ∈ u_ws RX2 TX2 6, w ∈ wsX2_peeledCount := by decide +kernel
  refine lv_aload_n hx hb dX2_peeledCount_0 rfl (lv_at hl 0 rfl) ?_
  refine q_get (Cn := RX2) (T := TX2) (N := 6) (ci := 2) (v := .int (nI pk)) C h iX2 0 rfl rfl 4 (by decide) f26 rfl dX2_peeledCount_1 ?_
  exact q_reti C h rfl rfl rfl dX2_peeledCount_4

set_option maxHeartbeats 4000000 in
set_option maxRecDepth 100000 in
theorem c_X2_peeledInPlace (l : Launch) (G : vq_G) (o0 ae ao ab : Nat) (nn pk : Nat) (ps : Int64) (msk : Nat → Int64) (po : Nat → Nat) (pb : Nat → Int32) (i : Nat) (hi : i < 38) : vq_i l yX2_peeledInPlace wsX2_peeledInPlace 0 0 G [.ref o0, .int (nI i)] [(o0, .inr (2, [.ref ae, .int (nI nn), .ref ao, .ref ab, .int (nI pk), .long ps])), (ae, .inl (G.2.2, 126, .inr (.inl msk))), (ao, .inl (G.2.1, 38, .inl (fun zz => nI (po zz)))), (ab, .inl (G.2.1, 38, .inl pb))] (nI (po i)) [(o0, .inr (2, [.ref ae, .int (nI nn), .ref ao, .ref ab, .int (nI pk), .long ps])), (ae, .inl (G.2.2, 126, .inr (.inl msk))), (ao, .inl (G.2.1, 38, .inl (fun zz => nI (po zz)))), (ab, .inl (G.2.1, 38, .inl pb))] := by
  refine vq_openi (cc := cX2_peeledInPlace) (maxL := 2) (ret := (some .int)) (Ts' := wsX2_peeledInPlace.tail) (by decide) rfl (Nat.le_of_ble_eq_true rfl) ?_
  intro p e s m args below meth c A ls C h hnm hl
  have hx := C.1.1
  have hb := C.1.2.1
  have hts := C.1.2.2.2.2
  have hl : lv_has ls 2 [(0, .ref o0), (1, .int (nI i))] := hl
  have f15 := C.1.2.2.2.2 (.fieldLink RX2 15 "FountainCode$Peeler" "peelOrder" "[I") (by decide +kernel)
  have iX2 : ∀ w ∈ u_ws RX2 TX2 6, w ∈ wsX2_peeledInPlace := by decide +kernel
  refine lv_iload_n hx hb dX2_peeledInPlace_0 rfl (lv_at hl 1 rfl) ?_
  refine q_if_lt (tgt := 22) hx hb (by omega) dX2_peeledInPlace_1 (by decide) (fun z1 => absurd z1 (by omega)) (fun z1 => ?_)
  refine lv_iload_n hx hb dX2_peeledInPlace_4 rfl (lv_at hl 1 rfl) ?_
  refine lv_aload_n hx hb dX2_peeledInPlace_5 rfl (lv_at hl 0 rfl) ?_
  refine q_get (Cn := RX2) (T := TX2) (N := 6) (ci := 2) (v := .ref ao) C h iX2 0 rfl rfl 2 (by decide) f15 rfl dX2_peeledInPlace_6 ?_
  refine q_alen (n := 38) C h 2 rfl dX2_peeledInPlace_9 ?_
  refine q_icmp_ge (tgt := 22) hx hb (by omega) (by omega) dX2_peeledInPlace_10 (by decide) (fun z10 => absurd z10 (by omega)) (fun z10 => ?_)
  refine lv_aload_n hx hb dX2_peeledInPlace_13 rfl (lv_at hl 0 rfl) ?_
  refine q_get (Cn := RX2) (T := TX2) (N := 6) (ci := 2) (v := .ref ao) C h iX2 0 rfl rfl 2 (by decide) f15 rfl dX2_peeledInPlace_14 ?_
  refine lv_iload_n hx hb dX2_peeledInPlace_17 rfl (lv_at hl 1 rfl) ?_
  refine q_iald (i := i) (v := (nI (po i))) C h 2 rfl (by omega) (by omega) rfl dX2_peeledInPlace_18 ?_
  refine lv_goto (tgt := 23) hx hb dX2_peeledInPlace_19 (by decide) ?_
  exact q_reti C h rfl rfl rfl dX2_peeledInPlace_23

set_option maxHeartbeats 4000000 in
set_option maxRecDepth 100000 in
theorem c_X2_equationThatPeeled (l : Launch) (G : vq_G) (o0 ae ao ab : Nat) (nn pk : Nat) (ps : Int64) (msk : Nat → Int64) (po : Nat → Nat) (pb : Nat → Int32) (i : Nat) (hi : i < 38) : vq_i l yX2_equationThatPeeled wsX2_equationThatPeeled 0 0 G [.ref o0, .int (nI i)] [(o0, .inr (2, [.ref ae, .int (nI nn), .ref ao, .ref ab, .int (nI pk), .long ps])), (ae, .inl (G.2.2, 126, .inr (.inl msk))), (ao, .inl (G.2.1, 38, .inl (fun zz => nI (po zz)))), (ab, .inl (G.2.1, 38, .inl pb))] (pb i) [(o0, .inr (2, [.ref ae, .int (nI nn), .ref ao, .ref ab, .int (nI pk), .long ps])), (ae, .inl (G.2.2, 126, .inr (.inl msk))), (ao, .inl (G.2.1, 38, .inl (fun zz => nI (po zz)))), (ab, .inl (G.2.1, 38, .inl pb))] := by
  refine vq_openi (cc := cX2_equationThatPeeled) (maxL := 2) (ret := (some .int)) (Ts' := wsX2_equationThatPeeled.tail) (by decide) rfl (Nat.le_of_ble_eq_true rfl) ?_
  intro p e s m args below meth c A ls C h hnm hl
  have hx := C.1.1
  have hb := C.1.2.1
  have hts := C.1.2.2.2.2
  have hl : lv_has ls 2 [(0, .ref o0), (1, .int (nI i))] := hl
  have f19 := C.1.2.2.2.2 (.fieldLink RX2 19 "FountainCode$Peeler" "peelEquations" "[I") (by decide +kernel)
  have iX2 : ∀ w ∈ u_ws RX2 TX2 6, w ∈ wsX2_equationThatPeeled := by decide +kernel
  refine lv_iload_n hx hb dX2_equationThatPeeled_0 rfl (lv_at hl 1 rfl) ?_
  refine q_if_lt (tgt := 22) hx hb (by omega) dX2_equationThatPeeled_1 (by decide) (fun z1 => absurd z1 (by omega)) (fun z1 => ?_)
  refine lv_iload_n hx hb dX2_equationThatPeeled_4 rfl (lv_at hl 1 rfl) ?_
  refine lv_aload_n hx hb dX2_equationThatPeeled_5 rfl (lv_at hl 0 rfl) ?_
  refine q_get (Cn := RX2) (T := TX2) (N := 6) (ci := 2) (v := .ref ab) C h iX2 0 rfl rfl 3 (by decide) f19 rfl dX2_equationThatPeeled_6 ?_
  refine q_alen (n := 38) C h 3 rfl dX2_equationThatPeeled_9 ?_
  refine q_icmp_ge (tgt := 22) hx hb (by omega) (by omega) dX2_equationThatPeeled_10 (by decide) (fun z10 => absurd z10 (by omega)) (fun z10 => ?_)
  refine lv_aload_n hx hb dX2_equationThatPeeled_13 rfl (lv_at hl 0 rfl) ?_
  refine q_get (Cn := RX2) (T := TX2) (N := 6) (ci := 2) (v := .ref ab) C h iX2 0 rfl rfl 3 (by decide) f19 rfl dX2_equationThatPeeled_14 ?_
  refine lv_iload_n hx hb dX2_equationThatPeeled_17 rfl (lv_at hl 1 rfl) ?_
  refine q_iald (i := i) (v := (pb i)) C h 3 rfl (by omega) (by omega) rfl dX2_equationThatPeeled_18 ?_
  refine lv_goto (tgt := 23) hx hb dX2_equationThatPeeled_19 (by decide) ?_
  exact q_reti C h rfl rfl rfl dX2_equationThatPeeled_23

set_option maxHeartbeats 4000000 in
set_option maxRecDepth 100000 in
theorem c_X2_clear (l : Launch) (G : vq_G) (o0 ae ao ab : Nat) (nn pk : Nat) (ps : Int64) (msk : Nat → Int64) (po : Nat → Nat) (pb : Nat → Int32) : vq_v l yX2_clear wsX2_clear 1 23 G [.ref o0] [(o0, .inr (2, [.ref ae, .int (nI nn), .ref ao, .ref ab, .int (nI pk), .long ps])), (ae, .inl (G.2.2, 126, .inr (.inl msk))), (ao, .inl (G.2.1, 38, .inl (fun zz => nI (po zz)))), (ab, .inl (G.2.1, 38, .inl pb))]  [(o0, .inr (2, [.ref ae, .int (nI 0), .ref ao, .ref ab, .int (nI 0), .long 0])), (ae, .inl (G.2.2, 126, .inr (.inl msk))), (ao, .inl (G.2.1, 38, .inl (fun zz => nI (po zz)))), (ab, .inl (G.2.1, 38, .inl (fun _ => (-1))))] := by
  refine vq_openv (cc := cX2_clear) (maxL := 1) (ret := none) (Ts' := wsX2_clear.tail) (by decide) rfl (Nat.le_of_ble_eq_true rfl) ?_
  intro p e s m args below meth c A ls C h hnm hl
  have hx := C.1.1
  have hb := C.1.2.1
  have hts := C.1.2.2.2.2
  have hl : lv_has ls 1 [(0, .ref o0)] := hl
  have f22 := C.1.2.2.2.2 (.fieldLink RX2 22 "FountainCode$Peeler" "equationCount" "I") (by decide +kernel)
  have iX2 : ∀ w ∈ u_ws RX2 TX2 6, w ∈ wsX2_clear := by decide +kernel
  have f26 := C.1.2.2.2.2 (.fieldLink RX2 26 "FountainCode$Peeler" "peeledCount" "I") (by decide +kernel)
  have f29 := C.1.2.2.2.2 (.fieldLink RX2 29 "FountainCode$Peeler" "peeledSet" "J") (by decide +kernel)
  have f19 := C.1.2.2.2.2 (.fieldLink RX2 19 "FountainCode$Peeler" "peelEquations" "[I") (by decide +kernel)
  refine lv_aload_n hx hb dX2_clear_0 rfl (lv_at hl 0 rfl) ?_
  refine lv_iconst (v := nI 0) hx hb dX2_clear_1 (by decide) ?_
  refine q_put (Cn := RX2) (T := TX2) (N := 6) (ci := 2) (v := .int (nI 0)) (w' := [(o0, .inr (2, [.ref ae, .int (nI 0), .ref ao, .ref ab, .int (nI pk), .long ps])), (ae, .inl (G.2.2, 126, .inr (.inl msk))), (ao, .inl (G.2.1, 38, .inl (fun zz => nI (po zz)))), (ab, .inl (G.2.1, 38, .inl pb))]) C h iX2 tyX2 tyX2_ok nmX2 0 rfl rfl 1 (by decide) f22 rfl rfl rfl (Nat.le_of_ble_eq_true rfl) dX2_clear_2 rfl (fun H locs h => ?_)
  refine lv_aload_n hx hb dX2_clear_5 rfl (lv_at hl 0 rfl) ?_
  refine lv_iconst (v := nI 0) hx hb dX2_clear_6 (by decide) ?_
  refine q_put (Cn := RX2) (T := TX2) (N := 6) (ci := 2) (v := .int (nI 0)) (w' := [(o0, .inr (2, [.ref ae, .int (nI 0), .ref ao, .ref ab, .int (nI 0), .long ps])), (ae, .inl (G.2.2, 126, .inr (.inl msk))), (ao, .inl (G.2.1, 38, .inl (fun zz => nI (po zz)))), (ab, .inl (G.2.1, 38, .inl pb))]) C h iX2 tyX2 tyX2_ok nmX2 0 rfl rfl 4 (by decide) f26 rfl rfl rfl (Nat.le_of_ble_eq_true rfl) dX2_clear_7 rfl (fun H locs h => ?_)
  refine lv_aload_n hx hb dX2_clear_10 rfl (lv_at hl 0 rfl) ?_
  refine lv_lconst (v := 0) hx hb dX2_clear_11 (by decide) ?_
  refine q_put (Cn := RX2) (T := TX2) (N := 6) (ci := 2) (v := .long 0) (w' := [(o0, .inr (2, [.ref ae, .int (nI 0), .ref ao, .ref ab, .int (nI 0), .long 0])), (ae, .inl (G.2.2, 126, .inr (.inl msk))), (ao, .inl (G.2.1, 38, .inl (fun zz => nI (po zz)))), (ab, .inl (G.2.1, 38, .inl pb))]) C h iX2 tyX2 tyX2_ok nmX2 0 rfl rfl 5 (by decide) f29 rfl rfl rfl (Nat.le_of_ble_eq_true rfl) dX2_clear_12 rfl (fun H locs h => ?_)
  refine lv_aload_n hx hb dX2_clear_15 rfl (lv_at hl 0 rfl) ?_
  refine q_get (Cn := RX2) (T := TX2) (N := 6) (ci := 2) (v := .ref ab) C h iX2 0 rfl rfl 3 (by decide) f19 rfl dX2_clear_16 ?_
  refine lv_iconst (v := (-1)) hx hb dX2_clear_19 (by decide) ?_
  refine q_callSv C h (c_J7_fill_53178 l G ab 38 pb (-1) (by decide)) (va_cwS 2 hts gX2_clear_J7_fill_53178 rfl rfl rfl (by decide +kernel) ⟨Nat.le_of_ble_eq_true rfl, Nat.le_of_ble_eq_true rfl⟩) [3] rfl rfl [0, 1, 2] (wr := [(o0, .inr (2, [.ref ae, .int (nI 0), .ref ao, .ref ab, .int (nI 0), .long 0])), (ae, .inl (G.2.2, 126, .inr (.inl msk))), (ao, .inl (G.2.1, 38, .inl (fun zz => nI (po zz))))]) rfl rfl (by decide) rfl hl.1 rfl (Nat.le_of_ble_eq_true rfl) dX2_clear_20 ⟨Nat.zero_le _, Nat.zero_le _⟩ [0, 1, 2, 3] (w' := [(o0, .inr (2, [.ref ae, .int (nI 0), .ref ao, .ref ab, .int (nI 0), .long 0])), (ae, .inl (G.2.2, 126, .inr (.inl msk))), (ao, .inl (G.2.1, 38, .inl (fun zz => nI (po zz)))), (ab, .inl (G.2.1, 38, .inl (fun _ => (-1))))]) rfl rfl (fun H locs h => ?_)
  exact q_retv C h rfl rfl dX2_clear_23

set_option maxHeartbeats 4000000 in
set_option maxRecDepth 100000 in
theorem c_X2_addEquation (l : Launch) (G : vq_G) (o0 ae ao ab : Nat) (nn pk : Nat) (ps : Int64) (msk : Nat → Int64) (po : Nat → Nat) (pb : Nat → Int32) (x : Int64) (hn : nn < 126) : vq_v l yX2_addEquation wsX2_addEquation 0 0 G [.ref o0, .long x] [(o0, .inr (2, [.ref ae, .int (nI nn), .ref ao, .ref ab, .int (nI pk), .long ps])), (ae, .inl (G.2.2, 126, .inr (.inl msk))), (ao, .inl (G.2.1, 38, .inl (fun zz => nI (po zz)))), (ab, .inl (G.2.1, 38, .inl pb))]  [(o0, .inr (2, [.ref ae, .int (nI (nn + 1)), .ref ao, .ref ab, .int (nI pk), .long ps])), (ae, .inl (G.2.2, 126, .inr (.inl (vp_updL msk nn x)))), (ao, .inl (G.2.1, 38, .inl (fun zz => nI (po zz)))), (ab, .inl (G.2.1, 38, .inl pb))] := by
  refine vq_openv (cc := cX2_addEquation) (maxL := 3) (ret := none) (Ts' := wsX2_addEquation.tail) (by decide) rfl (Nat.le_of_ble_eq_true rfl) ?_
  intro p e s m args below meth c A ls C h hnm hl
  have hx := C.1.1
  have hb := C.1.2.1
  have hts := C.1.2.2.2.2
  have hl : lv_has ls 3 [(0, .ref o0), (1, .long x)] := hl
  have f22 := C.1.2.2.2.2 (.fieldLink RX2 22 "FountainCode$Peeler" "equationCount" "I") (by decide +kernel)
  have iX2 : ∀ w ∈ u_ws RX2 TX2 6, w ∈ wsX2_addEquation := by decide +kernel
  have f9 := C.1.2.2.2.2 (.fieldLink RX2 9 "FountainCode$Peeler" "equationSets" "[J") (by decide +kernel)
  refine lv_aload_n hx hb dX2_addEquation_0 rfl (lv_at hl 0 rfl) ?_
  refine q_get (Cn := RX2) (T := TX2) (N := 6) (ci := 2) (v := .int (nI nn)) C h iX2 0 rfl rfl 1 (by decide) f22 rfl dX2_addEquation_1 ?_
  refine q_if_lt (tgt := 39) hx hb (by omega) dX2_addEquation_4 (by decide) (fun z4 => absurd z4 (by omega)) (fun z4 => ?_)
  refine lv_aload_n hx hb dX2_addEquation_7 rfl (lv_at hl 0 rfl) ?_
  refine q_get (Cn := RX2) (T := TX2) (N := 6) (ci := 2) (v := .int (nI nn)) C h iX2 0 rfl rfl 1 (by decide) f22 rfl dX2_addEquation_8 ?_
  refine lv_aload_n hx hb dX2_addEquation_11 rfl (lv_at hl 0 rfl) ?_
  refine q_get (Cn := RX2) (T := TX2) (N := 6) (ci := 2) (v := .ref ae) C h iX2 0 rfl rfl 0 (by decide) f9 rfl dX2_addEquation_12 ?_
  refine q_alenL (n := 126) C h 1 rfl dX2_addEquation_15 ?_
  refine q_icmp_ge (tgt := 39) hx hb (by omega) (by omega) dX2_addEquation_16 (by decide) (fun z16 => absurd z16 (by omega)) (fun z16 => ?_)
  refine lv_aload_n hx hb dX2_addEquation_19 rfl (lv_at hl 0 rfl) ?_
  refine q_get (Cn := RX2) (T := TX2) (N := 6) (ci := 2) (v := .ref ae) C h iX2 0 rfl rfl 0 (by decide) f9 rfl dX2_addEquation_20 ?_
  refine lv_aload_n hx hb dX2_addEquation_23 rfl (lv_at hl 0 rfl) ?_
  refine q_get (Cn := RX2) (T := TX2) (N := 6) (ci := 2) (v := .int (nI nn)) C h iX2 0 rfl rfl 1 (by decide) f22 rfl dX2_addEquation_24 ?_
  refine lv_lload_n hx hb dX2_addEquation_27 rfl (lv_at hl 1 rfl) ?_
  refine q_last (i := nn) (g := vp_updL msk nn x) (w' := [(o0, .inr (2, [.ref ae, .int (nI nn), .ref ao, .ref ab, .int (nI pk), .long ps])), (ae, .inl (G.2.2, 126, .inr (.inl (vp_updL msk nn x)))), (ao, .inl (G.2.1, 38, .inl (fun zz => nI (po zz)))), (ab, .inl (G.2.1, 38, .inl pb))]) C h 1 rfl (by omega) (by omega) rfl rfl dX2_addEquation_28 (fun H locs h => ?_)
  refine lv_aload_n hx hb dX2_addEquation_29 rfl (lv_at hl 0 rfl) ?_
  refine lv_dup hx hb dX2_addEquation_30 rfl ?_
  refine q_get (Cn := RX2) (T := TX2) (N := 6) (ci := 2) (v := .int (nI nn)) C h iX2 0 rfl rfl 1 (by decide) f22 rfl dX2_addEquation_31 ?_
  refine lv_iconst (v := nI 1) hx hb dX2_addEquation_34 (by decide) ?_
  refine q_iadd hx hb dX2_addEquation_35 ?_
  refine q_put (Cn := RX2) (T := TX2) (N := 6) (ci := 2) (v := .int (nI (nn + 1))) (w' := [(o0, .inr (2, [.ref ae, .int (nI (nn + 1)), .ref ao, .ref ab, .int (nI pk), .long ps])), (ae, .inl (G.2.2, 126, .inr (.inl (vp_updL msk nn x)))), (ao, .inl (G.2.1, 38, .inl (fun zz => nI (po zz)))), (ab, .inl (G.2.1, 38, .inl pb))]) C h iX2 tyX2 tyX2_ok nmX2 0 rfl rfl 1 (by decide) f22 rfl rfl rfl (Nat.le_of_ble_eq_true rfl) dX2_addEquation_36 rfl (fun H locs h => ?_)
  exact q_retv C h rfl rfl dX2_addEquation_39

set_option maxHeartbeats 4000000 in
set_option maxRecDepth 100000 in
theorem c_X2_lowestReady_n (l : Launch) (G : vq_G) (o0 ae ao ab : Nat) (nn pk : Nat) (ps : Int64) (msk : Nat → Int64) (po : Nat → Nat) (pb : Nat → Int32) (hn : nn ≤ 126) (hF : ∀ j, j < nn → q_rd msk ps j = false) : vq_i l yX2_lowestReady wsX2_lowestReady 1 21 G [.ref o0] [(o0, .inr (2, [.ref ae, .int (nI nn), .ref ao, .ref ab, .int (nI pk), .long ps])), (ae, .inl (G.2.2, 126, .inr (.inl msk))), (ao, .inl (G.2.1, 38, .inl (fun zz => nI (po zz)))), (ab, .inl (G.2.1, 38, .inl pb))] (-1) [(o0, .inr (2, [.ref ae, .int (nI nn), .ref ao, .ref ab, .int (nI pk), .long ps])), (ae, .inl (G.2.2, 126, .inr (.inl msk))), (ao, .inl (G.2.1, 38, .inl (fun zz => nI (po zz)))), (ab, .inl (G.2.1, 38, .inl pb))] := by
  refine vq_openi (cc := cX2_lowestReady) (maxL := 2) (ret := (some .int)) (Ts' := wsX2_lowestReady.tail) (by decide) rfl (Nat.le_of_ble_eq_true rfl) ?_
  intro p e s m args below meth c A ls C h hnm hl
  have hx := C.1.1
  have hb := C.1.2.1
  have hts := C.1.2.2.2.2
  have hl : lv_has ls 2 [(0, .ref o0)] := hl
  have f22 := C.1.2.2.2.2 (.fieldLink RX2 22 "FountainCode$Peeler" "equationCount" "I") (by decide +kernel)
  have iX2 : ∀ w ∈ u_ws RX2 TX2 6, w ∈ wsX2_lowestReady := by decide +kernel
  have f9 := C.1.2.2.2.2 (.fieldLink RX2 9 "FountainCode$Peeler" "equationSets" "[J") (by decide +kernel)
  have f29 := C.1.2.2.2.2 (.fieldLink RX2 29 "FountainCode$Peeler" "peeledSet" "J") (by decide +kernel)
  have k47 := C.1.2.2.2.2 (.constantLong RX2 47 (-1)) (by decide +kernel)
  refine lv_iconst (v := nI 0) hx hb dX2_lowestReady_0 (by decide) ?_
  refine lv_istore_n (lv' := [(1, .int (nI 0)), (0, .ref o0)]) hx hb dX2_lowestReady_1 rfl hl (by decide) rfl (fun ls hl => ?_)
  have loop2 : ∀ (fu : Nat) (k : Nat), nn - k < fu → (k ≤ nn) → ∀ (H : Heap) (locs : List Loc), vq_H G A s [(o0, .inr (2, [.ref ae, .int (nI nn), .ref ao, .ref ab, .int (nI pk), .long ps])), (ae, .inl (G.2.2, 126, .inr (.inl msk))), (ao, .inl (G.2.1, 38, .inl (fun zz => nI (po zz)))), (ab, .inl (G.2.1, 38, .inl pb))] H locs → ∀ (ls : Array Slot), lv_has ls 2 [(1, .int (nI k)), (0, .ref o0)] → W p l e ({ frames := 1, cells := 0, slots := 0, locals := 21 } : Room) s m args below meth c H locs 0 0 (MQ below (va_Qi (fun zr (_ : Unit) => zr = (-1)) (fun _ => vq_T G A [(o0, .inr (2, [.ref ae, .int (nI nn), .ref ao, .ref ab, .int (nI pk), .long ps])), (ae, .inl (G.2.2, 126, .inr (.inl msk))), (ao, .inl (G.2.1, 38, .inl (fun zz => nI (po zz)))), (ab, .inl (G.2.1, 38, .inl pb))]) A) args s 0 0 A) (F0 m 2 ls []) := by
    intro fu
    induction fu with
    | zero => exact fun k hm => absurd hm (Nat.not_lt_zero _)
    | succ fu ih =>
      intro k hm2 hk H locs h ls hl
      have ih2 := ih
      clear ih
      refine lv_iload_n hx hb dX2_lowestReady_2 rfl (lv_at hl 0 rfl) ?_
      refine lv_aload_n hx hb dX2_lowestReady_3 rfl (lv_at hl 1 rfl) ?_
      refine q_get (Cn := RX2) (T := TX2) (N := 6) (ci := 2) (v := .int (nI nn)) C h iX2 0 rfl rfl 1 (by decide) f22 rfl dX2_lowestReady_4 ?_
      refine q_icmp_ge (tgt := 49) hx hb (by omega) (by omega) dX2_lowestReady_7 (by decide) (fun z7 => ?_) (fun z7 => ?_)
      · refine lv_iconst (v := (-1)) hx hb dX2_lowestReady_49 (by decide) ?_
        exact q_reti C h rfl rfl rfl dX2_lowestReady_50
      · refine lv_iload_n hx hb dX2_lowestReady_10 rfl (lv_at hl 0 rfl) ?_
        refine lv_aload_n hx hb dX2_lowestReady_11 rfl (lv_at hl 1 rfl) ?_
        refine q_get (Cn := RX2) (T := TX2) (N := 6) (ci := 2) (v := .ref ae) C h iX2 0 rfl rfl 0 (by decide) f9 rfl dX2_lowestReady_12 ?_
        refine q_alenL (n := 126) C h 1 rfl dX2_lowestReady_15 ?_
        refine q_icmp_ge (tgt := 49) hx hb (by omega) (by omega) dX2_lowestReady_16 (by decide) (fun z16 => absurd z16 (by omega)) (fun z16 => ?_)
        refine lv_aload_n hx hb dX2_lowestReady_19 rfl (lv_at hl 1 rfl) ?_
        refine q_get (Cn := RX2) (T := TX2) (N := 6) (ci := 2) (v := .ref ae) C h iX2 0 rfl rfl 0 (by decide) f9 rfl dX2_lowestReady_20 ?_
        refine lv_iload_n hx hb dX2_lowestReady_23 rfl (lv_at hl 0 rfl) ?_
        refine q_lald (i := k) (v := msk k) C h 1 rfl (by omega) (by omega) rfl dX2_lowestReady_24 ?_
        refine lv_aload_n hx hb dX2_lowestReady_25 rfl (lv_at hl 1 rfl) ?_
        refine q_get (Cn := RX2) (T := TX2) (N := 6) (ci := 2) (v := .long ps) C h iX2 0 rfl rfl 5 (by decide) f29 rfl dX2_lowestReady_26 ?_
        refine q_ldc2 C k47 dX2_lowestReady_29 ?_
        refine lv_lxor hx hb dX2_lowestReady_32 ?_
        refine lv_land hx hb dX2_lowestReady_33 ?_
        refine q_top (v' := .long (q_lf msk ps k)) rfl ?_
        refine q_callSi C h (c_J13_bitCount_95d88 l G (q_lf msk ps k)) (va_cwS 1 hts gX2_lowestReady_J13_bitCount_95d88 rfl rfl rfl (by decide +kernel) ⟨Nat.le_of_ble_eq_true rfl, Nat.le_of_ble_eq_true rfl⟩) [] rfl rfl [0, 1, 2, 3] (wr := [(o0, .inr (2, [.ref ae, .int (nI nn), .ref ao, .ref ab, .int (nI pk), .long ps])), (ae, .inl (G.2.2, 126, .inr (.inl msk))), (ao, .inl (G.2.1, 38, .inl (fun zz => nI (po zz)))), (ab, .inl (G.2.1, 38, .inl pb))]) rfl rfl (by decide) rfl hl.1 rfl (Nat.le_of_ble_eq_true rfl) dX2_lowestReady_34 ⟨Nat.zero_le _, Nat.zero_le _⟩ [0, 1, 2, 3] (w' := [(o0, .inr (2, [.ref ae, .int (nI nn), .ref ao, .ref ab, .int (nI pk), .long ps])), (ae, .inl (G.2.2, 126, .inr (.inl msk))), (ao, .inl (G.2.1, 38, .inl (fun zz => nI (po zz)))), (ab, .inl (G.2.1, 38, .inl pb))]) rfl rfl (fun H locs h => ?_)
        refine lv_iconst (v := nI 1) hx hb dX2_lowestReady_37 (by decide) ?_
        refine lv_icmp_ne (tgt := 43) hx hb dX2_lowestReady_38 (by decide) (fun z38 => ?_) (fun z38 => absurd z38 (fun z => by have := hF k (by omega); simp [q_rd, z] at this))
        refine lv_iinc (v := nI (k + 1)) (lv' := [(1, .int (nI (k + 1))), (0, .ref o0)]) hx hb dX2_lowestReady_43 hl (k := 0) rfl (q_inc k) (by decide) rfl (fun ls hl => ?_)
        refine lv_goto (tgt := 2) hx hb dX2_lowestReady_46 (by decide) ?_
        exact ih2 (k + 1) (by omega) (show (k + 1) ≤ nn from (by omega)) _ _ h _ (lv_sub hl [0, 1] rfl)
  exact loop2 (nn - 0 + 1) 0 (Nat.lt_succ_self _) (show 0 ≤ nn from (Nat.zero_le _)) _ _ h _ (lv_sub hl [0, 1] rfl)

set_option maxHeartbeats 4000000 in
set_option maxRecDepth 100000 in
theorem c_X2_lowestReady_s (l : Launch) (G : vq_G) (o0 ae ao ab : Nat) (nn pk : Nat) (ps : Int64) (msk : Nat → Int64) (po : Nat → Nat) (pb : Nat → Int32) (i : Nat) (hn : nn ≤ 126) (hi : i < nn) (h1 : q_rd msk ps i = true) (h0 : ∀ j, j < i → q_rd msk ps j = false) : vq_i l yX2_lowestReady wsX2_lowestReady 1 21 G [.ref o0] [(o0, .inr (2, [.ref ae, .int (nI nn), .ref ao, .ref ab, .int (nI pk), .long ps])), (ae, .inl (G.2.2, 126, .inr (.inl msk))), (ao, .inl (G.2.1, 38, .inl (fun zz => nI (po zz)))), (ab, .inl (G.2.1, 38, .inl pb))] (nI i) [(o0, .inr (2, [.ref ae, .int (nI nn), .ref ao, .ref ab, .int (nI pk), .long ps])), (ae, .inl (G.2.2, 126, .inr (.inl msk))), (ao, .inl (G.2.1, 38, .inl (fun zz => nI (po zz)))), (ab, .inl (G.2.1, 38, .inl pb))] := by
  refine vq_openi (cc := cX2_lowestReady) (maxL := 2) (ret := (some .int)) (Ts' := wsX2_lowestReady.tail) (by decide) rfl (Nat.le_of_ble_eq_true rfl) ?_
  intro p e s m args below meth c A ls C h hnm hl
  have hx := C.1.1
  have hb := C.1.2.1
  have hts := C.1.2.2.2.2
  have hl : lv_has ls 2 [(0, .ref o0)] := hl
  have f22 := C.1.2.2.2.2 (.fieldLink RX2 22 "FountainCode$Peeler" "equationCount" "I") (by decide +kernel)
  have iX2 : ∀ w ∈ u_ws RX2 TX2 6, w ∈ wsX2_lowestReady := by decide +kernel
  have f9 := C.1.2.2.2.2 (.fieldLink RX2 9 "FountainCode$Peeler" "equationSets" "[J") (by decide +kernel)
  have f29 := C.1.2.2.2.2 (.fieldLink RX2 29 "FountainCode$Peeler" "peeledSet" "J") (by decide +kernel)
  have k47 := C.1.2.2.2.2 (.constantLong RX2 47 (-1)) (by decide +kernel)
  refine lv_iconst (v := nI 0) hx hb dX2_lowestReady_0 (by decide) ?_
  refine lv_istore_n (lv' := [(1, .int (nI 0)), (0, .ref o0)]) hx hb dX2_lowestReady_1 rfl hl (by decide) rfl (fun ls hl => ?_)
  have loop2 : ∀ (fu : Nat) (k : Nat), nn - k < fu → (k ≤ i) → ∀ (H : Heap) (locs : List Loc), vq_H G A s [(o0, .inr (2, [.ref ae, .int (nI nn), .ref ao, .ref ab, .int (nI pk), .long ps])), (ae, .inl (G.2.2, 126, .inr (.inl msk))), (ao, .inl (G.2.1, 38, .inl (fun zz => nI (po zz)))), (ab, .inl (G.2.1, 38, .inl pb))] H locs → ∀ (ls : Array Slot), lv_has ls 2 [(1, .int (nI k)), (0, .ref o0)] → W p l e ({ frames := 1, cells := 0, slots := 0, locals := 21 } : Room) s m args below meth c H locs 0 0 (MQ below (va_Qi (fun zr (_ : Unit) => zr = (nI i)) (fun _ => vq_T G A [(o0, .inr (2, [.ref ae, .int (nI nn), .ref ao, .ref ab, .int (nI pk), .long ps])), (ae, .inl (G.2.2, 126, .inr (.inl msk))), (ao, .inl (G.2.1, 38, .inl (fun zz => nI (po zz)))), (ab, .inl (G.2.1, 38, .inl pb))]) A) args s 0 0 A) (F0 m 2 ls []) := by
    intro fu
    induction fu with
    | zero => exact fun k hm => absurd hm (Nat.not_lt_zero _)
    | succ fu ih =>
      intro k hm2 hk H locs h ls hl
      have ih2 := ih
      clear ih
      refine lv_iload_n hx hb dX2_lowestReady_2 rfl (lv_at hl 0 rfl) ?_
      refine lv_aload_n hx hb dX2_lowestReady_3 rfl (lv_at hl 1 rfl) ?_
      refine q_get (Cn := RX2) (T := TX2) (N := 6) (ci := 2) (v := .int (nI nn)) C h iX2 0 rfl rfl 1 (by decide) f22 rfl dX2_lowestReady_4 ?_
      refine q_icmp_ge (tgt := 49) hx hb (by omega) (by omega) dX2_lowestReady_7 (by decide) (fun z7 => absurd z7 (by omega)) (fun z7 => ?_)
      refine lv_iload_n hx hb dX2_lowestReady_10 rfl (lv_at hl 0 rfl) ?_
      refine lv_aload_n hx hb dX2_lowestReady_11 rfl (lv_at hl 1 rfl) ?_
      refine q_get (Cn := RX2) (T := TX2) (N := 6) (ci := 2) (v := .ref ae) C h iX2 0 rfl rfl 0 (by decide) f9 rfl dX2_lowestReady_12 ?_
      refine q_alenL (n := 126) C h 1 rfl dX2_lowestReady_15 ?_
      refine q_icmp_ge (tgt := 49) hx hb (by omega) (by omega) dX2_lowestReady_16 (by decide) (fun z16 => absurd z16 (by omega)) (fun z16 => ?_)
      refine lv_aload_n hx hb dX2_lowestReady_19 rfl (lv_at hl 1 rfl) ?_
      refine q_get (Cn := RX2) (T := TX2) (N := 6) (ci := 2) (v := .ref ae) C h iX2 0 rfl rfl 0 (by decide) f9 rfl dX2_lowestReady_20 ?_
      refine lv_iload_n hx hb dX2_lowestReady_23 rfl (lv_at hl 0 rfl) ?_
      refine q_lald (i := k) (v := msk k) C h 1 rfl (by omega) (by omega) rfl dX2_lowestReady_24 ?_
      refine lv_aload_n hx hb dX2_lowestReady_25 rfl (lv_at hl 1 rfl) ?_
      refine q_get (Cn := RX2) (T := TX2) (N := 6) (ci := 2) (v := .long ps) C h iX2 0 rfl rfl 5 (by decide) f29 rfl dX2_lowestReady_26 ?_
      refine q_ldc2 C k47 dX2_lowestReady_29 ?_
      refine lv_lxor hx hb dX2_lowestReady_32 ?_
      refine lv_land hx hb dX2_lowestReady_33 ?_
      refine q_top (v' := .long (q_lf msk ps k)) rfl ?_
      refine q_callSi C h (c_J13_bitCount_95d88 l G (q_lf msk ps k)) (va_cwS 1 hts gX2_lowestReady_J13_bitCount_95d88 rfl rfl rfl (by decide +kernel) ⟨Nat.le_of_ble_eq_true rfl, Nat.le_of_ble_eq_true rfl⟩) [] rfl rfl [0, 1, 2, 3] (wr := [(o0, .inr (2, [.ref ae, .int (nI nn), .ref ao, .ref ab, .int (nI pk), .long ps])), (ae, .inl (G.2.2, 126, .inr (.inl msk))), (ao, .inl (G.2.1, 38, .inl (fun zz => nI (po zz)))), (ab, .inl (G.2.1, 38, .inl pb))]) rfl rfl (by decide) rfl hl.1 rfl (Nat.le_of_ble_eq_true rfl) dX2_lowestReady_34 ⟨Nat.zero_le _, Nat.zero_le _⟩ [0, 1, 2, 3] (w' := [(o0, .inr (2, [.ref ae, .int (nI nn), .ref ao, .ref ab, .int (nI pk), .long ps])), (ae, .inl (G.2.2, 126, .inr (.inl msk))), (ao, .inl (G.2.1, 38, .inl (fun zz => nI (po zz)))), (ab, .inl (G.2.1, 38, .inl pb))]) rfl rfl (fun H locs h => ?_)
      refine lv_iconst (v := nI 1) hx hb dX2_lowestReady_37 (by decide) ?_
      refine lv_icmp_ne (tgt := 43) hx hb dX2_lowestReady_38 (by decide) (fun z38 => ?_) (fun z38 => ?_)
      · refine lv_iinc (v := nI (k + 1)) (lv' := [(1, .int (nI (k + 1))), (0, .ref o0)]) hx hb dX2_lowestReady_43 hl (k := 0) rfl (q_inc k) (by decide) rfl (fun ls hl => ?_)
        refine lv_goto (tgt := 2) hx hb dX2_lowestReady_46 (by decide) ?_
        exact ih2 (k + 1) (by omega) (show (k + 1) ≤ i from ((Nat.lt_or_ge k i).elim (fun a => by omega) (fun a => by exfalso; rw [show k = i from by omega] at z38; exact z38 (of_decide_eq_true h1)))) _ _ h _ (lv_sub hl [0, 1] rfl)
      · refine lv_iload_n hx hb dX2_lowestReady_41 rfl (lv_at hl 0 rfl) ?_
        exact q_reti C h rfl (by rw [show k = i from (Nat.lt_or_ge k i).elim (fun a => by have := h0 k a; simp [q_rd, z38] at this) (fun a => by omega)]) rfl dX2_lowestReady_42
  exact loop2 (nn - 0 + 1) 0 (Nat.lt_succ_self _) (show 0 ≤ i from (Nat.zero_le _)) _ _ h _ (lv_sub hl [0, 1] rfl)

set_option maxHeartbeats 4000000 in
set_option maxRecDepth 100000 in
theorem c_X2_peelWith (l : Launch) (G : vq_G) (o0 ae ao ab : Nat) (nn pk : Nat) (ps : Int64) (msk : Nat → Int64) (po : Nat → Nat) (pb : Nat → Int32) (i : Nat) (hi : i < 126) (hlow : (q_low (q_lf msk ps i)) < 38) (hpk : pk < 38) : vq_v l yX2_peelWith wsX2_peelWith 2 42 G [.ref o0, .int (nI i)] [(o0, .inr (2, [.ref ae, .int (nI nn), .ref ao, .ref ab, .int (nI pk), .long ps])), (ae, .inl (G.2.2, 126, .inr (.inl msk))), (ao, .inl (G.2.1, 38, .inl (fun zz => nI (po zz)))), (ab, .inl (G.2.1, 38, .inl pb))]  [(o0, .inr (2, [.ref ae, .int (nI nn), .ref ao, .ref ab, .int (nI (pk + 1)), .long (ps ||| (q_bit (q_low (q_lf msk ps i))))])), (ae, .inl (G.2.2, 126, .inr (.inl msk))), (ao, .inl (G.2.1, 38, .inl (fun zz => nI ((va_up po pk (q_low (q_lf msk ps i))) zz)))), (ab, .inl (G.2.1, 38, .inl (upd pb (q_low (q_lf msk ps i)) (nI i))))] := by
  refine vq_openv (cc := cX2_peelWith) (maxL := 3) (ret := none) (Ts' := wsX2_peelWith.tail) (by decide) rfl (Nat.le_of_ble_eq_true rfl) ?_
  intro p e s m args below meth c A ls C h hnm hl
  have hx := C.1.1
  have hb := C.1.2.1
  have hts := C.1.2.2.2.2
  have hl : lv_has ls 3 [(0, .ref o0), (1, .int (nI i))] := hl
  have f9 := C.1.2.2.2.2 (.fieldLink RX2 9 "FountainCode$Peeler" "equationSets" "[J") (by decide +kernel)
  have iX2 : ∀ w ∈ u_ws RX2 TX2 6, w ∈ wsX2_peelWith := by decide +kernel
  have f29 := C.1.2.2.2.2 (.fieldLink RX2 29 "FountainCode$Peeler" "peeledSet" "J") (by decide +kernel)
  have k47 := C.1.2.2.2.2 (.constantLong RX2 47 (-1)) (by decide +kernel)
  have iniX5 := C.1.2.2.2.2 (.initialized RX5) (by decide +kernel)
  have stX5_lowestOf := C.1.2.2.2.2 (.static yX5_lowestOf) (by decide +kernel)
  have f26 := C.1.2.2.2.2 (.fieldLink RX2 26 "FountainCode$Peeler" "peeledCount" "I") (by decide +kernel)
  have f15 := C.1.2.2.2.2 (.fieldLink RX2 15 "FountainCode$Peeler" "peelOrder" "[I") (by decide +kernel)
  have f19 := C.1.2.2.2.2 (.fieldLink RX2 19 "FountainCode$Peeler" "peelEquations" "[I") (by decide +kernel)
  have stX5_setOf := C.1.2.2.2.2 (.static yX5_setOf) (by decide +kernel)
  refine lv_iload_n hx hb dX2_peelWith_0 rfl (lv_at hl 1 rfl) ?_
  refine q_if_lt (tgt := 13) hx hb (by omega) dX2_peelWith_1 (by decide) (fun z1 => absurd z1 (by omega)) (fun z1 => ?_)
  refine lv_iload_n hx hb dX2_peelWith_4 rfl (lv_at hl 1 rfl) ?_
  refine lv_aload_n hx hb dX2_peelWith_5 rfl (lv_at hl 0 rfl) ?_
  refine q_get (Cn := RX2) (T := TX2) (N := 6) (ci := 2) (v := .ref ae) C h iX2 0 rfl rfl 0 (by decide) f9 rfl dX2_peelWith_6 ?_
  refine q_alenL (n := 126) C h 1 rfl dX2_peelWith_9 ?_
  refine q_icmp_lt (tgt := 14) hx hb (by omega) (by omega) dX2_peelWith_10 (by decide) (fun z10 => ?_) (fun z10 => absurd z10 (by omega))
  refine lv_aload_n hx hb dX2_peelWith_14 rfl (lv_at hl 0 rfl) ?_
  refine q_get (Cn := RX2) (T := TX2) (N := 6) (ci := 2) (v := .ref ae) C h iX2 0 rfl rfl 0 (by decide) f9 rfl dX2_peelWith_15 ?_
  refine lv_iload_n hx hb dX2_peelWith_18 rfl (lv_at hl 1 rfl) ?_
  refine q_lald (i := i) (v := msk i) C h 1 rfl (by omega) (by omega) rfl dX2_peelWith_19 ?_
  refine lv_aload_n hx hb dX2_peelWith_20 rfl (lv_at hl 0 rfl) ?_
  refine q_get (Cn := RX2) (T := TX2) (N := 6) (ci := 2) (v := .long ps) C h iX2 0 rfl rfl 5 (by decide) f29 rfl dX2_peelWith_21 ?_
  refine q_ldc2 C k47 dX2_peelWith_24 ?_
  refine lv_lxor hx hb dX2_peelWith_27 ?_
  refine lv_land hx hb dX2_peelWith_28 ?_
  refine q_top (v' := .long (q_lf msk ps i)) rfl ?_
  refine q_callNi C h (c_X5_lowestOf l G (q_lf msk ps i)) ⟨va_cnB 1 hts gX2_peelWith_X5_lowestOf_n55 rfl rfl rfl (C.2.2.1.at 8 rfl) iniX5 (by decide +kernel) ⟨Nat.le_of_ble_eq_true rfl, Nat.le_of_ble_eq_true rfl⟩, stX5_lowestOf, trivial⟩ [] rfl rfl [0, 1, 2, 3] (wr := [(o0, .inr (2, [.ref ae, .int (nI nn), .ref ao, .ref ab, .int (nI pk), .long ps])), (ae, .inl (G.2.2, 126, .inr (.inl msk))), (ao, .inl (G.2.1, 38, .inl (fun zz => nI (po zz)))), (ab, .inl (G.2.1, 38, .inl pb))]) rfl rfl (by decide) rfl hl.1 rfl (Nat.le_of_ble_eq_true rfl) dX2_peelWith_29 ⟨Nat.zero_le _, Nat.zero_le _⟩ [0, 1, 2, 3] (w' := [(o0, .inr (2, [.ref ae, .int (nI nn), .ref ao, .ref ab, .int (nI pk), .long ps])), (ae, .inl (G.2.2, 126, .inr (.inl msk))), (ao, .inl (G.2.1, 38, .inl (fun zz => nI (po zz)))), (ab, .inl (G.2.1, 38, .inl pb))]) rfl rfl (fun H locs h => ?_)
  refine lv_istore_n (lv' := [(2, .int (nI (q_low (q_lf msk ps i)))), (0, .ref o0), (1, .int (nI i))]) hx hb dX2_peelWith_32 rfl hl (by decide) rfl (fun ls hl => ?_)
  refine lv_iload_n hx hb dX2_peelWith_33 rfl (lv_at hl 0 rfl) ?_
  refine lv_bipush (v := nI 38) hx hb dX2_peelWith_34 (by decide) ?_
  refine q_icmp_ge (tgt := 55) hx hb (by omega) (by omega) dX2_peelWith_36 (by decide) (fun z36 => absurd z36 (by omega)) (fun z36 => ?_)
  refine lv_aload_n hx hb dX2_peelWith_39 rfl (lv_at hl 1 rfl) ?_
  refine q_get (Cn := RX2) (T := TX2) (N := 6) (ci := 2) (v := .int (nI pk)) C h iX2 0 rfl rfl 4 (by decide) f26 rfl dX2_peelWith_40 ?_
  refine q_if_lt (tgt := 55) hx hb (by omega) dX2_peelWith_43 (by decide) (fun z43 => absurd z43 (by omega)) (fun z43 => ?_)
  refine lv_aload_n hx hb dX2_peelWith_46 rfl (lv_at hl 1 rfl) ?_
  refine q_get (Cn := RX2) (T := TX2) (N := 6) (ci := 2) (v := .int (nI pk)) C h iX2 0 rfl rfl 4 (by decide) f26 rfl dX2_peelWith_47 ?_
  refine lv_bipush (v := nI 38) hx hb dX2_peelWith_50 (by decide) ?_
  refine q_icmp_lt (tgt := 56) hx hb (by omega) (by omega) dX2_peelWith_52 (by decide) (fun z52 => ?_) (fun z52 => absurd z52 (by omega))
  refine lv_aload_n hx hb dX2_peelWith_56 rfl (lv_at hl 1 rfl) ?_
  refine q_get (Cn := RX2) (T := TX2) (N := 6) (ci := 2) (v := .ref ao) C h iX2 0 rfl rfl 2 (by decide) f15 rfl dX2_peelWith_57 ?_
  refine lv_aload_n hx hb dX2_peelWith_60 rfl (lv_at hl 1 rfl) ?_
  refine q_get (Cn := RX2) (T := TX2) (N := 6) (ci := 2) (v := .int (nI pk)) C h iX2 0 rfl rfl 4 (by decide) f26 rfl dX2_peelWith_61 ?_
  refine lv_iload_n hx hb dX2_peelWith_64 rfl (lv_at hl 0 rfl) ?_
  refine q_iast (i := pk) (g := (fun zz => nI ((va_up po pk (q_low (q_lf msk ps i))) zz))) (w' := [(o0, .inr (2, [.ref ae, .int (nI nn), .ref ao, .ref ab, .int (nI pk), .long ps])), (ae, .inl (G.2.2, 126, .inr (.inl msk))), (ao, .inl (G.2.1, 38, .inl (fun zz => nI ((va_up po pk (q_low (q_lf msk ps i))) zz)))), (ab, .inl (G.2.1, 38, .inl pb))]) C h 2 rfl (by omega) (by omega) (q_upN _ _ _) rfl dX2_peelWith_65 (fun H locs h => ?_)
  refine lv_aload_n hx hb dX2_peelWith_66 rfl (lv_at hl 1 rfl) ?_
  refine q_get (Cn := RX2) (T := TX2) (N := 6) (ci := 2) (v := .ref ab) C h iX2 0 rfl rfl 3 (by decide) f19 rfl dX2_peelWith_67 ?_
  refine lv_iload_n hx hb dX2_peelWith_70 rfl (lv_at hl 0 rfl) ?_
  refine lv_iload_n hx hb dX2_peelWith_71 rfl (lv_at hl 2 rfl) ?_
  refine q_iast (i := q_low (q_lf msk ps i)) (g := upd pb (q_low (q_lf msk ps i)) (nI i)) (w' := [(o0, .inr (2, [.ref ae, .int (nI nn), .ref ao, .ref ab, .int (nI pk), .long ps])), (ae, .inl (G.2.2, 126, .inr (.inl msk))), (ao, .inl (G.2.1, 38, .inl (fun zz => nI ((va_up po pk (q_low (q_lf msk ps i))) zz)))), (ab, .inl (G.2.1, 38, .inl (upd pb (q_low (q_lf msk ps i)) (nI i))))]) C h 3 rfl (by omega) (by omega) rfl rfl dX2_peelWith_72 (fun H locs h => ?_)
  refine lv_aload_n hx hb dX2_peelWith_73 rfl (lv_at hl 1 rfl) ?_
  refine lv_dup hx hb dX2_peelWith_74 rfl ?_
  refine q_get (Cn := RX2) (T := TX2) (N := 6) (ci := 2) (v := .long ps) C h iX2 0 rfl rfl 5 (by decide) f29 rfl dX2_peelWith_75 ?_
  refine lv_iload_n hx hb dX2_peelWith_78 rfl (lv_at hl 0 rfl) ?_
  refine q_callNl C h (c_X5_setOf l G (q_low (q_lf msk ps i)) (by omega)) ⟨va_cnB 1 hts gX2_peelWith_X5_setOf_n58 rfl rfl rfl (C.2.2.1.at 9 rfl) iniX5 (by decide +kernel) ⟨Nat.le_of_ble_eq_true rfl, Nat.le_of_ble_eq_true rfl⟩, stX5_setOf, trivial⟩ [] rfl rfl [0, 1, 2, 3] (wr := [(o0, .inr (2, [.ref ae, .int (nI nn), .ref ao, .ref ab, .int (nI pk), .long ps])), (ae, .inl (G.2.2, 126, .inr (.inl msk))), (ao, .inl (G.2.1, 38, .inl (fun zz => nI ((va_up po pk (q_low (q_lf msk ps i))) zz)))), (ab, .inl (G.2.1, 38, .inl (upd pb (q_low (q_lf msk ps i)) (nI i))))]) rfl rfl (by decide) rfl hl.1 rfl (Nat.le_of_ble_eq_true rfl) dX2_peelWith_79 ⟨Nat.zero_le _, Nat.zero_le _⟩ [0, 1, 2, 3] (w' := [(o0, .inr (2, [.ref ae, .int (nI nn), .ref ao, .ref ab, .int (nI pk), .long ps])), (ae, .inl (G.2.2, 126, .inr (.inl msk))), (ao, .inl (G.2.1, 38, .inl (fun zz => nI ((va_up po pk (q_low (q_lf msk ps i))) zz)))), (ab, .inl (G.2.1, 38, .inl (upd pb (q_low (q_lf msk ps i)) (nI i))))]) rfl rfl (fun H locs h => ?_)
  refine lv_lor hx hb dX2_peelWith_82 ?_
  refine q_put (Cn := RX2) (T := TX2) (N := 6) (ci := 2) (v := .long (ps ||| (q_bit (q_low (q_lf msk ps i))))) (w' := [(o0, .inr (2, [.ref ae, .int (nI nn), .ref ao, .ref ab, .int (nI pk), .long (ps ||| (q_bit (q_low (q_lf msk ps i))))])), (ae, .inl (G.2.2, 126, .inr (.inl msk))), (ao, .inl (G.2.1, 38, .inl (fun zz => nI ((va_up po pk (q_low (q_lf msk ps i))) zz)))), (ab, .inl (G.2.1, 38, .inl (upd pb (q_low (q_lf msk ps i)) (nI i))))]) C h iX2 tyX2 tyX2_ok nmX2 0 rfl rfl 5 (by decide) f29 rfl rfl rfl (Nat.le_of_ble_eq_true rfl) dX2_peelWith_83 rfl (fun H locs h => ?_)
  refine lv_aload_n hx hb dX2_peelWith_86 rfl (lv_at hl 1 rfl) ?_
  refine lv_dup hx hb dX2_peelWith_87 rfl ?_
  refine q_get (Cn := RX2) (T := TX2) (N := 6) (ci := 2) (v := .int (nI pk)) C h iX2 0 rfl rfl 4 (by decide) f26 rfl dX2_peelWith_88 ?_
  refine lv_iconst (v := nI 1) hx hb dX2_peelWith_91 (by decide) ?_
  refine q_iadd hx hb dX2_peelWith_92 ?_
  refine q_put (Cn := RX2) (T := TX2) (N := 6) (ci := 2) (v := .int (nI (pk + 1))) (w' := [(o0, .inr (2, [.ref ae, .int (nI nn), .ref ao, .ref ab, .int (nI (pk + 1)), .long (ps ||| (q_bit (q_low (q_lf msk ps i))))])), (ae, .inl (G.2.2, 126, .inr (.inl msk))), (ao, .inl (G.2.1, 38, .inl (fun zz => nI ((va_up po pk (q_low (q_lf msk ps i))) zz)))), (ab, .inl (G.2.1, 38, .inl (upd pb (q_low (q_lf msk ps i)) (nI i))))]) C h iX2 tyX2 tyX2_ok nmX2 0 rfl rfl 4 (by decide) f26 rfl rfl rfl (Nat.le_of_ble_eq_true rfl) dX2_peelWith_93 rfl (fun H locs h => ?_)
  exact q_retv C h rfl rfl dX2_peelWith_96

set_option maxHeartbeats 4000000 in
set_option maxRecDepth 100000 in
theorem c_X2_peelOn (l : Launch) (G : vq_G) (o0 ae ao ab : Nat) (nn pk : Nat) (ps : Int64) (msk : Nat → Int64) (po : Nat → Nat) (pb : Nat → Int32) (hn : nn ≤ 126) (hM : ∀ i, i < nn → ∀ k, 38 ≤ k → tb (msk i) k = false) (hp : pk = q_pop ps 38) : vq_i l yX2_peelOn wsX2_peelOn 3 64 G [.ref o0] [(o0, .inr (2, [.ref ae, .int (nI nn), .ref ao, .ref ab, .int (nI pk), .long ps])), (ae, .inl (G.2.2, 126, .inr (.inl msk))), (ao, .inl (G.2.1, 38, .inl (fun zz => nI (po zz)))), (ab, .inl (G.2.1, 38, .inl pb))] (nI ((q_pn msk nn 38 (po, pb, pk, ps)).2.2.1 - pk)) [(o0, .inr (2, [.ref ae, .int (nI nn), .ref ao, .ref ab, .int (nI ((q_pn msk nn 38 (po, pb, pk, ps)).2.2.1)), .long ((q_pn msk nn 38 (po, pb, pk, ps)).2.2.2)])), (ae, .inl (G.2.2, 126, .inr (.inl msk))), (ao, .inl (G.2.1, 38, .inl (fun zz => nI ((q_pn msk nn 38 (po, pb, pk, ps)).1 zz)))), (ab, .inl (G.2.1, 38, .inl ((q_pn msk nn 38 (po, pb, pk, ps)).2.1)))] := by
  refine vq_openi (cc := cX2_peelOn) (maxL := 4) (ret := (some .int)) (Ts' := wsX2_peelOn.tail) (by decide) rfl (Nat.le_of_ble_eq_true rfl) ?_
  intro p e s m args below meth c A ls C h hnm hl
  have hx := C.1.1
  have hb := C.1.2.1
  have hts := C.1.2.2.2.2
  have hl : lv_has ls 4 [(0, .ref o0)] := hl
  have f26 := C.1.2.2.2.2 (.fieldLink RX2 26 "FountainCode$Peeler" "peeledCount" "I") (by decide +kernel)
  have iX2 : ∀ w ∈ u_ws RX2 TX2 6, w ∈ wsX2_peelOn := by decide +kernel
  refine lv_aload_n hx hb dX2_peelOn_0 rfl (lv_at hl 0 rfl) ?_
  refine q_get (Cn := RX2) (T := TX2) (N := 6) (ci := 2) (v := .int (nI pk)) C h iX2 0 rfl rfl 4 (by decide) f26 rfl dX2_peelOn_1 ?_
  refine lv_istore_n (lv' := [(1, .int (nI pk)), (0, .ref o0)]) hx hb dX2_peelOn_4 rfl hl (by decide) rfl (fun ls hl => ?_)
  refine lv_iconst (v := nI 0) hx hb dX2_peelOn_5 (by decide) ?_
  refine lv_istore_n (lv' := [(2, .int (nI 0)), (1, .int (nI pk)), (0, .ref o0)]) hx hb dX2_peelOn_6 rfl hl (by decide) rfl (fun ls hl => ?_)
  have loop7 : ∀ (fu : Nat) (k : Nat) (po1 : Nat → Nat) (pb1 : Nat → Int32) (pk1 : Nat) (ps1 : Int64), 38 - k < fu → (k ≤ 38) → (q_pn msk nn (38 - k) (po1, pb1, pk1, ps1) = (q_pn msk nn 38 (po, pb, pk, ps))) → (pk1 = q_pop ps1 38) → (pk ≤ pk1) → ∀ (H : Heap) (locs : List Loc), vq_H G A s [(o0, .inr (2, [.ref ae, .int (nI nn), .ref ao, .ref ab, .int (nI pk1), .long ps1])), (ae, .inl (G.2.2, 126, .inr (.inl msk))), (ao, .inl (G.2.1, 38, .inl (fun zz => nI (po1 zz)))), (ab, .inl (G.2.1, 38, .inl pb1))] H locs → ∀ (ls : Array Slot), lv_has ls 4 [(2, .int (nI k)), (1, .int (nI pk)), (0, .ref o0)] → W p l e ({ frames := 3, cells := 0, slots := 0, locals := 64 } : Room) s m args below meth c H locs 0 0 (MQ below (va_Qi (fun zr (_ : Unit) => zr = (nI ((q_pn msk nn 38 (po, pb, pk, ps)).2.2.1 - pk))) (fun _ => vq_T G A [(o0, .inr (2, [.ref ae, .int (nI nn), .ref ao, .ref ab, .int (nI ((q_pn msk nn 38 (po, pb, pk, ps)).2.2.1)), .long ((q_pn msk nn 38 (po, pb, pk, ps)).2.2.2)])), (ae, .inl (G.2.2, 126, .inr (.inl msk))), (ao, .inl (G.2.1, 38, .inl (fun zz => nI ((q_pn msk nn 38 (po, pb, pk, ps)).1 zz)))), (ab, .inl (G.2.1, 38, .inl ((q_pn msk nn 38 (po, pb, pk, ps)).2.1)))]) A) args s 0 0 A) (F0 m 7 ls []) := by
    intro fu
    induction fu with
    | zero => exact fun k po1 pb1 pk1 ps1 hm => absurd hm (Nat.not_lt_zero _)
    | succ fu ih =>
      intro k po1 pb1 pk1 ps1 hm7 hk he hp1 hle H locs h ls hl
      have ih7 := ih
      clear ih
      refine lv_iload_n hx hb dX2_peelOn_7 rfl (lv_at hl 0 rfl) ?_
      refine lv_bipush (v := nI 38) hx hb dX2_peelOn_8 (by decide) ?_
      refine q_icmp_ge (tgt := 37) hx hb (by omega) (by omega) dX2_peelOn_10 (by decide) (fun z10 => ?_) (fun z10 => ?_)
      · have e : (q_pn msk nn 38 (po, pb, pk, ps)) = (po1, pb1, pk1, ps1) := by rw [← he, show 38 - k = 0 from by omega]; rfl
        refine lv_aload_n hx hb dX2_peelOn_37 rfl (lv_at hl 2 rfl) ?_
        refine q_get (Cn := RX2) (T := TX2) (N := 6) (ci := 2) (v := .int (nI pk1)) C h iX2 0 rfl rfl 4 (by decide) f26 rfl dX2_peelOn_38 ?_
        refine lv_iload_n hx hb dX2_peelOn_41 rfl (lv_at hl 1 rfl) ?_
        refine q_isub hx hb (by omega) dX2_peelOn_42 ?_
        exact q_reti C h rfl (by simp only [e]) (by simp only [e]) dX2_peelOn_43
      · have hi126 : ∀ i, q_fr (q_rd msk ps1) nn = some i → i < 126 := fun i hf => by have := (q_fr_some hf).1; omega
        refine lv_aload_n hx hb dX2_peelOn_13 rfl (lv_at hl 2 rfl) ?_
        rcases hf : q_fr (q_rd msk ps1) nn with _ | i
        · refine q_callVi C h (c_X2_lowestReady_n l G o0 ae ao ab nn pk1 ps1 msk po1 pb1 (by omega) (q_fr_none hf)) (cwV 0 hts gX2_peelOn_X2_lowestReady rfl rfl rfl (by decide +kernel) ⟨Nat.le_of_ble_eq_true rfl, Nat.le_of_ble_eq_true rfl⟩) [0, 1, 2, 3] rfl rfl [] (wr := []) rfl rfl (by decide) 0 rfl rfl rfl hl.1 rfl (Nat.le_of_ble_eq_true rfl) dX2_peelOn_14 ⟨Nat.zero_le _, Nat.zero_le _⟩ [0, 1, 2, 3] (w' := [(o0, .inr (2, [.ref ae, .int (nI nn), .ref ao, .ref ab, .int (nI pk1), .long ps1])), (ae, .inl (G.2.2, 126, .inr (.inl msk))), (ao, .inl (G.2.1, 38, .inl (fun zz => nI (po1 zz)))), (ab, .inl (G.2.1, 38, .inl pb1))]) rfl rfl (fun H locs h => ?_)
          refine lv_istore_n (lv' := [(3, .int (-1)), (2, .int (nI k)), (1, .int (nI pk)), (0, .ref o0)]) hx hb dX2_peelOn_17 rfl hl (by decide) rfl (fun ls hl => ?_)
          refine lv_iload_n hx hb dX2_peelOn_18 rfl (lv_at hl 0 rfl) ?_
          refine lv_iconst (v := (-1)) hx hb dX2_peelOn_19 (by decide) ?_
          refine lv_icmp_ne (tgt := 26) hx hb dX2_peelOn_20 (by decide) (fun z20 => absurd z20 (fun h => h rfl)) (fun z20 => ?_)
          have e : (q_pn msk nn 38 (po, pb, pk, ps)) = (po1, pb1, pk1, ps1) := by rw [← he, show 38 - k = (38 - (k + 1)) + 1 from by omega]; simp only [q_pn, hf]
          refine lv_goto (tgt := 37) hx hb dX2_peelOn_23 (by decide) ?_
          refine lv_aload_n hx hb dX2_peelOn_37 rfl (lv_at hl 3 rfl) ?_
          refine q_get (Cn := RX2) (T := TX2) (N := 6) (ci := 2) (v := .int (nI pk1)) C h iX2 0 rfl rfl 4 (by decide) f26 rfl dX2_peelOn_38 ?_
          refine lv_iload_n hx hb dX2_peelOn_41 rfl (lv_at hl 2 rfl) ?_
          refine q_isub hx hb (by omega) dX2_peelOn_42 ?_
          exact q_reti C h rfl (by simp only [e]) (by simp only [e]) dX2_peelOn_43
        · refine q_callVi C h (c_X2_lowestReady_s l G o0 ae ao ab nn pk1 ps1 msk po1 pb1 i (by omega) (q_fr_some hf).1 (q_fr_some hf).2.1 (q_fr_some hf).2.2) (cwV 0 hts gX2_peelOn_X2_lowestReady rfl rfl rfl (by decide +kernel) ⟨Nat.le_of_ble_eq_true rfl, Nat.le_of_ble_eq_true rfl⟩) [0, 1, 2, 3] rfl rfl [] (wr := []) rfl rfl (by decide) 0 rfl rfl rfl hl.1 rfl (Nat.le_of_ble_eq_true rfl) dX2_peelOn_14 ⟨Nat.zero_le _, Nat.zero_le _⟩ [0, 1, 2, 3] (w' := [(o0, .inr (2, [.ref ae, .int (nI nn), .ref ao, .ref ab, .int (nI pk1), .long ps1])), (ae, .inl (G.2.2, 126, .inr (.inl msk))), (ao, .inl (G.2.1, 38, .inl (fun zz => nI (po1 zz)))), (ab, .inl (G.2.1, 38, .inl pb1))]) rfl rfl (fun H locs h => ?_)
          refine lv_istore_n (lv' := [(3, .int (nI i)), (2, .int (nI k)), (1, .int (nI pk)), (0, .ref o0)]) hx hb dX2_peelOn_17 rfl hl (by decide) rfl (fun ls hl => ?_)
          refine lv_iload_n hx hb dX2_peelOn_18 rfl (lv_at hl 0 rfl) ?_
          refine lv_iconst (v := (-1)) hx hb dX2_peelOn_19 (by decide) ?_
          refine lv_icmp_ne (tgt := 26) hx hb dX2_peelOn_20 (by decide) (fun z20 => ?_) (fun z20 => absurd z20 (q_nI_m1 (by have := hi126 i hf; omega)))
          have hr := q_ready hM (q_fr_some hf).1 (q_fr_some hf).2.1
          refine lv_aload_n hx hb dX2_peelOn_26 rfl (lv_at hl 3 rfl) ?_
          refine lv_iload_n hx hb dX2_peelOn_27 rfl (lv_at hl 0 rfl) ?_
          refine q_callVv C h (c_X2_peelWith l G o0 ae ao ab nn pk1 ps1 msk po1 pb1 i (hi126 i hf) hr.1 (by have := q_pop_lt hr.2 38 hr.1; omega)) (cwV 1 hts gX2_peelOn_X2_peelWith rfl rfl rfl (by decide +kernel) ⟨Nat.le_of_ble_eq_true rfl, Nat.le_of_ble_eq_true rfl⟩) [0, 1, 2, 3] rfl rfl [] (wr := []) rfl rfl (by decide) 0 rfl rfl rfl hl.1 rfl (Nat.le_of_ble_eq_true rfl) dX2_peelOn_28 ⟨Nat.zero_le _, Nat.zero_le _⟩ [0, 1, 2, 3] (w' := [(o0, .inr (2, [.ref ae, .int (nI nn), .ref ao, .ref ab, .int (nI (pk1 + 1)), .long (ps1 ||| (q_bit (q_low (q_lf msk ps1 i))))])), (ae, .inl (G.2.2, 126, .inr (.inl msk))), (ao, .inl (G.2.1, 38, .inl (fun zz => nI ((va_up po1 pk1 (q_low (q_lf msk ps1 i))) zz)))), (ab, .inl (G.2.1, 38, .inl (upd pb1 (q_low (q_lf msk ps1 i)) (nI i))))]) rfl rfl (fun H locs h => ?_)
          refine lv_iinc (v := nI (k + 1)) (lv' := [(2, .int (nI (k + 1))), (3, .int (nI i)), (1, .int (nI pk)), (0, .ref o0)]) hx hb dX2_peelOn_31 hl (k := 1) rfl (q_inc k) (by decide) rfl (fun ls hl => ?_)
          refine lv_goto (tgt := 7) hx hb dX2_peelOn_34 (by decide) ?_
          exact ih7 (k + 1) (va_up po1 pk1 (q_low (q_lf msk ps1 i))) (upd pb1 (q_low (q_lf msk ps1 i)) (nI i)) (pk1 + 1) (ps1 ||| (q_bit (q_low (q_lf msk ps1 i)))) (by omega) (show (k + 1) ≤ 38 from (by omega)) (show q_pn msk nn (38 - (k + 1)) ((va_up po1 pk1 (q_low (q_lf msk ps1 i))), (upd pb1 (q_low (q_lf msk ps1 i)) (nI i)), (pk1 + 1), (ps1 ||| (q_bit (q_low (q_lf msk ps1 i))))) = (q_pn msk nn 38 (po, pb, pk, ps)) from (by rw [← he, show 38 - k = (38 - (k + 1)) + 1 from by omega]; simp only [q_pn, hf, q_ps1])) (show (pk1 + 1) = q_pop (ps1 ||| (q_bit (q_low (q_lf msk ps1 i)))) 38 from (by rw [q_pop_set (by omega) hr.2 38 hr.1, ← hp1])) (show pk ≤ (pk1 + 1) from (by omega)) _ _ h _ (lv_sub hl [0, 2, 3] rfl)
  exact loop7 (38 - 0 + 1) 0 po pb pk ps (Nat.lt_succ_self _) (show 0 ≤ 38 from (Nat.zero_le _)) (show q_pn msk nn (38 - 0) (po, pb, pk, ps) = (q_pn msk nn 38 (po, pb, pk, ps)) from rfl) (show pk = q_pop ps 38 from hp) (show pk ≤ pk from (Nat.le_refl _)) _ _ h _ (lv_sub hl [0, 1, 2] rfl)

set_option maxHeartbeats 4000000 in
set_option maxRecDepth 100000 in
theorem c_X1_addEquation (l : Launch) (G : vq_G) (o0 ar av : Nat) (rows : Nat → Int64) (rv : Nat → Int32) (rk : Nat) (x : Int64) (v : Int32) : vq_v l yX1_addEquation wsX1_addEquation 3 67 G [.ref o0, .long x, .int v] [(o0, .inr (1, [.ref ar, .ref av, .int (nI rk)])), (ar, .inl (G.2.2, 38, .inr (.inl rows))), (av, .inl (G.2.1, 38, .inl rv))]  [(o0, .inr (1, [.ref ar, .ref av, .int (nI (q_addK (q_rem rows x 38) rk))])), (ar, .inl (G.2.2, 38, .inr (.inl (q_addR rows (q_rem rows x 38))))), (av, .inl (G.2.1, 38, .inl (q_addV rows rv (q_rem rows x 38) (v ^^^ (q_kv rv x 38)))))] := by
  refine vq_openv (cc := cX1_addEquation) (maxL := 9) (ret := none) (Ts' := wsX1_addEquation.tail) (by decide) rfl (Nat.le_of_ble_eq_true rfl) ?_
  intro p e s m args below meth c A ls C h hnm hl
  have hx := C.1.1
  have hb := C.1.2.1
  have hts := C.1.2.2.2.2
  have hl : lv_has ls 9 [(0, .ref o0), (1, .long x), (3, .int v)] := hl
  have iniX5 := C.1.2.2.2.2 (.initialized RX5) (by decide +kernel)
  have stX5_lowestOf := C.1.2.2.2.2 (.static yX5_lowestOf) (by decide +kernel)
  have f9 := C.1.2.2.2.2 (.fieldLink RX1 9 "FountainCode$Elimination" "rows" "[J") (by decide +kernel)
  have iX1 : ∀ w ∈ u_ws RX1 TX1 3, w ∈ wsX1_addEquation := by decide +kernel
  have f15 := C.1.2.2.2.2 (.fieldLink RX1 15 "FountainCode$Elimination" "values" "[I") (by decide +kernel)
  have f19 := C.1.2.2.2.2 (.fieldLink RX1 19 "FountainCode$Elimination" "rowCount" "I") (by decide +kernel)
  have stX5_holds := C.1.2.2.2.2 (.static yX5_holds) (by decide +kernel)
  refine lv_aload_n hx hb dX1_addEquation_0 rfl (lv_at hl 0 rfl) ?_
  refine lv_lload_n hx hb dX1_addEquation_1 rfl (lv_at hl 1 rfl) ?_
  refine q_callVl C h (c_X1_remainder l G o0 ar av rows rv rk x) (cwV 1 hts gX1_addEquation_X1_remainder rfl rfl rfl (by decide +kernel) ⟨Nat.le_of_ble_eq_true rfl, Nat.le_of_ble_eq_true rfl⟩) [0, 1, 2] rfl rfl [] (wr := []) rfl rfl (by decide) 0 rfl rfl rfl hl.1 rfl (Nat.le_of_ble_eq_true rfl) dX1_addEquation_2 ⟨Nat.zero_le _, Nat.zero_le _⟩ [0, 1, 2] (w' := [(o0, .inr (1, [.ref ar, .ref av, .int (nI rk)])), (ar, .inl (G.2.2, 38, .inr (.inl rows))), (av, .inl (G.2.1, 38, .inl rv))]) rfl rfl (fun H locs h => ?_)
  refine lv_lstore (lv' := [(4, .long (q_rem rows x 38)), (0, .ref o0), (1, .long x), (3, .int v)]) hx hb dX1_addEquation_5 hl (by decide) rfl (fun ls hl => ?_)
  refine lv_lload hx hb dX1_addEquation_7 (lv_at hl 0 rfl) ?_
  refine q_callNi C h (c_X5_lowestOf l G (q_rem rows x 38)) ⟨va_cnB 1 hts gX1_addEquation_X5_lowestOf_n48 rfl rfl rfl (C.2.2.1.at 7 rfl) iniX5 (by decide +kernel) ⟨Nat.le_of_ble_eq_true rfl, Nat.le_of_ble_eq_true rfl⟩, stX5_lowestOf, trivial⟩ [] rfl rfl [0, 1, 2] (wr := [(o0, .inr (1, [.ref ar, .ref av, .int (nI rk)])), (ar, .inl (G.2.2, 38, .inr (.inl rows))), (av, .inl (G.2.1, 38, .inl rv))]) rfl rfl (by decide) rfl hl.1 rfl (Nat.le_of_ble_eq_true rfl) dX1_addEquation_9 ⟨Nat.zero_le _, Nat.zero_le _⟩ [0, 1, 2] (w' := [(o0, .inr (1, [.ref ar, .ref av, .int (nI rk)])), (ar, .inl (G.2.2, 38, .inr (.inl rows))), (av, .inl (G.2.1, 38, .inl rv))]) rfl rfl (fun H locs h => ?_)
  refine lv_istore (lv' := [(6, .int (nI (q_low (q_rem rows x 38)))), (4, .long (q_rem rows x 38)), (0, .ref o0), (1, .long x), (3, .int v)]) hx hb dX1_addEquation_12 hl (by decide) rfl (fun ls hl => ?_)
  refine lv_lload hx hb dX1_addEquation_14 (lv_at hl 1 rfl) ?_
  refine lv_lconst (v := 0) hx hb dX1_addEquation_16 (by decide) ?_
  refine q_lif_eq (tgt := 28) hx hb dX1_addEquation_17 dX1_addEquation_18 (by decide) (fun z18 => ?_) (fun z18 => ?_)
  · exact q_retv C h rfl (by have en : q_new (q_rem rows x 38) = false := (by first | simp [q_new, z18, Nat.not_lt.mpr z25] | simp [q_new, z18]); simp [q_addR, q_addV, q_addK, en]) dX1_addEquation_28
  · refine lv_iload hx hb dX1_addEquation_21 (lv_at hl 0 rfl) ?_
    refine lv_bipush (v := nI 38) hx hb dX1_addEquation_23 (by decide) ?_
    refine q_icmp_lt (tgt := 29) hx hb (Nat.lt_of_le_of_lt (q_low_le (q_rem rows x 38)) (by decide)) (by omega) dX1_addEquation_25 (by decide) (fun z25 => ?_) (fun z25 => ?_)
    · refine lv_iload_n hx hb dX1_addEquation_29 rfl (lv_at hl 4 rfl) ?_
      refine lv_aload_n hx hb dX1_addEquation_30 rfl (lv_at hl 2 rfl) ?_
      refine lv_lload_n hx hb dX1_addEquation_31 rfl (lv_at hl 3 rfl) ?_
      refine q_callVi C h (c_X1_knownValue l G o0 ar av rows rv rk x) (cwV 1 hts gX1_addEquation_X1_knownValue rfl rfl rfl (by decide +kernel) ⟨Nat.le_of_ble_eq_true rfl, Nat.le_of_ble_eq_true rfl⟩) [0, 1, 2] rfl rfl [] (wr := []) rfl rfl (by decide) 0 rfl rfl rfl hl.1 rfl (Nat.le_of_ble_eq_true rfl) dX1_addEquation_32 ⟨Nat.zero_le _, Nat.zero_le _⟩ [0, 1, 2] (w' := [(o0, .inr (1, [.ref ar, .ref av, .int (nI rk)])), (ar, .inl (G.2.2, 38, .inr (.inl rows))), (av, .inl (G.2.1, 38, .inl rv))]) rfl rfl (fun H locs h => ?_)
      refine lv_ixor hx hb dX1_addEquation_35 ?_
      refine lv_istore (lv' := [(7, .int (v ^^^ (q_kv rv x 38))), (6, .int (nI (q_low (q_rem rows x 38)))), (4, .long (q_rem rows x 38)), (0, .ref o0), (1, .long x), (3, .int v)]) hx hb dX1_addEquation_36 hl (by decide) rfl (fun ls hl => ?_)
      refine lv_iconst (v := nI 0) hx hb dX1_addEquation_38 (by decide) ?_
      refine lv_istore (lv' := [(8, .int (nI 0)), (7, .int (v ^^^ (q_kv rv x 38))), (6, .int (nI (q_low (q_rem rows x 38)))), (4, .long (q_rem rows x 38)), (0, .ref o0), (1, .long x), (3, .int v)]) hx hb dX1_addEquation_39 hl (by decide) rfl (fun ls hl => ?_)
      have loop41 : ∀ (fu : Nat) (k : Nat) (f : Nat → Int64) (g : Nat → Int32), 38 - k < fu → f = q_elR rows (q_rem rows x 38) (q_low (q_rem rows x 38)) k → g = q_elV rows rv (v ^^^ (q_kv rv x 38)) (q_low (q_rem rows x 38)) k → (k ≤ 38) → ∀ (H : Heap) (locs : List Loc), vq_H G A s [(o0, .inr (1, [.ref ar, .ref av, .int (nI rk)])), (ar, .inl (G.2.2, 38, .inr (.inl f))), (av, .inl (G.2.1, 38, .inl g))] H locs → ∀ (ls : Array Slot), lv_has ls 9 [(8, .int (nI k)), (7, .int (v ^^^ (q_kv rv x 38))), (6, .int (nI (q_low (q_rem rows x 38)))), (4, .long (q_rem rows x 38)), (0, .ref o0), (1, .long x), (3, .int v)] → W p l e ({ frames := 3, cells := 0, slots := 0, locals := 67 } : Room) s m args below meth c H locs 0 0 (MQ below (va_Qv (fun (_ : Unit) => True) (fun _ => vq_T G A [(o0, .inr (1, [.ref ar, .ref av, .int (nI (q_addK (q_rem rows x 38) rk))])), (ar, .inl (G.2.2, 38, .inr (.inl (q_addR rows (q_rem rows x 38))))), (av, .inl (G.2.1, 38, .inl (q_addV rows rv (q_rem rows x 38) (v ^^^ (q_kv rv x 38)))))]) A) args s 0 0 A) (F0 m 41 ls []) := by
        intro fu
        induction fu with
        | zero => exact fun k f g hm => absurd hm (Nat.not_lt_zero _)
        | succ fu ih =>
          intro k f g hm41 e_f e_g hk H locs h ls hl
          have ih41 := ih
          clear ih
          refine lv_iload hx hb dX1_addEquation_41 (lv_at hl 0 rfl) ?_
          refine lv_bipush (v := nI 38) hx hb dX1_addEquation_43 (by decide) ?_
          refine q_icmp_ge (tgt := 93) hx hb (by omega) (by omega) dX1_addEquation_45 (by decide) (fun z45 => ?_) (fun z45 => ?_)
          · refine lv_aload_n hx hb dX1_addEquation_93 rfl (lv_at hl 4 rfl) ?_
            refine q_get (Cn := RX1) (T := TX1) (N := 3) (ci := 1) (v := .ref ar) C h iX1 0 rfl rfl 0 (by decide) f9 rfl dX1_addEquation_94 ?_
            refine lv_iload hx hb dX1_addEquation_97 (lv_at hl 2 rfl) ?_
            refine lv_lload hx hb dX1_addEquation_99 (lv_at hl 3 rfl) ?_
            refine q_last (i := q_low (q_rem rows x 38)) (g := vp_updL f (q_low (q_rem rows x 38)) (q_rem rows x 38)) (w' := [(o0, .inr (1, [.ref ar, .ref av, .int (nI rk)])), (ar, .inl (G.2.2, 38, .inr (.inl (vp_updL f (q_low (q_rem rows x 38)) (q_rem rows x 38))))), (av, .inl (G.2.1, 38, .inl g))]) C h 1 rfl (by omega) (by omega) rfl rfl dX1_addEquation_101 (fun H locs h => ?_)
            refine lv_aload_n hx hb dX1_addEquation_102 rfl (lv_at hl 4 rfl) ?_
            refine q_get (Cn := RX1) (T := TX1) (N := 3) (ci := 1) (v := .ref av) C h iX1 0 rfl rfl 1 (by decide) f15 rfl dX1_addEquation_103 ?_
            refine lv_iload hx hb dX1_addEquation_106 (lv_at hl 2 rfl) ?_
            refine lv_iload hx hb dX1_addEquation_108 (lv_at hl 1 rfl) ?_
            refine q_iast (i := q_low (q_rem rows x 38)) (g := upd g (q_low (q_rem rows x 38)) (v ^^^ (q_kv rv x 38))) (w' := [(o0, .inr (1, [.ref ar, .ref av, .int (nI rk)])), (ar, .inl (G.2.2, 38, .inr (.inl (vp_updL f (q_low (q_rem rows x 38)) (q_rem rows x 38))))), (av, .inl (G.2.1, 38, .inl (upd g (q_low (q_rem rows x 38)) (v ^^^ (q_kv rv x 38)))))]) C h 2 rfl (by omega) (by omega) rfl rfl dX1_addEquation_110 (fun H locs h => ?_)
            refine lv_aload_n hx hb dX1_addEquation_111 rfl (lv_at hl 4 rfl) ?_
            refine lv_dup hx hb dX1_addEquation_112 rfl ?_
            refine q_get (Cn := RX1) (T := TX1) (N := 3) (ci := 1) (v := .int (nI rk)) C h iX1 0 rfl rfl 2 (by decide) f19 rfl dX1_addEquation_113 ?_
            refine lv_iconst (v := nI 1) hx hb dX1_addEquation_116 (by decide) ?_
            refine q_iadd hx hb dX1_addEquation_117 ?_
            refine q_put (Cn := RX1) (T := TX1) (N := 3) (ci := 1) (v := .int (nI (rk + 1))) (w' := [(o0, .inr (1, [.ref ar, .ref av, .int (nI (rk + 1))])), (ar, .inl (G.2.2, 38, .inr (.inl (vp_updL f (q_low (q_rem rows x 38)) (q_rem rows x 38))))), (av, .inl (G.2.1, 38, .inl (upd g (q_low (q_rem rows x 38)) (v ^^^ (q_kv rv x 38)))))]) C h iX1 tyX1 tyX1_ok nmX1 0 rfl rfl 2 (by decide) f19 rfl rfl rfl (Nat.le_of_ble_eq_true rfl) dX1_addEquation_118 rfl (fun H locs h => ?_)
            exact q_retv C h rfl (by have en : q_new (q_rem rows x 38) = true := (by simp [q_new, z18, z25]); rw [e_f, e_g, show k = 38 from by omega]; simp [q_addR, q_addV, q_addK, en]) dX1_addEquation_121
          · refine lv_aload_n hx hb dX1_addEquation_48 rfl (lv_at hl 4 rfl) ?_
            refine q_get (Cn := RX1) (T := TX1) (N := 3) (ci := 1) (v := .ref ar) C h iX1 0 rfl rfl 0 (by decide) f9 rfl dX1_addEquation_49 ?_
            refine lv_iload hx hb dX1_addEquation_52 (lv_at hl 0 rfl) ?_
            refine q_lald (i := k) (v := f k) C h 1 rfl (by omega) (by omega) rfl dX1_addEquation_54 ?_
            refine lv_iload hx hb dX1_addEquation_55 (lv_at hl 2 rfl) ?_
            refine q_callNi C h (c_X5_holds l G (f k) (q_low (q_rem rows x 38)) (by omega)) ⟨va_cnB 2 hts gX1_addEquation_X5_holds_n32 rfl rfl rfl (C.2.2.1.at 6 rfl) iniX5 (by decide +kernel) ⟨Nat.le_of_ble_eq_true rfl, Nat.le_of_ble_eq_true rfl⟩, stX5_holds, trivial⟩ [] rfl rfl [0, 1, 2] (wr := [(o0, .inr (1, [.ref ar, .ref av, .int (nI rk)])), (ar, .inl (G.2.2, 38, .inr (.inl f))), (av, .inl (G.2.1, 38, .inl g))]) rfl rfl (by decide) rfl hl.1 rfl (Nat.le_of_ble_eq_true rfl) dX1_addEquation_57 ⟨Nat.zero_le _, Nat.zero_le _⟩ [0, 1, 2] (w' := [(o0, .inr (1, [.ref ar, .ref av, .int (nI rk)])), (ar, .inl (G.2.2, 38, .inr (.inl f))), (av, .inl (G.2.1, 38, .inl g))]) rfl rfl (fun H locs h => ?_)
            refine q_ifb_eq (tgt := 87) hx hb dX1_addEquation_60 (by decide) (fun z60 => ?_) (fun z60 => ?_)
            · refine lv_iinc (v := nI (k + 1)) (lv' := [(8, .int (nI (k + 1))), (7, .int (v ^^^ (q_kv rv x 38))), (6, .int (nI (q_low (q_rem rows x 38)))), (4, .long (q_rem rows x 38)), (0, .ref o0), (1, .long x), (3, .int v)]) hx hb dX1_addEquation_87 hl (k := 0) rfl (q_inc k) (by decide) rfl (fun ls hl => ?_)
              refine lv_goto (tgt := 41) hx hb dX1_addEquation_90 (by decide) ?_
              exact ih41 (k + 1) f g (by omega) (show f = q_elR rows (q_rem rows x 38) (q_low (q_rem rows x 38)) (k + 1) from (by subst e_f; first | exact q_elR_1 z60 | exact q_elR_2 z60)) (show g = q_elV rows rv (v ^^^ (q_kv rv x 38)) (q_low (q_rem rows x 38)) (k + 1) from (by subst e_f; subst e_g; first | exact q_elV_1 z60 | exact q_elV_2 z60)) (show (k + 1) ≤ 38 from (by omega)) _ _ h _ (lv_sub hl [0, 1, 2, 3, 4, 5, 6] rfl)
            · refine lv_aload_n hx hb dX1_addEquation_63 rfl (lv_at hl 4 rfl) ?_
              refine q_get (Cn := RX1) (T := TX1) (N := 3) (ci := 1) (v := .ref ar) C h iX1 0 rfl rfl 0 (by decide) f9 rfl dX1_addEquation_64 ?_
              refine lv_iload hx hb dX1_addEquation_67 (lv_at hl 0 rfl) ?_
              refine lv_dup2_11 hx hb dX1_addEquation_69 rfl rfl ?_
              refine q_lald (i := k) (v := f k) C h 1 rfl (by omega) (by omega) rfl dX1_addEquation_70 ?_
              refine lv_lload hx hb dX1_addEquation_71 (lv_at hl 3 rfl) ?_
              refine lv_lxor hx hb dX1_addEquation_73 ?_
              refine q_last (i := k) (g := vp_updL f k ((f k) ^^^ (q_rem rows x 38))) (w' := [(o0, .inr (1, [.ref ar, .ref av, .int (nI rk)])), (ar, .inl (G.2.2, 38, .inr (.inl (vp_updL f k ((f k) ^^^ (q_rem rows x 38)))))), (av, .inl (G.2.1, 38, .inl g))]) C h 1 rfl (by omega) (by omega) rfl rfl dX1_addEquation_74 (fun H locs h => ?_)
              refine lv_aload_n hx hb dX1_addEquation_75 rfl (lv_at hl 4 rfl) ?_
              refine q_get (Cn := RX1) (T := TX1) (N := 3) (ci := 1) (v := .ref av) C h iX1 0 rfl rfl 1 (by decide) f15 rfl dX1_addEquation_76 ?_
              refine lv_iload hx hb dX1_addEquation_79 (lv_at hl 0 rfl) ?_
              refine lv_dup2_11 hx hb dX1_addEquation_81 rfl rfl ?_
              refine q_iald (i := k) (v := (g k)) C h 2 rfl (by omega) (by omega) rfl dX1_addEquation_82 ?_
              refine lv_iload hx hb dX1_addEquation_83 (lv_at hl 1 rfl) ?_
              refine lv_ixor hx hb dX1_addEquation_85 ?_
              refine q_iast (i := k) (g := upd g k ((g k) ^^^ (v ^^^ (q_kv rv x 38)))) (w' := [(o0, .inr (1, [.ref ar, .ref av, .int (nI rk)])), (ar, .inl (G.2.2, 38, .inr (.inl (vp_updL f k ((f k) ^^^ (q_rem rows x 38)))))), (av, .inl (G.2.1, 38, .inl (upd g k ((g k) ^^^ (v ^^^ (q_kv rv x 38))))))]) C h 2 rfl (by omega) (by omega) rfl rfl dX1_addEquation_86 (fun H locs h => ?_)
              refine lv_iinc (v := nI (k + 1)) (lv' := [(8, .int (nI (k + 1))), (7, .int (v ^^^ (q_kv rv x 38))), (6, .int (nI (q_low (q_rem rows x 38)))), (4, .long (q_rem rows x 38)), (0, .ref o0), (1, .long x), (3, .int v)]) hx hb dX1_addEquation_87 hl (k := 0) rfl (q_inc k) (by decide) rfl (fun ls hl => ?_)
              refine lv_goto (tgt := 41) hx hb dX1_addEquation_90 (by decide) ?_
              exact ih41 (k + 1) (vp_updL f k ((f k) ^^^ (q_rem rows x 38))) (upd g k ((g k) ^^^ (v ^^^ (q_kv rv x 38)))) (by omega) (show (vp_updL f k ((f k) ^^^ (q_rem rows x 38))) = q_elR rows (q_rem rows x 38) (q_low (q_rem rows x 38)) (k + 1) from (by subst e_f; first | exact q_elR_1 z60 | exact q_elR_2 z60)) (show (upd g k ((g k) ^^^ (v ^^^ (q_kv rv x 38)))) = q_elV rows rv (v ^^^ (q_kv rv x 38)) (q_low (q_rem rows x 38)) (k + 1) from (by subst e_f; subst e_g; first | exact q_elV_1 z60 | exact q_elV_2 z60)) (show (k + 1) ≤ 38 from (by omega)) _ _ h _ (lv_sub hl [0, 1, 2, 3, 4, 5, 6] rfl)
      exact loop41 (38 - 0 + 1) 0 rows rv (Nat.lt_succ_self _) (show rows = q_elR rows (q_rem rows x 38) (q_low (q_rem rows x 38)) 0 from (q_elR_0 rows (q_rem rows x 38) (q_low (q_rem rows x 38)))) (show rv = q_elV rows rv (v ^^^ (q_kv rv x 38)) (q_low (q_rem rows x 38)) 0 from (q_elV_0 rows rv (v ^^^ (q_kv rv x 38)) (q_low (q_rem rows x 38)))) (show 0 ≤ 38 from (Nat.zero_le _)) _ _ h _ (lv_sub hl [0, 1, 2, 3, 4, 5, 6] rfl)
    · exact q_retv C h rfl (by have en : q_new (q_rem rows x 38) = false := (by first | simp [q_new, z18, Nat.not_lt.mpr z25] | simp [q_new, z18]); simp [q_addR, q_addV, q_addK, en]) dX1_addEquation_28
end
