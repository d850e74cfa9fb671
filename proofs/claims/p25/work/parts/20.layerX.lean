/-! the layer of throws: what a throw needs, contracts of methods that throw, calls that catch -/
section VQ7
def vq_IA : String := "java/lang/IllegalArgumentException"
def vq_IS : String := "java/lang/IllegalStateException"
def vq_IB : String := "java/lang/IndexOutOfBoundsException"
def vq_xs : List (Nat × String) := [(50, "sources or parities out of range"), (55, "degree or weight out of range"), (67, "the sum of all weights would be 0"), (79, "no such source block"), (93, "no such block"), (102, "no such place"), (119, "too many drops or a contradiction"), (125, "count out of range"), (148, "the block is not determined")]
def vq_xc : List String := [vq_IA, vq_IS, vq_IB]
def vq_xd : List MethodName := [Bundle.initS "java/lang/RuntimeException", Bundle.initS "java/lang/Exception", Bundle.initS Bundle.tN]
def vq_X (A : Nat → Prop) (U : State) (H : Heap) : Prop := (∀ q ∈ vq_xs, ∃ sa, vk_R RX5 q.1 q.2 sa U) ∧ ((∀ E ∈ vq_xc, va_Nw (.castable E E) U) ∧ ∀ y ∈ vq_xd, va_Nw (.declares y) U) ∧ (va_Nc vq_IS vq_IA U ∧ va_Nc vq_IS vq_IB U) ∧ vx_Zq Bundle.tN "UNASSIGNED_STACK" Bundle.steD A U H ∧ vx_Zq Bundle.tN "SUPPRESSED_SENTINEL" Bundle.listD A U H
theorem vq_X.warm {A : Nat → Prop} {s U : State} {H : Heap} (hW : s.WarmedH U.vm) (h : vq_X A s H) : vq_X A U H :=
  ⟨fun q hq => (h.1 q hq).imp fun sa hs => vk_R.warm hW hs, ⟨fun E hE => va_Nw.warmC hW (h.2.1.1 E hE), fun y hy => va_Nw.warmD hW (h.2.1.2 y hy)⟩, ⟨va_Nc.moved hW.alike h.2.2.1.1, va_Nc.moved hW.alike h.2.2.1.2⟩, vx_Zq.moved hW.alike h.2.2.2.1, vx_Zq.moved hW.alike h.2.2.2.2⟩
theorem vq_X.same {A : Nat → Prop} {u U : State} {H : Heap} (e : u.vm = U.vm) (h : vq_X A u H) : vq_X A U H := by
  have ha : u.vm.Alike U.vm := by rw [e]; exact Vm.Alike.refl _
  exact ⟨fun q hq => (h.1 q hq).imp fun sa hs => vk_R.same e.symm hs, ⟨fun E hE => va_Nw.same rfl e (h.2.1.1 E hE), fun y hy => va_Nw.same rfl e (h.2.1.2 y hy)⟩, ⟨va_Nc.moved ha h.2.2.1.1, va_Nc.moved ha h.2.2.1.2⟩, vx_Zq.moved ha h.2.2.2.1, vx_Zq.moved ha h.2.2.2.2⟩
theorem vq_X.kept {A : Nat → Prop} {U : State} {H H1 : Heap} (h : vq_X A U H) (hq : ∀ a : Nat, a < H.size → ¬ A a → H1[a]? = H[a]?) : vq_X A U H1 := ⟨h.1, h.2.1, h.2.2.1, vx_Zq.kept h.2.2.2.1 hq, vx_Zq.kept h.2.2.2.2 hq⟩
theorem vq_X.narrow {A B : Nat → Prop} {U : State} {H : Heap} (h : vq_X A U H) (hAB : ∀ q, B q → A q) : vq_X B U H := ⟨h.1, h.2.1, h.2.2.1, vx_Zq.narrow h.2.2.2.1 hAB, vx_Zq.narrow h.2.2.2.2 hAB⟩
theorem vq_fbX {G : vq_G} {as : List Value} {ws : va_W} {sz : Nat} : FrameBlind (va_Pc as (fun U => vq_U G ws sz U ∧ vq_X (va_A ws sz) U U.heap)) := by
  intro a U g mk q
  obtain ⟨q0, ⟨q1, qP, qK, qD, qN⟩, qX⟩ := q
  exact ⟨q0, ⟨q1, qP, va_K.moved (u := U) (U := U.calling g mk a) (Vm.Alike.refl U.vm) qK, qD, vq_N.same rfl qN⟩, vq_X.same rfl qX⟩
/-- a method that throws E, its world as ws' says -/
abbrev vq_x {Z : Type} (l : Launch) (y : MethodName) (Ts : List Cond) (f lo : Nat) (G : vq_G) (as : List Value) (ws : va_W) (E : String) (ws' : Z → va_W) : Prop := ∀ sz : Nat, vx_Met l y Ts ({ frames := f, cells := 1, slots := 6, locals := lo } : Room) (va_Pc as (fun U => vq_U G ws sz U ∧ vq_X (va_A ws sz) U U.heap)) (va_Qi (fun _ (_ : Unit) => False) (fun _ _ => True) (va_A ws sz)) (vx_X (fun (_ : Z) => True) (fun E' u t => E' = E ∧ vq_T G (va_A ws sz) (ws' u) t) (va_A ws sz)) 1 6 (va_A ws sz)
theorem vq_openx {Z : Type} {l : Launch} {y : MethodName} {Ts Ts' : List Cond} {f lo maxL : Nat} {cc : ByteArray} {ret : Option FieldType} {G : vq_G} {as : List Value} {ws : va_W} {E : String} {ws' : Z → va_W} (hy : plainName y.cls = true) (hw : Ts = .code y cc maxL ret :: Ts') (hn : (lg_sl as).length ≤ maxL)
    (body : ∀ p e s m args below meth c (A : Nat → Prop) (ls : Array Slot), vq_C cc maxL ret Ts y.cls G A p s m args meth c → vq_H G A s ws s.heap [] → meth.name = y.name → vq_X A s s.heap → (∀ x ∈ c.exceptionTable.toList, False) → lv_has ls maxL (lv_args 0 as) → W p l e ({ frames := f, cells := 1, slots := 6, locals := lo } : Room) s m args below meth c s.heap [] 0 0 (vx_MQ below (va_Qi (fun _ (_ : Unit) => False) (fun _ _ => True) A) (vx_X (fun (_ : Z) => True) (fun E' u t => E' = E ∧ vq_T G A (ws' u) t) A) args s 1 6 A) (F0 m 0 ls [])) : vq_x l y Ts f lo G as ws E ws' := by
  intro sz
  refine vx_ofW (cc := cc) (maxL := maxL) (ret := ret) hy hw ?_
  intro p e s m args below meth c s₁ B hml htab hv
  obtain ⟨rfl, ⟨hsz, hP, hK, hD0, hN⟩, hX⟩ := hv
  subst hsz
  rw [lg_entry_eq]
  refine body p e s m _ below meth c _ _ ⟨⟨B.exec, B.bytes, hml, findClass_of_methodNamed B.named, atoms_spec (ws := Ts) B.pre⟩, hK, hN, fun q h => Or.inr h, B.notSynchronized, B.returns⟩ ⟨hP, hD0.self, va_S.rf⟩ (name_of_methodNamed B.named B.method).1 hX htab ?_
  exact lv_entry as hn
/-- a method with a table: it returns; what its throws and catches cost stands in mc, ms -/
abbrev vq_h {Z : Type} (l : Launch) (y : MethodName) (Ts : List Cond) (f lo mc ms : Nat) (G : vq_G) (as : List Value) (ws : va_W) (r : Int32) (ws' : Z → va_W) : Prop := ∀ sz : Nat, Met l y Ts ({ frames := f, cells := mc, slots := ms, locals := lo } : Room) (va_Pc as (fun U => vq_U G ws sz U ∧ vq_X (va_A ws sz) U U.heap)) (va_Qi (fun x (_ : Z) => x = r) (fun u => vq_T G (va_A ws sz) (ws' u)) (va_A ws sz)) mc ms (va_A ws sz)
theorem vq_openh {Z : Type} {l : Launch} {y : MethodName} {Ts Ts' : List Cond} {f lo mc ms maxL : Nat} {cc : ByteArray} {ret : Option FieldType} {hh : List (Nat × Nat × Nat × Nat)} {G : vq_G} {as : List Value} {ws : va_W} {r : Int32} {ws' : Z → va_W} (hy : plainName y.cls = true) (hw : Ts = .codeWith y cc maxL ret hh :: Ts') (hn : (lg_sl as).length ≤ maxL)
    (body : ∀ p e s m args below meth c (A : Nat → Prop) (ls : Array Slot), vq_C cc maxL ret Ts y.cls G A p s m args meth c → vq_H G A s ws s.heap [] → vq_X A s s.heap → c.exceptionTable.toList = tableOf hh → lv_has ls maxL (lv_args 0 as) → W p l e ({ frames := f, cells := mc, slots := ms, locals := lo } : Room) s m args below meth c s.heap [] 0 0 (MQ below (va_Qi (fun x (_ : Z) => x = r) (fun u => vq_T G A (ws' u)) A) args s mc ms A) (F0 m 0 ls [])) : vq_h l y Ts f lo mc ms G as ws r ws' := by
  intro sz
  refine va_MetW (cc := cc) (maxL := maxL) (ret := ret) (hh := hh) hy hw ?_
  intro p e s m args below meth c s₁ B hml hv
  obtain ⟨rfl, ⟨hsz, hP, hK, hD0, hN⟩, hX⟩ := hv
  subst hsz
  have hts := atoms_spec (ws := Ts) B.pre
  rw [lg_entry_eq]
  refine body p e s m _ below meth c _ _ ⟨⟨B.exec, B.bytes, hml, findClass_of_methodNamed B.named, hts⟩, hK, hN, fun q h => Or.inr h, B.notSynchronized, B.returns⟩ ⟨hP, hD0.self, va_S.rf⟩ hX (vx_table (x := y) B (hts _ (by rw [hw]; exact List.mem_cons_self))) ?_
  exact lv_entry as hn
end VQ7
section VQ8
variable {p : Program} {l : Launch} {e : Env} {R : Room} {s : State} {m : MethodId} {args : Array Value} {below : List Frame} {meth : Method} {c : Code} {H : Heap} {locs : List Loc} {cells slots : Nat} {Q : State → Prop}
variable {cc : ByteArray} {pc : Nat} {ls : Array Slot} {rest : List Value}
variable {nL : Nat} {ret : Option FieldType} {Ts : List Cond} {own : String} {G : vq_G} {A : Nat → Prop} {ws : va_W} {Z : Type}

theorem q_throw {E text : String} {ik is ic : Nat} (C : vq_C cc nL ret Ts RX5 G A p s m args meth c) (h : vq_H G A s ws H locs) (hst : l.stackTraces = false) (hX : vq_X A s s.heap) (htab : ∀ x ∈ c.exceptionTable.toList, False) (hfit : Bundle.fit E = true) (hE : E ∈ vq_xc) (hs : (is, text) ∈ vq_xs)
    (hk : (Cond.classLink RX5 ik E).before args s = true) (hini : (Cond.initialized E).before args s = true) (hat1 : ∀ w ∈ (vx_atS RX5 ic E ["java/lang/RuntimeException", "java/lang/Exception"]).filter goodWord, w ∈ Ts) (hat2 : ∀ w ∈ (vx_atS RX5 ic E ["java/lang/RuntimeException", "java/lang/Exception"]).filter (fun w => !goodWord w), w ∈ [Cond.castable E E, Cond.declares (Bundle.initS "java/lang/RuntimeException"), Cond.declares (Bundle.initS "java/lang/Exception"), Cond.declares (Bundle.initS Bundle.tN)]) (hgood : ∀ w ∈ Cond.classLink RX5 ik E :: Cond.initialized E :: vx_atS RX5 ic E ["java/lang/RuntimeException", "java/lang/Exception"], vx_ot w = true) (hl : ls.size = nL)
    (d0 : decode cc pc = .ok (.new ik, 3)) (d3 : decode cc (pc + 3) = .ok (.dup, 1)) (d4 : decode cc (pc + 4) = .ok (.ldc is, 2)) (d6 : decode cc (pc + 6) = .ok (.invokespecial ic, 3)) (d9 : decode cc (pc + 9) = .ok (.athrow, 1))
    (hRf : 5 < R.frames) (hRl : (rest.map fun v => v.category).sum + 82 ≤ R.locals) (hRc : cells + 1 ≤ R.cells ∧ slots + 6 ≤ R.slots) (hc : cells + 1 ≤ 1 ∧ slots + 6 ≤ 6) {ws' : Z → va_W} (u : Z) (ew : ws = ws' u) {Qc : Array Value → State → Outcome → State → Prop} :
    W p l e R s m args below meth c H locs cells slots (vx_MQ below Qc (vx_X (fun (_ : Z) => True) (fun E' u t => E' = E ∧ vq_T G A (ws' u) t) A) args s 1 6 A) (F0 m pc ls rest) := by
  obtain ⟨sa, hsa⟩ := hX.1 _ hs
  refine vx_throwS (names := ["java/lang/RuntimeException", "java/lang/Exception"]) C.1.1 C.1.2.1 hst C.1.2.2.2.1 hfit (by decide +kernel) hk hini hsa (vx_hat (fun w hw => C.1.2.2.2.2 w (hat1 w hw)) hat2 (vx_c (va_Nw.use rfl (hX.2.1.1 E hE)) (vx_c (va_Nw.use rfl (hX.2.1.2 _ (by decide +kernel))) (vx_c (va_Nw.use rfl (hX.2.1.2 _ (by decide +kernel))) (vx_c (va_Nw.use rfl (hX.2.1.2 _ (by decide +kernel))) vx_n))))) hgood hX.2.2.2.1 hX.2.2.2.2 h.2.2 (hl.trans C.1.2.2.1.symm) d0 d3 d4 d6 d9 (fun x hx => (htab x hx).elim) hRf hRl hRc.1 hRc.2 C.2.2.2.2.1 (fun t _ hz hk9 => ?_) h.2.2.2.2 hc.1 hc.2
  subst ew
  exact ⟨u, trivial, ⟨rfl, fun k q hq => (h.1 k q hq).kept (hk9 _ ((h.1 k q hq).lt)), h.2.1⟩, Nat.le_trans h.2.2.1 hz, fun q h1 h2 => (hk9 q (Nat.lt_of_lt_of_le h1 h.2.2.1)).trans (h.2.2.2.1 q h1 h2)⟩
/-- a call that throws, caught here -/
theorem q_callX (C : vq_C cc nL ret Ts own G A p s m args meth c) (h : vq_H G A s ws H locs) {y : MethodName} {Ts2 : List Cond} {f lo : Nat} {as : List Value} {wc : va_W} {w1 : Z → va_W} {E : String} {b : Nat} {Cn : String} (hM : vq_x l y Ts2 f lo G (.ref b :: as) wc E w1) (hX : vq_X A s s.heap) {index maxL n : Nat} {bytes : ByteArray} {rt : Option FieldType} (cw : CallW R s args own Cn index y bytes maxL rt Ts2 { frames := f, cells := 1, slots := 6, locals := lo } 1 6 n) (isC : List Nat) (hC : isC.map (fun i => ws[i]?) = wc.map some) (hnc : va_nd isC = true) (isR : List Nat) {wr : va_W} (hR : isR.map (fun i => ws[i]?) = wr.map some) (hn : va_nd isR = true) (hdis : ∀ i ∈ isR, i ∉ isC) (q0 : Nat) {ci : Nat} {fs : List Value} {T : u_T} {N : Nat} (he : ws[q0]? = some (b, .inr (ci, fs))) (hc : vwCl[ci]? = some (Cn, T, N)) (hnn : as.length = n) (hl : ls.size = nL) {st : List Value} (hst : st = as.reverse ++ .ref b :: rest) (hW : (rest.map fun v => v.category).sum ≤ 8) (hd : decode cc pc = .ok (.invokevirtual index, 3)) (hcs : cells + 1 ≤ R.cells ∧ slots + 6 ≤ R.slots) (perm : List Nat) {w' : Z → va_W} (hp : ∀ u, perm.map (fun i => (wr ++ w1 u)[i]?) = (w' u).map some) (hnp : va_nd perm = true)
    (pre : List ExceptionTableEntry) (x : ExceptionTableEntry) (suf : List ExceptionTableEntry) (hsplit : c.exceptionTable.toList = pre ++ x :: suf) (hpass : ∀ z ∈ pre, covers z pc = false ∨ (z.catchType ≠ 0 ∧ ∃ nm : String, (Cond.classLink own z.catchType nm).before args s = true ∧ va_Nc E nm s)) (hx : covers x pc = true) (h0 : x.catchType ≠ 0) (hE : E ∈ vq_xc) (hlink : (Cond.classLink own x.catchType E).before args s = true)
    (kk : ∀ (u : Z) (H : Heap) (locs : List Loc) (q : Nat), vq_H G A s (w' u) H locs → W p l e R s m args below meth c H locs (cells + 1) (slots + 6) Q (F0 m x.handlerPc ls [.ref q])) : W p l e R s m args below meth c H locs cells slots Q (F0 m pc ls (st)) := by
  subst hst
  have hF := va_free h.2.1 h.2.2 C.2.2.2.1 isC hC
  refine vx_calli (vx_runV C.1 (hM H.size) cw ⟨vq_fbX, va_recv C.2.1 h.1 hc he, fun U hU hW => ⟨rfl, ⟨by rw [hU], by rw [hU]; exact (h.1.sub isC (q_fm hC)), va_K.moved hW.alike C.2.1, (h.2.1.sub isC hnc hC).weaken (fun _ _ _ _ => trivial), C.2.2.1.warm hW⟩, by rw [hU]; exact vq_X.warm hW (vq_X.narrow (vq_X.kept hX h.2.2.2.1) hF)⟩⟩ rfl hnn hl rfl (lv_room hW) hd hcs) h.2.2 (fun q _ hq => hF q hq) hF (fun q _ hq => hF q hq) (fun E' ce q9 u t H1 locs1 ht hvm _ hB hz1 hk1 hS hce hcv hcl => ?_) (fun r u t H1 locs1 ht hvm hw hB hz1 hk1 hS => hw.elim)
  obtain ⟨rfl, hB⟩ := hB
  exact vx_catch C.1.2.2.2.1 pre x suf hsplit hpass hx h0 hlink (va_Nw.use rfl (hX.2.1.1 _ hE)) hce hcv hcl (kk u H1 locs1 q9 (q_after h isC isR perm hC hR hn hdis (hp u) hnp hF hk1 (by rw [← ht]; exact hB.1) hB.2 hS))
theorem q_reth (C : vq_C cc nL ret Ts own G A p s m args meth c) (h : vq_H G A s ws H locs) (hr : ret = some .int) {v r : Int32} (ev : v = r) {ws' : Z → va_W} (u : Z) (ew : ws = ws' u) {mc ms : Nat} (hmc : cells ≤ mc) (hms : slots ≤ ms) (hd : decode cc pc = .ok (.ireturn, 1)) : W p l e R s m args below meth c H locs cells slots (MQ below (va_Qi (fun x (_ : Z) => x = r) (fun u => vq_T G A (ws' u)) A) args s mc ms A) (F0 m pc ls [.int v]) := W.widen hmc hms (q_retiE C h hr ev u ew hd)
/-- a call of a method with a table -/
theorem q_callH (C : vq_C cc nL ret Ts own G A p s m args meth c) (h : vq_H G A s ws H locs) {y : MethodName} {Ts2 : List Cond} {f lo mc ms : Nat} {as : List Value} {wc : va_W} {r : Int32} {w1 : Z → va_W} (hM : vq_h l y Ts2 f lo mc ms G as wc r w1) (hX : vq_X A s s.heap) {index maxL n : Nat} {bytes : ByteArray} {rt : Option FieldType} {hh : List (Nat × Nat × Nat × Nat)} (cw : vx_CSW R s args own index y bytes maxL rt hh Ts2 { frames := f, cells := mc, slots := ms, locals := lo } mc ms n) (isC : List Nat) (hC : isC.map (fun i => ws[i]?) = wc.map some) (hnc : va_nd isC = true) (isR : List Nat) {wr : va_W} (hR : isR.map (fun i => ws[i]?) = wr.map some) (hn : va_nd isR = true) (hdis : ∀ i ∈ isR, i ∉ isC) (hnn : as.length = n) (hl : ls.size = nL) {st : List Value} (hst : st = as.reverse ++ rest) (hW : (rest.map fun v => v.category).sum ≤ 8) (hd : decode cc pc = .ok (.invokestatic index, 3)) (hcs : cells + mc ≤ R.cells ∧ slots + ms ≤ R.slots) (perm : List Nat) {w' : Z → va_W} (hp : ∀ u, perm.map (fun i => (wr ++ w1 u)[i]?) = (w' u).map some) (hnp : va_nd perm = true)
    (kk : ∀ (u : Z) (H : Heap) (locs : List Loc), vq_H G A s (w' u) H locs → W p l e R s m args below meth c H locs (cells + mc) (slots + ms) Q (F0 m (pc + 3) ls (.int r :: rest))) : W p l e R s m args below meth c H locs cells slots Q (F0 m pc ls (st)) := by
  subst hst
  have hF := va_free h.2.1 h.2.2 C.2.2.2.1 isC hC
  refine va_calli (vx_runSW C.1 (hM H.size) cw ⟨vq_fbX, fun U hU hW => ⟨rfl, ⟨by rw [hU], by rw [hU]; exact (h.1.sub isC (q_fm hC)), va_K.moved hW.alike C.2.1, (h.2.1.sub isC hnc hC).weaken (fun _ _ _ _ => trivial), C.2.2.1.warm hW⟩, by rw [hU]; exact vq_X.warm hW (vq_X.narrow (vq_X.kept hX h.2.2.2.1) hF)⟩⟩ rfl hnn hl rfl (lv_room hW) hd hcs) h.2.2 (fun q _ hq => hF q hq) hF (fun x u t H1 locs1 ht hvm hw hB hz1 hk1 hS => ?_)
  subst hw
  exact kk u H1 locs1 (q_after h isC isR perm hC hR hn hdis (hp u) hnp hF hk1 (by rw [← ht]; exact hB.1) hB.2 hS)
end VQ8
theorem xg_IA2 : ∀ w ∈ (vx_atS RX5 52 vq_IA ["java/lang/RuntimeException", "java/lang/Exception"]).filter (fun w => !goodWord w), w ∈ [Cond.castable vq_IA vq_IA, Cond.declares (Bundle.initS "java/lang/RuntimeException"), Cond.declares (Bundle.initS "java/lang/Exception"), Cond.declares (Bundle.initS Bundle.tN)] := by decide +kernel
theorem xg_IS2 : ∀ w ∈ (vx_atS RX5 69 vq_IS ["java/lang/RuntimeException", "java/lang/Exception"]).filter (fun w => !goodWord w), w ∈ [Cond.castable vq_IS vq_IS, Cond.declares (Bundle.initS "java/lang/RuntimeException"), Cond.declares (Bundle.initS "java/lang/Exception"), Cond.declares (Bundle.initS Bundle.tN)] := by decide +kernel
theorem xg_IB2 : ∀ w ∈ (vx_atS RX5 81 vq_IB ["java/lang/RuntimeException", "java/lang/Exception"]).filter (fun w => !goodWord w), w ∈ [Cond.castable vq_IB vq_IB, Cond.declares (Bundle.initS "java/lang/RuntimeException"), Cond.declares (Bundle.initS "java/lang/Exception"), Cond.declares (Bundle.initS Bundle.tN)] := by decide +kernel
theorem xg_IA3 : ∀ w ∈ Cond.classLink RX5 48 vq_IA :: Cond.initialized vq_IA :: vx_atS RX5 52 vq_IA ["java/lang/RuntimeException", "java/lang/Exception"], vx_ot w = true := by decide +kernel
theorem xg_IS3 : ∀ w ∈ Cond.classLink RX5 65 vq_IS :: Cond.initialized vq_IS :: vx_atS RX5 69 vq_IS ["java/lang/RuntimeException", "java/lang/Exception"], vx_ot w = true := by decide +kernel
theorem xg_IB3 : ∀ w ∈ Cond.classLink RX5 77 vq_IB :: Cond.initialized vq_IB :: vx_atS RX5 81 vq_IB ["java/lang/RuntimeException", "java/lang/Exception"], vx_ot w = true := by decide +kernel
def q_bl (b : Bool) : Int64 := if b then 1 else 0
