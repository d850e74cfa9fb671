/-! the layer of makings: new objects, new rows, constructors; a row that stands from the start and is cloned -/
section VQ5
/-- the first weights, as the class holds them -/
def q_w0 : Nat → Nat := fun j => if j = 0 then 3 else if j = 1 then 20 else if j = 2 then 8 else if j = 3 then 4 else if j = 4 then 3 else if j = 5 then 2 else 1
def vq_F (I : ClassId) (A : Nat → Prop) (U : State) (H : Heap) : Prop := va_Nw (.castable "[I" "java/lang/Cloneable") U ∧ ∃ (t : Nat) (cell : Cell), va_Z RX4 "FIRST_WEIGHTS" "[I" (.ref t) A U H ∧ H[t]? = some cell ∧ cell.cls = I ∧ cell.vm ≠ .unknown ∧ (∀ k, cell.vm ≠ .statics k) ∧ cell.slots = (arrV I 12 (fun j => .int (nI (q_w0 j)))).slots ∧ ¬ A t
theorem vq_F.warm {I : ClassId} {A : Nat → Prop} {s U : State} {H : Heap} (hW : s.WarmedH U.vm) (h : vq_F I A s H) : vq_F I A U H := by
  obtain ⟨h0, t, cell, h1, h2⟩ := h
  exact ⟨va_Nw.warmC hW h0, t, cell, va_Z.moved hW.alike h1, h2⟩
theorem vq_F.same {I : ClassId} {A : Nat → Prop} {u U : State} {H : Heap} (e : u.vm = U.vm) (h : vq_F I A u H) : vq_F I A U H := by
  obtain ⟨h0, t, cell, h1, h2⟩ := h
  exact ⟨va_Nw.same rfl e h0, t, cell, va_Z.moved (by rw [e]; exact Vm.Alike.refl _) h1, h2⟩
theorem vq_F.kept {I : ClassId} {A : Nat → Prop} {U : State} {H H1 : Heap} (h : vq_F I A U H) (hq : ∀ a : Nat, a < H.size → ¬ A a → H1[a]? = H[a]?) : vq_F I A U H1 := by
  obtain ⟨h0, t, cell, h1, h2, h3, h4, h5, h6, h7⟩ := h
  exact ⟨h0, t, cell, va_Z.kept h1 hq, by rw [hq t (Array.getElem?_eq_some_iff.mp h2).1 h7]; exact h2, h3, h4, h5, h6, h7⟩
theorem vq_F.narrow {I : ClassId} {A B : Nat → Prop} {U : State} {H : Heap} (h : vq_F I A U H) (hAB : ∀ q, B q → A q) : vq_F I B U H := by
  obtain ⟨h0, t, cell, h1, h2, h3, h4, h5, h6, h7⟩ := h
  exact ⟨h0, t, cell, va_Z.narrow h1 hAB, h2, h3, h4, h5, h6, fun z => h7 (hAB t z)⟩
/-- what a constructor needs beside its world: nothing (b false), or the first weights (b true) -/
def vq_E (b : Bool) (G : vq_G) (A : Nat → Prop) (U : State) (H : Heap) : Prop := b = true → vq_F G.2.1 A U H
abbrev vq_c {Z : Type} (b : Bool) (l : Launch) (y : MethodName) (Ts : List Cond) (f lo mc ms : Nat) (G : vq_G) (as : List Value) (ws : va_W) (ws' : Z → va_W) : Prop := ∀ sz : Nat, Met l y Ts ({ frames := f, cells := mc, slots := ms, locals := lo } : Room) (va_Pc as (fun U => vq_U G ws sz U ∧ vq_E b G (va_A ws sz) U U.heap)) (va_Qv (fun (_ : Z) => True) (fun u => vq_T G (va_A ws sz) (ws' u)) (va_A ws sz)) mc ms (va_A ws sz)
theorem vq_fbE {b : Bool} {G : vq_G} {as : List Value} {ws : va_W} {sz : Nat} : FrameBlind (va_Pc as (fun U => vq_U G ws sz U ∧ vq_E b G (va_A ws sz) U U.heap)) := by
  intro a U g mk q
  obtain ⟨q0, ⟨q1, qP, qK, qD, qN⟩, qE⟩ := q
  exact ⟨q0, ⟨q1, qP, va_K.moved (u := U) (U := U.calling g mk a) (Vm.Alike.refl U.vm) qK, qD, vq_N.same rfl qN⟩, fun hb => vq_F.same rfl (qE hb)⟩
theorem vq_openc {Z : Type} {b : Bool} {l : Launch} {y : MethodName} {Ts Ts' : List Cond} {f lo maxL mc ms : Nat} {cc : ByteArray} {ret : Option FieldType} {G : vq_G} {as : List Value} {ws : va_W} {ws' : Z → va_W} (hy : plainName y.cls = true) (hw : Ts = .code y cc maxL ret :: Ts') (hn : (lg_sl as).length ≤ maxL)
    (body : ∀ p e s m args below meth c (A : Nat → Prop) (ls : Array Slot), vq_C cc maxL ret Ts y.cls G A p s m args meth c → vq_H G A s ws s.heap [] → meth.name = y.name → vq_E b G A s s.heap → lv_has ls maxL (lv_args 0 as) → W p l e ({ frames := f, cells := mc, slots := ms, locals := lo } : Room) s m args below meth c s.heap [] 0 0 (MQ below (va_Qv (fun (_ : Z) => True) (fun u => vq_T G A (ws' u)) A) args s mc ms A) (F0 m 0 ls [])) : vq_c b l y Ts f lo mc ms G as ws ws' := by
  intro sz
  refine Met.ofW (cc := cc) (maxL := maxL) (ret := ret) hy hw ?_
  intro p e s m args below meth c s₁ B hml hv
  obtain ⟨rfl, ⟨hsz, hP, hK, hD0, hN⟩, hE⟩ := hv
  subst hsz
  rw [lg_entry_eq]
  refine body p e s m _ below meth c _ _ ⟨⟨B.exec, B.bytes, hml, findClass_of_methodNamed B.named, atoms_spec (ws := Ts) B.pre⟩, hK, hN, fun q h => Or.inr h, B.notSynchronized, B.returns⟩ ⟨hP, hD0.self, va_S.rf⟩ (name_of_methodNamed B.named B.method).1 hE ?_
  exact lv_entry as hn
end VQ5
section VQ6
variable {p : Program} {l : Launch} {e : Env} {R : Room} {s : State} {m : MethodId} {args : Array Value} {below : List Frame} {meth : Method} {c : Code} {H : Heap} {locs : List Loc} {cells slots : Nat} {Q : State → Prop}
variable {cc : ByteArray} {pc : Nat} {ls : Array Slot} {rest : List Value}
variable {nL : Nat} {ret : Option FieldType} {Ts : List Cond} {own : String} {G : vq_G} {A : Nat → Prop} {ws : va_W} {Z : Type}

theorem q_newI (C : vq_C cc nL ret Ts own G A p s m args meth c) (h : vq_H G A s ws H locs) (harr : (Cond.arrayClass .int).before args s = true) {n : Nat} (hn : n < 2 ^ 16) (hcells : cells + 1 ≤ R.cells) (hslots : slots + n ≤ R.slots) (hd : decode cc pc = .ok (.newarray .int, 2)) {w' : Nat → va_W} (hw : ∀ q, ws ++ [(q, .inl (G.2.1, n, .inl (fun _ => 0)))] = w' q)
    (kk : ∀ (q : Nat) (H : Heap), vq_H G A s (w' q) H locs → W p l e R s m args below meth c H locs (cells + 1) (slots + n) Q (F0 m (pc + 2) ls (.ref q :: rest))) : W p l e R s m args below meth c H locs cells slots Q (F0 m pc ls (.int (nI n) :: rest)) := by
  refine va_newa (atype := .int) (ty := .int) (N' := n) (a0 := (n, .inl (fun _ => 0))) C.1.1 C.1.2.1 harr rfl C.2.1 h.1 h.2.1 h.2.2 C.2.2.2.1 (fun cA => rfl) (nI_pos (by omega)) (nI_clamp (by omega)) (by simp [componentBytes]; omega) hcells hslots hd (fun q cA H1 hK1 hP hD hS => ?_)
  have e1 : cA = G.2.1 := by
    have a1 := va_nm_int (hK1.2 2 _ rfl).2
    have a2 := va_nm_int (C.2.1.2 0 _ rfl).2
    exact Option.some.inj (a1.symm.trans a2)
  subst e1
  exact kk q H1 (hw q ▸ ⟨hP, hD, hS⟩)
theorem q_newL (C : vq_C cc nL ret Ts own G A p s m args meth c) (h : vq_H G A s ws H locs) (harr : (Cond.arrayClass .long).before args s = true) {n : Nat} (hn : n < 2 ^ 16) (hcells : cells + 1 ≤ R.cells) (hslots : slots + n ≤ R.slots) (hd : decode cc pc = .ok (.newarray .long, 2)) {w' : Nat → va_W} (hw : ∀ q, ws ++ [(q, .inl (G.2.2, n, .inr (.inl (fun _ => 0))))] = w' q)
    (kk : ∀ (q : Nat) (H : Heap), vq_H G A s (w' q) H locs → W p l e R s m args below meth c H locs (cells + 1) (slots + n) Q (F0 m (pc + 2) ls (.ref q :: rest))) : W p l e R s m args below meth c H locs cells slots Q (F0 m pc ls (.int (nI n) :: rest)) := by
  refine va_newa (atype := .long) (ty := .long) (N' := n) (a0 := (n, .inr (.inl (fun _ => 0)))) C.1.1 C.1.2.1 harr rfl C.2.1 h.1 h.2.1 h.2.2 C.2.2.2.1 (fun cA => rfl) (nI_pos (by omega)) (nI_clamp (by omega)) (by simp [componentBytes]; omega) hcells hslots hd (fun q cA H1 hK1 hP hD hS => ?_)
  have e1 : cA = G.2.2 := by
    have a1 := va_nm_long (hK1.2 2 _ rfl).2
    have a2 := va_nm_long (C.2.1.2 1 _ rfl).2
    exact Option.some.inj (a1.symm.trans a2)
  subst e1
  exact kk q H1 (hw q ▸ ⟨hP, hD, hS⟩)
theorem q_newO (C : vq_C cc nL ret Ts own G A p s m args meth c) (h : vq_H G A s ws H locs) {Cn : String} {T : u_T} {N ci index : Nat} (hin : ∀ w ∈ u_ws Cn T N, w ∈ Ts) (ty : Nat → FieldType) (hty : ∀ k, k < N → parseFieldDescriptor (T k).2.2.1 = some (ty k)) (hcl : (Cond.classLink own index Cn).before args s = true) (hinst : (Cond.instantiable Cn N).before args s = true) (hini : (Cond.initialized Cn).before args s = true) (hc : vwCl[ci]? = some (Cn, T, N)) {fs : List Value} (hfs : ∀ j, j < N → defaultValue (ty j) = vp_V fs j) (hcells : cells + 1 ≤ R.cells) (hslots : slots + N ≤ R.slots) (hd : decode cc pc = .ok (.new index, 3)) {w' : Nat → va_W} (hw : ∀ q, ws ++ [(q, .inr (ci, fs))] = w' q)
    (kk : ∀ (q : Nat) (H : Heap), vq_H G A s (w' q) H locs → W p l e R s m args below meth c H locs (cells + 1) (slots + N) Q (F0 m (pc + 3) ls (.ref q :: rest))) : W p l e R s m args below meth c H locs cells slots Q (F0 m pc ls (rest)) :=
  va_new C.1.1 C.1.2.1 C.1.2.2.2.2 hin ty hty C.1.2.2.2.1 hcl hinst hini C.2.1 h.1 h.2.1 h.2.2 C.2.2.2.1 hc hfs hcells hslots hd (fun q H1 hP hD hS => kk q H1 (hw q ▸ ⟨hP, hD, hS⟩))
theorem q_oinit (C : vq_C cc nL ret Ts own G A p s m args meth c) (h : vq_H G A s ws H locs) {idx a : Nat} (hlink : (Cond.methodLink own idx objectInit).before args s = true) (hinst : (Cond.instanceMethod objectInit).before args s = true) (hcode : (Cond.code objectInit ⟨#[0xb1]⟩ 1 none).before args s = true) (hl : ls.size = nL) (hd : decode cc pc = .ok (.invokespecial idx, 3)) (hf : 1 ≤ R.frames) (hlo : (rest.map fun v => v.category).sum + 12 ≤ R.locals)
    (kk : W p l e R s m args below meth c H locs (cells) (slots) Q (F0 m (pc + 3) ls (rest))) : W p l e R s m args below meth c H locs cells slots Q (F0 m pc ls (.ref a :: rest)) := W.objInit C.1.1 C.1.2.1 C.1.2.2.2.1 hlink hinst hcode (g := F0 m pc ls (.ref a :: rest)) rfl (hl.trans C.1.2.2.1.symm) rfl hd hf (by show 2 * 0 + _ + 12 ≤ _; omega) kk
theorem q_retc (C : vq_C cc nL ret Ts own G A p s m args meth c) (h : vq_H G A s ws H locs) (hr : ret = none) {ws' : Z → va_W} (u : Z) (ew : ws = ws' u) {mc ms : Nat} (hmc : cells ≤ mc) (hms : slots ≤ ms) (hd : decode cc pc = .ok (.return_, 1)) : W p l e R s m args below meth c H locs cells slots (MQ below (va_Qv (fun (_ : Z) => True) (fun u => vq_T G A (ws' u)) A) args s mc ms A) (F0 m pc ls []) := W.widen hmc hms (q_retvE C h hr u ew hd)
theorem q_callIN (C : vq_C cc nL ret Ts own G A p s m args meth c) (h : vq_H G A s ws H locs) {b : Bool} {y : MethodName} {Ts2 : List Cond} {f lo mc ms o : Nat} {as : List Value} {wc : va_W} {w1 : Z → va_W} {host : String} (hM : vq_c b l y Ts2 f lo mc ms G (.ref o :: as) wc w1) (hE : vq_E b G A s s.heap) {index maxL n : Nat} {bytes : ByteArray} (cw : va_CN R s args own index y host bytes maxL none Ts2 { frames := f, cells := mc, slots := ms, locals := lo } mc ms n ∧ y.name = "<init>" ∧ (Cond.instanceMethod y).before args s = true) (isC : List Nat) (hC : isC.map (fun i => ws[i]?) = wc.map some) (hnc : va_nd isC = true) (isR : List Nat) {wr : va_W} (hR : isR.map (fun i => ws[i]?) = wr.map some) (hn : va_nd isR = true) (hdis : ∀ i ∈ isR, i ∉ isC) (hnn : as.length = n) (hl : ls.size = nL) {st : List Value} (hst : st = as.reverse ++ .ref o :: rest) (hW : (rest.map fun v => v.category).sum ≤ 8) (hd : decode cc pc = .ok (.invokespecial index, 3)) (hcs : cells + mc ≤ R.cells ∧ slots + ms ≤ R.slots) (perm : List Nat) {w' : Z → va_W} (hp : ∀ u, perm.map (fun i => (wr ++ w1 u)[i]?) = (w' u).map some) (hnp : va_nd perm = true)
    (kk : ∀ (u : Z) (H : Heap) (locs : List Loc), vq_H G A s (w' u) H locs → W p l e R s m args below meth c H locs (cells + mc) (slots + ms) Q (F0 m (pc + 3) ls (rest))) : W p l e R s m args below meth c H locs cells slots Q (F0 m pc ls (st)) := by
  subst hst
  have hF := va_free h.2.1 h.2.2 C.2.2.2.1 isC hC
  refine va_callv (va_runIN C.1 (hM H.size) cw ⟨vq_fbE, fun U hU hW => ⟨rfl, ⟨by rw [hU], by rw [hU]; exact (h.1.sub isC (q_fm hC)), va_K.moved hW.alike C.2.1, (h.2.1.sub isC hnc hC).weaken (fun _ _ _ _ => trivial), C.2.2.1.warm hW⟩, fun hb => by rw [hU]; exact vq_F.warm hW (vq_F.narrow (vq_F.kept (hE hb) h.2.2.2.1) hF)⟩⟩ rfl hnn hl rfl (lv_room hW) hd hcs) h.2.2 (fun q _ hq => hF q hq) hF (fun u t H1 locs1 ht hvm hw hB hz1 hk1 hS => ?_)
  exact kk u H1 locs1 (q_after h isC isR perm hC hR hn hdis (hp u) hnp hF hk1 (by rw [← ht]; exact hB.1) hB.2 hS)
theorem q_callIP (C : vq_C cc nL ret Ts own G A p s m args meth c) (h : vq_H G A s ws H locs) {b : Bool} {y : MethodName} {Ts2 : List Cond} {f lo mc ms o : Nat} {as : List Value} {wc : va_W} {w1 : Z → va_W} (hM : vq_c b l y Ts2 f lo mc ms G (.ref o :: as) wc w1) (hE : vq_E b G A s s.heap) {index maxL n : Nat} {bytes : ByteArray} (cw : CallB R s args own index y bytes maxL none Ts2 { frames := f, cells := mc, slots := ms, locals := lo } mc ms n ∧ y.name = "<init>" ∧ (Cond.instanceMethod y).before args s = true) (isC : List Nat) (hC : isC.map (fun i => ws[i]?) = wc.map some) (hnc : va_nd isC = true) (isR : List Nat) {wr : va_W} (hR : isR.map (fun i => ws[i]?) = wr.map some) (hn : va_nd isR = true) (hdis : ∀ i ∈ isR, i ∉ isC) (hnn : as.length = n) (hl : ls.size = nL) {st : List Value} (hst : st = as.reverse ++ .ref o :: rest) (hW : (rest.map fun v => v.category).sum ≤ 8) (hd : decode cc pc = .ok (.invokespecial index, 3)) (hcs : cells + mc ≤ R.cells ∧ slots + ms ≤ R.slots) (perm : List Nat) {w' : Z → va_W} (hp : ∀ u, perm.map (fun i => (wr ++ w1 u)[i]?) = (w' u).map some) (hnp : va_nd perm = true)
    (kk : ∀ (u : Z) (H : Heap) (locs : List Loc), vq_H G A s (w' u) H locs → W p l e R s m args below meth c H locs (cells + mc) (slots + ms) Q (F0 m (pc + 3) ls (rest))) : W p l e R s m args below meth c H locs cells slots Q (F0 m pc ls (st)) := by
  subst hst
  have hF := va_free h.2.1 h.2.2 C.2.2.2.1 isC hC
  refine va_callv (va_runI C.1 (hM H.size) cw ⟨vq_fbE, fun U hU hW => ⟨rfl, ⟨by rw [hU], by rw [hU]; exact (h.1.sub isC (q_fm hC)), va_K.moved hW.alike C.2.1, (h.2.1.sub isC hnc hC).weaken (fun _ _ _ _ => trivial), C.2.2.1.warm hW⟩, fun hb => by rw [hU]; exact vq_F.warm hW (vq_F.narrow (vq_F.kept (hE hb) h.2.2.2.1) hF)⟩⟩ rfl hnn hl rfl (lv_room hW) hd hcs) h.2.2 (fun q _ hq => hF q hq) hF (fun u t H1 locs1 ht hvm hw hB hz1 hk1 hS => ?_)
  exact kk u H1 locs1 (q_after h isC isR perm hC hR hn hdis (hp u) hnp hF hk1 (by rw [← ht]; exact hB.1) hB.2 hS)
/-- the clone of the row of first weights -/
theorem q_cloneF (C : vq_C cc nL ret Ts own G A p s m args meth c) (h : vq_H G A s ws H locs) (hE : vq_F G.2.1 A s s.heap) {i1 i2 i3 : Nat} (hown2 : own = RX4)
    (hlink1 : (Cond.fieldLink own i1 RX4 "FIRST_WEIGHTS" "[I").before args s = true) (hlink : (Cond.methodLink own i2 ⟨"[I", "clone", "()Ljava/lang/Object;"⟩).before args s = true) (hsame : (Cond.sameMethod "[I" "java/lang/Object" "clone" "()Ljava/lang/Object;").before args s = true)
    (hnat : (Cond.native ⟨"java/lang/Object", "clone", "()Ljava/lang/Object;"⟩).before args s = true) (hinst : (Cond.instanceMethod ⟨"java/lang/Object", "clone", "()Ljava/lang/Object;"⟩).before args s = true)
    (hsel : (Cond.selects "[I" ⟨"[I", "clone", "()Ljava/lang/Object;"⟩ ⟨"java/lang/Object", "clone", "()Ljava/lang/Object;"⟩).before args s = true) (hlink3 : (Cond.classLink own i3 "[I").before args s = true)
    (hl : ls.size = nL) (hframes : 1 ≤ R.frames) (hlocals : (rest.map fun v => v.category).sum + 14 ≤ R.locals) (hcells : cells + 1 ≤ R.cells) (hslots : slots + 12 ≤ R.slots)
    (hd1 : decode cc pc = .ok (.getstatic i1, 3)) (hd2 : decode cc (pc + 3) = .ok (.invokevirtual i2, 3)) (hd3 : decode cc (pc + 6) = .ok (.checkcast i3, 3)) {w' : Nat → va_W} (hw : ∀ q, ws ++ [(q, .inl (G.2.1, 12, .inl (fun zz => nI (q_w0 zz))))] = w' q)
    (kk : ∀ (q : Nat) (H : Heap), vq_H G A s (w' q) H locs → W p l e R s m args below meth c H locs (cells + 1) (slots + 12) Q (F0 m (pc + 9) ls (.ref q :: rest))) : W p l e R s m args below meth c H locs cells slots Q (F0 m pc ls (rest)) := by
  obtain ⟨hcl, t, cell, hZ, hct, hcI, hkn, hst, hsl, hAt⟩ := hE
  refine va_gets C.1.1 C.1.2.1 hZ h.2.2 C.1.2.2.2.1 hlink1 (fun _ h9 => h9) hd1 ?_
  have hml : c.maxLocals = ls.size := C.1.2.2.1.trans hl.symm
  have hct1 : H[t]? = some cell := by rw [h.2.2.2.1 t (Array.getElem?_eq_some_iff.mp hct).1 hAt]; exact hct
  have hnm : s.vm.findClass "[I" = some cell.cls := by rw [hcI]; exact va_nm_int (C.2.1.2 0 _ rfl).2
  obtain ⟨c0, t0', f1, f2, f3⟩ := Cond.castable_spec (va_Nw.use (A := args) rfl hcl)
  cases hnm.symm.trans f1
  intro T hT X
  have hcellT : T.heap[t]? = some cell := by rw [hT]; exact hct1
  have hAr := (C.2.1.2 0 _ rfl).1 0 (fun _ => .null)
  obtain ⟨-, kA, hkA, comp, hkind⟩ := State.isArrayOf_alike X.warmed.alike hAr
  obtain ⟨-, kS, hkS, compS, hkindS⟩ := hAr
  have hsz : cell.slots.size = 12 := by rw [hsl]; exact arrV_size _ _ _
  obtain ⟨vm', X', st⟩ := X.cloneArray C.1.1 C.1.2.2.2.1 hlink hsame hnat hinst hsel (a := t) (cell := cell) hcellT hst hkn hnm f2 f3
    (fun i v hv => by
      have hk' : T.vm.classes[cell.cls]? = some kA := by rw [hcI]; exact hkA
      have hfit : fits .int v = true := va_fit (cA := G.2.1) (n := 12) (F := fun j => .int (nI (q_w0 j))) (fun _ _ => rfl) i v (by rw [← hsl]; exact hv)
      simpa [State.fitsSlot, State.slotType?, hk', hkind] using hfit)
    (g := F0 m (pc + 3) ls (.ref t :: rest)) rfl (by rw [hml]) rfl (by rw [C.1.2.1]; exact hd2) hframes (by show 2 * 0 + _ + 14 ≤ _; omega) hcells (by rw [hsz]; exact hslots) (hloader := by rw [hcI]; exact Vm.clonesLoader_of_array hkS hkindS)
  have hcellE : ({ cls := cell.cls, slots := cell.slots } : Cell) = vp_cell G.2.1 (12, .inl (fun zz => nI (q_w0 zz))) := by rw [hcI, hsl]; rfl
  rw [hcellE, hsz] at X'
  generalize hH1 : H.push (vp_cell G.2.1 (12, .inl (fun zz => nI (q_w0 zz)))) = H1
  have z1 : H1.size = H.size + 1 := by rw [← hH1, Array.size_push]
  have e1 : H1[H.size]? = some (vp_cell G.2.1 (12, .inl (fun zz => nI (q_w0 zz)))) := by rw [← hH1, Array.getElem?_push_size]
  have o1 : ∀ q : Nat, q < H.size → H1[q]? = H[q]? := fun q hq => by rw [← hH1, Array.getElem?_push, if_neg (Nat.ne_of_lt hq)]
  have hk : ∀ (k : Nat) (y : Nat × va_E), ws[k]? = some y → H1[y.1]? = H[y.1]? := fun k y hy => o1 y.1 ((h.1 k y hy).lt)
  have hP1 : va_P G.1 vwCl (ws ++ [(H.size, .inl (G.2.1, 12, .inl (fun zz => nI (q_w0 zz))))]) H1 := (h.1.kept hk).app (fun k y hy => by
      have hz : k < 1 := (List.getElem?_eq_some_iff.mp hy).1
      rw [show k = 0 by omega] at hy
      cases hy
      exact e1)
  have hN : vq_H G A s (w' H.size) H1 locs := hw H.size ▸ ⟨hP1, h.2.1.push h.1 rfl (C.2.2.2.1 _ h.2.2.1), ⟨Nat.le_trans h.2.2.1 (by omega), fun y h1 h2 => (o1 y (Nat.lt_of_lt_of_le h1 h.2.2.1)).trans (h.2.2.2.1 y h1 h2), h.2.2.2.2⟩⟩
  have hcast := va_castA (D := G.1) (cl := vwCl) (R := R) (e := e) (l := l) (below := below) (locs := locs) (cells := cells + 1) (slots := slots + 12) (Q := Q) (ls := ls) (rest := rest) (pc := pc + 6) C.1.1 C.1.2.1 C.1.2.2.2.1 hlink3 (hN.1) ws.length (by rw [← hw H.size, List.getElem?_append_right (Nat.le_refl _), Nat.sub_self]; rfl) (va_nm_int (C.2.1.2 0 _ rfl).2) hd3 (kk H.size H1 hN)
  obtain ⟨t2, b1, b2⟩ := hcast ((T.setVm vm').pushCell (vp_cell G.2.1 (12, .inl (fun zz => nI (q_w0 zz))))) (by rw [← hH1, ← hT]; rfl) X'
  refine ⟨t2, st t2 ?_, b2⟩
  rw [hcellE, hT]
  exact b1
end VQ6
