/-! ===== BEGIN words of one list among another's, by their places ===== -/
theorem goodIn_r {big : List Cond} (ws : List Cond) (ps : List Nat) (hp : ws = ps.filterMap (fun i => big[i]?)) (h : ws.all goodWord = true) : GoodIn big ws := by
  intro w hw
  have h1 := List.all_eq_true.mp h w hw
  rw [hp] at hw
  obtain ⟨i, -, hi⟩ := List.mem_filterMap.mp hw
  have hm : w ∈ big := by first | exact List.mem_of_getElem? hi | exact List.getElem?_mem hi
  exact ⟨hm, good_of_word h1⟩
theorem goodIn_app {big a b : List Cond} (ha : GoodIn big a) (hb : GoodIn big b) : GoodIn big (a ++ b) := fun w h => (List.mem_append.mp h).elim (ha w) (hb w)
theorem goodIn_ca {big a b : List Cond} {c : Cond} (ha : GoodIn big (c :: a)) (hb : GoodIn big b) : GoodIn big (c :: (a ++ b)) := fun w h => (List.mem_cons.mp h).elim (fun e => ha w (List.mem_cons.mpr (Or.inl e))) (fun h => (List.mem_append.mp h).elim (fun h => ha w (List.mem_cons.mpr (Or.inr h))) (hb w))
theorem goodIn_sub {big ws : List Cond} (hm : ∀ w ∈ ws, w ∈ big) (h : ws.all goodWord = true) : GoodIn big ws := fun w hw => ⟨hm w hw, good_of_word (List.all_eq_true.mp h w hw)⟩
/-! ===== END ===== -/

/-! ===== BEGIN exceptions that leave a method, and their catching by the caller (launches without stack traces) ===== -/
section VXA
/-! The laws vx_back, vx_callV, vx_callS, vx_callSW, vx_throw0, vx_throwS follow proofs of the library, with one case more: JvmDerived/Free/Laws.lean (Back.of_free), Shelf42/LK1.lean (callV, callS), Shelf/KitTraced.lean (throwNew0V, throwNewS). -/
/-- where a method has thrown q: the class by its name, the cell, what was written, the world -/
def vx_T (XC : String → State → State → Prop) (st : State) (q : Addr) (t : State) (mc ms : Nat) (free : Addr → Prop) : Prop :=
  ∃ (E : String) (ce : Cell) (L : List Loc), XC E st t ∧ t.heap[q]? = some ce ∧ ce.vm = .none ∧ st.vm.findClass E = some ce.cls ∧ st.WarmedH t.vm ∧ st.sameButNew ({ t with vm := st.vm } : State) L mc ms ∧ ∀ z ∈ L, free z.base
def vx_Q (Qc : Array Value → State → Outcome → State → Prop) (XC : String → State → State → Prop) (mc ms : Nat) (free : Addr → Prop) : Array Value → State → Outcome → State → Prop := fun a st o t =>
  (Qc a st o t ∧ ∃ L, FrameEnd st o t L mc ms ∧ ∀ q ∈ L, free q.base) ∨ ∃ q, o = .threw q ∧ vx_T XC st q t mc ms free
/-- a callee that returns or throws -/
def vx_Met (l : Launch) (y : MethodName) (ws : List Cond) (rm : Room) (Pc : Array Value → State → Prop) (Qc : Array Value → State → Outcome → State → Prop) (XC : String → State → State → Prop) (mc ms : Nat) (free : Addr → Prop) : Prop :=
  MetFree l y (headSpec ws rm) Pc (fun _ _ _ _ _ => True) (vx_Q Qc XC mc ms free)
def vx_Post (XC : String → State → State → Prop) (mc ms : Nat) (free : Addr → Prop) : Pt → Array Value → Addr → Pt → Prop := fun A a q B =>
  ∃ (g : JFrame) (mk : MethodId) (t : State) (L : List Loc) (E : String) (ce : Cell), B.U.heap = t.heap ∧ B.U.vm = t.vm ∧ XC E (A.U.calling g mk a) t ∧ t.heap[q]? = some ce ∧ ce.vm = .none ∧ A.U.vm.findClass E = some ce.cls ∧ B.locs = A.locs ++ L ∧ (∀ z ∈ L, free z.base) ∧ B.cells = A.cells + mc ∧ B.slots = A.slots + ms
def vx_Back (l : Launch) (R : Room) (p : Program) (e : Env) (below : List Frame) (s : State) (sargs : Array Value) (y : MethodName) (len W9 : Nat)
    (Pre : Pt → Array Value → Prop) (Post : Pt → Array Value → Option Value → Pt → Prop) (PostX : Pt → Array Value → Addr → Pt → Prop) : Prop :=
  ∀ (m : MethodId) (meth : Method) (c : Code) (A : Pt) (g : JFrame) (ig : Instr) (mk : MethodId) (a : Array Value),
    Stand p l e R s m sargs below meth c A.U A.locs A.cells A.slots → g.method = m → g.locals.size = c.maxLocals → decode c.code g.pc = .ok (ig, len) →
    2 * g.monitorRoom + (g.stack.map fun v => v.category).sum ≤ W9 → A.U.methodNamed? y = some mk → Pre A a →
    (∃ (v : Option Value) (B : Pt), Stand p l e R s m sargs below meth c B.U B.locs B.cells B.slots ∧ Post A a v B ∧
      Steps p.tables e below (doInvoke e (A.U.setTop g) [] mk a).1 (B.U.setTop { g with pc := g.pc + len, stack := v.toList ++ g.stack })) ∨
    (∃ (q : Addr) (B : Pt), Stand p l e R s m sargs below meth c B.U B.locs B.cells B.slots ∧ PostX A a q B ∧
      Steps p.tables e below (doInvoke e (A.U.setTop g) [] mk a).1 ((B.U.setTop g).pushFrame (.throwing q)))
section Payer
variable {l : Launch} {R : Room} {p : Program} {e : Env} {below : List Frame} {s : State} {sargs : Array Value} {y : MethodName} {len W9 : Nat}
theorem vx_back {ws : List Cond} {rm : Room} {Pc : Array Value → State → Prop} {Qc : Array Value → State → Outcome → State → Prop} {XC : String → State → State → Prop} {mc ms : Nat} {free : Addr → Prop} {bytes : ByteArray} {maxL : Nat} {ret : Option FieldType}
    (hM : vx_Met l y ws rm Pc Qc XC mc ms free) (hblind : FrameBlind Pc) (hrc : rm.cells = mc) (hrs : rm.slots = ms)
    (hframes : rm.frames + 1 ≤ R.frames) (hlocals : W9 + (maxL + 11) + rm.locals ≤ R.locals)
    (hws : ∀ w ∈ ws, ∀ a' U, s.WarmedH U.vm → w.before a' U = true) (hcode : Cond.code y bytes maxL ret ∈ ws) (hinit : ∀ a' U, s.WarmedH U.vm → (Cond.initialized y.cls).before a' U = true) :
    vx_Back l R p e below s sargs y len W9 (PreOf R mc ms Pc) (PostOf Qc mc ms free) (vx_Post XC mc ms free) := by
  intro m meth c A g ig mk a X hg hsize hdg hW hn hp
  have h1 : (headSpec ws rm).pre.before a A.U = true := atoms_intro fun w hw => hws w hw _ _ X.warmed
  have h2 : (Cond.code y bytes maxL ret).before a A.U = true := hws _ hcode _ _ X.warmed
  have h3 : (Cond.initialized y.cls).before a A.U = true := hinit _ _ X.warmed
  have h4 : A.cells + (headSpec ws rm).room.cells ≤ R.cells := by rw [show (headSpec ws rm).room.cells = mc from hrc]; exact hp.1
  have h5 : A.slots + (headSpec ws rm).room.slots ≤ R.slots := by rw [show (headSpec ws rm).room.slots = ms from hrs]; exact hp.2.1
  have hPc : Pc a (A.U.calling g mk a) := hblind _ _ _ _ hp.2.2
  obtain ⟨U, Ls, c0, s0⟩ := A
  dsimp only [Pt.U, Pt.locs, Pt.cells, Pt.slots] at h1 h2 h3 h4 h5 X hn hPc ⊢
  obtain ⟨methY, cY, hmY, hcY, -, hlY, -, -, -, -⟩ := Cond.code_spec hn h2
  obtain ⟨kY, hkY, -⟩ := className_of_methodNamed hn
  have hinitY : kY.init = .initialized := Cond.initialized_spec (findClass_of_methodNamed hn) hkY h3
  have h : At U g.method c below := by rw [hg]; exact X.here
  have hlocals9 : W9 + (maxL + 11) + (headSpec ws rm).room.locals ≤ R.locals := hlocals
  have happ : (headSpec ws rm).appliesLoose y e.platform (U.calling g mk a) = true :=
    Spec.appliesLoose_calling (g := g) h hdg hn hkY hinitY
      (X.room_calling (g := g) (R' := (headSpec ws rm).room) hsize hmY hcY hframes (by rw [hlY]; omega) h4 h5) h1
  obtain ⟨mid, hmid⟩ := h.above
  have hfr : (U.setTop g).frames = (.java g :: mid) ++ below := by rw [State.frames_setTop' g h.top, hmid]; rfl
  obtain ⟨o, s₂, hsteps, -, hend, hq⟩ := Steps.callFree hM p X.admits X.cas X.clock (acts := []) hfr happ hPc trivial
  have hq' : vx_Q Qc XC mc ms free a (U.calling g mk a) o s₂ := hq
  rw [State.frames_setTop' g h.top] at hend
  obtain ⟨g₀, hg0⟩ := Option.isSome_iff_exists.mp h.top
  obtain ⟨r, hr⟩ := State.topJava?_eq_some.mp hg0
  have hr' : (({ U with heap := s₂.heap, slotsUsed := s₂.slotsUsed } : State).setVm s₂.vm).frames = .java g₀ :: r := hr
  rcases hq' with ⟨hqc, L, hfe, hL⟩ | ⟨q, rfl, E, ce, L, hx, hce, hcv, hcl, hW₂, hsm, hL⟩
  · obtain ⟨⟨v, rfl⟩, hW₂, e2, q2, q3, q4, q5, q6⟩ := id hfe
    have e3 : s₂ = ({ (U.calling g mk a).setFrames s₂.frames with heap := s₂.heap, slotsUsed := s₂.slotsUsed } : State).setVm s₂.vm := by
      have : s₂ = ({ s₂ with vm := (U.calling g mk a).vm } : State).setVm s₂.vm := rfl
      rw [e2] at this
      exact this
    obtain ⟨c₂, i₂, len₂, hc₂, hd₂, hf₂⟩ := hend
    have hW' : U.WarmedH s₂.vm := hW₂
    have hcc : c₂ = c := by
      have h1 : s₂.code? g.method = U.code? g.method := by
        rw [State.code?_eq, State.code?_eq, hW'.alike.method?]
      exact Option.some.inj (hc₂.symm.trans (h1.trans h.code))
    subst hcc
    have hlen : len₂ = len := by rw [hdg] at hd₂; cases hd₂; rfl
    subst hlen
    have hs₂ : s₂ = (({ U with heap := s₂.heap, slotsUsed := s₂.slotsUsed } : State).setVm s₂.vm).setTop { g with pc := g.pc + len₂, stack := v.toList ++ g.stack } := by
      refine e3.trans ?_
      rw [hf₂, State.calling_eq h.top, State.setFrames_setFrames, State.setTop_of_frames _ hr', hr]
      rfl
    have hsame : U.sameButNew ({ U with heap := s₂.heap, slotsUsed := s₂.slotsUsed } : State) L mc ms := by
      refine ⟨?_, q2, q3, q4, q5, q6⟩
      obtain ⟨t, ht, -⟩ := State.frames_cons hr
      show ({ U with heap := s₂.heap, slotsUsed := s₂.slotsUsed } : State) = { U.setFrames U.frames with heap := s₂.heap, slotsUsed := s₂.slotsUsed }
      rw [State.setFrames_self ht]
    subst hg
    refine Or.inl ⟨v, ⟨(({ U with heap := s₂.heap, slotsUsed := s₂.slotsUsed } : State).setVm s₂.vm), Ls ++ L, c0 + mc, s0 + ms⟩,
      ⟨X.admits, X.cas, X.clock, X.frames, X.room, X.hears, X.method, X.code, (X.here.setHeapUsed s₂.heap s₂.slotsUsed).setVm hW'.alike, X.tail, State.WarmedH.trans X.warmed hW', X.limits, X.bytes, X.same.trans (hsame.setVm s.vm)⟩,
      ⟨g, mk, s₂, L, rfl, rfl, hqc, rfl, hL, rfl, rfl⟩, ?_⟩
    show Steps p.tables e below _ ((({ U with heap := s₂.heap, slotsUsed := s₂.slotsUsed } : State).setVm s₂.vm).setTop { g with pc := g.pc + len₂, stack := v.toList ++ g.stack })
    rw [← hs₂]
    exact hsteps
  · obtain ⟨e2, q2, q3, q4, q5, q6⟩ := id hsm
    have e3 : s₂ = ({ (U.calling g mk a).setFrames s₂.frames with heap := s₂.heap, slotsUsed := s₂.slotsUsed } : State).setVm s₂.vm := by
      have : s₂ = ({ s₂ with vm := (U.calling g mk a).vm } : State).setVm s₂.vm := rfl
      rw [e2] at this
      exact this
    have hf₂ : s₂.frames = .throwing q :: .java g :: U.frames.tail := hend
    have hW' : U.WarmedH s₂.vm := hW₂
    have hs₂ : s₂ = ((({ U with heap := s₂.heap, slotsUsed := s₂.slotsUsed } : State).setVm s₂.vm).setTop g).pushFrame (.throwing q) := by
      refine e3.trans ?_
      rw [hf₂, State.calling_eq h.top, State.setFrames_setFrames, State.pushFrame, State.frames_setTop _ hr', State.setTop_of_frames _ hr', State.setFrames_setFrames, hr]
      rfl
    have hsame : U.sameButNew ({ U with heap := s₂.heap, slotsUsed := s₂.slotsUsed } : State) L mc ms := by
      refine ⟨?_, q2, q3, q4, q5, q6⟩
      obtain ⟨t, ht, -⟩ := State.frames_cons hr
      show ({ U with heap := s₂.heap, slotsUsed := s₂.slotsUsed } : State) = { U.setFrames U.frames with heap := s₂.heap, slotsUsed := s₂.slotsUsed }
      rw [State.setFrames_self ht]
    subst hg
    refine Or.inr ⟨q, ⟨(({ U with heap := s₂.heap, slotsUsed := s₂.slotsUsed } : State).setVm s₂.vm), Ls ++ L, c0 + mc, s0 + ms⟩,
      ⟨X.admits, X.cas, X.clock, X.frames, X.room, X.hears, X.method, X.code, (X.here.setHeapUsed s₂.heap s₂.slotsUsed).setVm hW'.alike, X.tail, State.WarmedH.trans X.warmed hW', X.limits, X.bytes, X.same.trans (hsame.setVm s.vm)⟩,
      ⟨g, mk, s₂, L, E, ce, rfl, rfl, hx, hce, hcv, hcl, rfl, hL, rfl, rfl⟩, ?_⟩
    show Steps p.tables e below _ (((({ U with heap := s₂.heap, slotsUsed := s₂.slotsUsed } : State).setVm s₂.vm).setTop g).pushFrame (.throwing q))
    rw [← hs₂]
    exact hsteps
end Payer
section Calls
variable {p : Program} {l : Launch} {e : Env} {R : Room} {s : State} {m : MethodId} {args : Array Value} {below : List Frame} {meth : Method} {c : Code} {T : State} {locs : List Loc} {cells slots : Nat}
theorem vx_callV (X : Stand p l e R s m args below meth c T locs cells slots) (hexec : p.tables.exec = Jvm.exec) {own C : String} {index : Nat} {y : MethodName} {bytes : ByteArray} {maxL : Nat} {ret : Option FieldType}
    (hown : s.vm.findClass own = some m.cls) (hlink : (Cond.methodLink own index y).before args s = true) (hinst : (Cond.instanceMethod y).before args s = true) (hsel : (Cond.selects C y y).before args s = true)
    (hcode : (Cond.code y bytes maxL ret).before args s = true) (hy : y.cls ≠ "java/lang/invoke/MethodHandle" ∧ y.cls ≠ "java/lang/invoke/VarHandle")
    {W9 : Nat} {Pre : Pt → Array Value → Prop} {Post : Pt → Array Value → Option Value → Pt → Prop} {PostX : Pt → Array Value → Addr → Pt → Prop} (hK : vx_Back l R p e below s args y 3 W9 Pre Post PostX)
    {b : Addr} {cellB : Cell} (hcell : T.heap[b]? = some cellB) (hobj : cellB.vm.isStatics = false) (hcls : s.vm.findClass C = some cellB.cls)
    {g : JFrame} (hg : g.method = m) (hsize : g.locals.size = c.maxLocals) {argsL rest : List Value} (hlen : ∀ sig, parseMethodDescriptor y.desc = some sig → argsL.length = sig.parameters.length)
    (hstack : g.stack = argsL.reverse ++ .ref b :: rest) (hW : 2 * g.monitorRoom + (rest.map fun v => v.category).sum ≤ W9) (hdg : decode c.code g.pc = .ok (.invokevirtual index, 3))
    (hpre : ∀ vm₁, s.WarmedH vm₁ → Pre ⟨T.setVm vm₁, locs, cells, slots⟩ (Value.ref b :: argsL).toArray) :
    (∃ (v : Option Value) (vm₁ : Vm) (B : Pt), s.WarmedH vm₁ ∧ Stand p l e R s m args below meth c B.U B.locs B.cells B.slots ∧ Post ⟨T.setVm vm₁, locs, cells, slots⟩ (Value.ref b :: argsL).toArray v B ∧
      ∀ target, Steps p.tables e below (B.U.setTop { g with pc := g.pc + 3, stack := v.toList ++ rest }) target → Steps p.tables e below (T.setTop g) target) ∨
    (∃ (q : Addr) (vm₁ : Vm) (B : Pt), s.WarmedH vm₁ ∧ Stand p l e R s m args below meth c B.U B.locs B.cells B.slots ∧ PostX ⟨T.setVm vm₁, locs, cells, slots⟩ (Value.ref b :: argsL).toArray q B ∧
      Steps p.tables e below (T.setTop g) ((B.U.setTop { g with stack := rest }).pushFrame (.throwing q))) := by
  obtain ⟨mk, methM, hnamed, hmethM, hstM, habM⟩ := Cond.instanceMethod_spec hinst
  obtain ⟨methM', cM, hmethM', -, -, -, -, -, -, hsigM⟩ := Cond.code_spec hnamed hcode
  cases hmethM.symm.trans hmethM'
  obtain ⟨c2, r2, m2, q1, q2, q3, q4, kP, hkP, hkPi⟩ := Cond.selects_spec hsel
  cases hcls.symm.trans q1
  cases (State.methodFound?_of_named hnamed hy).symm.trans q2
  cases hnamed.symm.trans q3
  have hselP : selectMethod e.platform s.vm cellB.cls mk = .method mk := by rw [Launch.admits_selectMethod X.admits]; exact q4
  obtain ⟨vm₁, X₁, hstep₁⟩ := X.invokevirtual hexec hown hlink hnamed hmethM hstM hkP hkPi hy (a := b) (cell := cellB) hcell
    (fun z h => by rw [h] at hobj; cases hobj) hselP hmethM habM hkP hkPi (g := g) hg (argsL := argsL) (rest := rest) (hlen _ hsigM) hstack hdg
  rcases hK m meth c ⟨T.setVm vm₁, locs, cells, slots⟩ { g with stack := rest } (.invokevirtual index) mk (Value.ref b :: argsL).toArray X₁ hg hsize hdg hW (X₁.named hnamed) (hpre vm₁ X₁.warmed) with ⟨v, B, X', hpost, hsteps⟩ | ⟨q, B, X', hpost, hsteps⟩
  · exact Or.inl ⟨v, vm₁, B, X₁.warmed, X', hpost, fun target h => hstep₁ _ fun acts => by rw [doInvoke_state]; exact hsteps.trans h⟩
  · exact Or.inr ⟨q, vm₁, B, X₁.warmed, X', hpost, hstep₁ _ fun acts => by rw [doInvoke_state]; exact hsteps⟩
theorem vx_callS (X : Stand p l e R s m args below meth c T locs cells slots) (hexec : p.tables.exec = Jvm.exec) {own : String} {index : Nat} {y : MethodName} {bytes : ByteArray} {maxL : Nat} {ret : Option FieldType}
    (hown : s.vm.findClass own = some m.cls) (hlink : (Cond.methodLink own index y).before args s = true) (hstat : (Cond.static y).before args s = true) (hinit : (Cond.initialized y.cls).before args s = true)
    (hcode : (Cond.code y bytes maxL ret).before args s = true) (hy : y.cls ≠ "java/lang/invoke/MethodHandle" ∧ y.cls ≠ "java/lang/invoke/VarHandle")
    {W9 : Nat} {Pre : Pt → Array Value → Prop} {Post : Pt → Array Value → Option Value → Pt → Prop} {PostX : Pt → Array Value → Addr → Pt → Prop} (hK : vx_Back l R p e below s args y 3 W9 Pre Post PostX)
    {g : JFrame} (hg : g.method = m) (hsize : g.locals.size = c.maxLocals) {argsL rest : List Value} (hlen : ∀ sig, parseMethodDescriptor y.desc = some sig → argsL.length = sig.parameters.length)
    (hstack : g.stack = argsL.reverse ++ rest) (hW : 2 * g.monitorRoom + (rest.map fun v => v.category).sum ≤ W9) (hdg : decode c.code g.pc = .ok (.invokestatic index, 3))
    (hpre : ∀ vm₁, s.WarmedH vm₁ → Pre ⟨T.setVm vm₁, locs, cells, slots⟩ argsL.toArray) :
    (∃ (v : Option Value) (vm₁ : Vm) (B : Pt), s.WarmedH vm₁ ∧ Stand p l e R s m args below meth c B.U B.locs B.cells B.slots ∧ Post ⟨T.setVm vm₁, locs, cells, slots⟩ argsL.toArray v B ∧
      ∀ target, Steps p.tables e below (B.U.setTop { g with pc := g.pc + 3, stack := v.toList ++ rest }) target → Steps p.tables e below (T.setTop g) target) ∨
    (∃ (q : Addr) (vm₁ : Vm) (B : Pt), s.WarmedH vm₁ ∧ Stand p l e R s m args below meth c B.U B.locs B.cells B.slots ∧ PostX ⟨T.setVm vm₁, locs, cells, slots⟩ argsL.toArray q B ∧
      Steps p.tables e below (T.setTop g) ((B.U.setTop { g with stack := rest }).pushFrame (.throwing q))) := by
  obtain ⟨mk, hnamed⟩ := Cond.code_named hcode
  obtain ⟨methM, cM, hmethM, -, -, -, -, -, -, hsigM⟩ := Cond.code_spec hnamed hcode
  have hstatic : methM.isStatic = true := Cond.static_spec hnamed hmethM hstat
  obtain ⟨kP, hkP, -⟩ := className_of_methodNamed hnamed
  have hinitP : kP.init = .initialized := Cond.initialized_spec (findClass_of_methodNamed hnamed) hkP hinit
  obtain ⟨vm₁, X₁, hstep₁⟩ := X.invokestatic hexec hown hlink hnamed hmethM hstatic hkP hinitP hy (g := g) hg (argsL := argsL) (rest := rest) (hlen _ hsigM) hstack hdg
  rcases hK m meth c ⟨T.setVm vm₁, locs, cells, slots⟩ { g with stack := rest } (.invokestatic index) mk argsL.toArray X₁ hg hsize hdg hW (X₁.named hnamed) (hpre vm₁ X₁.warmed) with ⟨v, B, X', hpost, hsteps⟩ | ⟨q, B, X', hpost, hsteps⟩
  · exact Or.inl ⟨v, vm₁, B, X₁.warmed, X', hpost, fun target h => hstep₁ _ fun acts => by rw [doInvoke_state]; exact hsteps.trans h⟩
  · exact Or.inr ⟨q, vm₁, B, X₁.warmed, X', hpost, hstep₁ _ fun acts => by rw [doInvoke_state]; exact hsteps⟩
end Calls
theorem vx_cls {s : State} {T : State} {vm₁ : Vm} {E : String} {k : ClassId} (hW : s.WarmedH vm₁) (h : (T.setVm vm₁).vm.findClass E = some k) : s.vm.findClass E = some k := by
  have h1 : vm₁.findClass E = some k := h
  rw [hW.alike.findClass] at h1
  exact h1
/-- the method's frame g, with q thrown over it -/
def vx_W (p : Program) (l : Launch) (e : Env) (R : Room) (s : State) (m : MethodId) (args : Array Value) (below : List Frame) (meth : Method) (c : Code) (H : Heap) (locs : List Loc) (cells slots : Nat) (Q : State → Prop) (g : JFrame) (q : Addr) : Prop :=
  ∀ T : State, T.heap = H → Stand p l e R s m args below meth c T locs cells slots → ∃ t, Steps p.tables e below ((T.setTop g).pushFrame (.throwing q)) t ∧ Q t
def vx_Run (p : Program) (l : Launch) (e : Env) (R : Room) (s : State) (m : MethodId) (args : Array Value) (below : List Frame) (meth : Method) (c : Code) (H : Heap) (locs : List Loc) (cells slots mc ms : Nat) (g : JFrame) (rest : List Value) (Qa : State → Outcome → State → Prop) (XC : String → State → State → Prop) (free : Addr → Prop) : Prop :=
  ∀ T : State, T.heap = H → Stand p l e R s m args below meth c T locs cells slots →
    (∃ (v : Option Value) (st₀ t T' : State) (L : List Loc), st₀.heap = H ∧ Stand p l e R s m args below meth c T' (locs ++ L) (cells + mc) (slots + ms) ∧ (∀ q ∈ L, free q.base) ∧ T'.heap = t.heap ∧ T'.vm = t.vm ∧ Qa st₀ (.returned v) t ∧
      Goes p e below T g T' { g with pc := g.pc + 3, stack := v.toList ++ rest }) ∨
    (∃ (q : Addr) (st₀ t T' : State) (L : List Loc) (E : String) (ce : Cell), st₀.heap = H ∧ Stand p l e R s m args below meth c T' (locs ++ L) (cells + mc) (slots + ms) ∧ (∀ z ∈ L, free z.base) ∧ T'.heap = t.heap ∧ T'.vm = t.vm ∧ XC E st₀ t ∧ t.heap[q]? = some ce ∧ ce.vm = .none ∧ s.vm.findClass E = some ce.cls ∧
      Steps p.tables e below (T.setTop g) ((T'.setTop { g with stack := rest }).pushFrame (.throwing q)))
def vx_X {S : Type} (px : S → Prop) (B : String → S → State → Prop) (A : Nat → Prop) : String → State → State → Prop := fun E st t => ∃ u : S, px u ∧ B E u t ∧ va_F A st t
section Runs
variable {p : Program} {l : Launch} {e : Env} {R : Room} {s : State} {m : MethodId} {args : Array Value} {below : List Frame} {meth : Method} {c : Code} {H : Heap} {locs : List Loc} {cells slots : Nat}
variable {y : MethodName} {bytes cc : ByteArray} {maxL nL mc ms n index : Nat} {ret : Option FieldType} {ws : List Cond} {rm : Room} {Pc : Array Value → State → Prop} {Qc : Array Value → State → Outcome → State → Prop} {XC : String → State → State → Prop} {free : Addr → Prop} {Ts : List Cond} {own C : String} {b : Addr} {As rest : List Value} {g : JFrame}
theorem vx_callBack (cb : CallB R s args own index y bytes maxL ret ws rm mc ms n) (hM : vx_Met l y ws rm Pc Qc XC mc ms free) (hbl : FrameBlind Pc) : vx_Back l R p e below s args y 3 8 (PreOf R mc ms Pc) (PostOf Qc mc ms free) (vx_Post XC mc ms free) := by
  obtain ⟨hrc, hrs, hfr, hlo, hws, hcw, -, hini, -⟩ := cb
  exact vx_back (bytes := bytes) (maxL := maxL) (ret := ret) hM hbl hrc hrs hfr hlo hws hcw (fun a' U hW => word_at hW (Or.inl (by first | rfl | simp [Cond.onTables, Cond.keeps, Cond.steady])) hini)
theorem vx_runV (S : CallFix p m c cc nL s args Ts own) (hM : vx_Met l y ws rm Pc Qc XC mc ms free) (cw : CallW R s args own C index y bytes maxL ret ws rm mc ms n) (hp : PreV s H C b Pc As)
    (hg : g.method = m) (hn : As.length = n) (hsize : g.locals.size = nL) (hstack : g.stack = As.reverse ++ .ref b :: rest) (hW : 2 * g.monitorRoom + (rest.map fun v => v.category).sum ≤ 8) (hdg : decode cc g.pc = .ok (.invokevirtual index, 3)) (hf : cells + mc ≤ R.cells ∧ slots + ms ≤ R.slots) :
    vx_Run p l e R s m args below meth c H locs cells slots mc ms g rest (Qc (Value.ref b :: As).toArray) XC free := by
  have hK : vx_Back l R p e below s args y 3 8 (PreOf R mc ms Pc) (PostOf Qc mc ms free) (vx_Post XC mc ms free) := vx_callBack cw.1 hM hp.1
  obtain ⟨⟨-, -, -, -, -, -, hcode, -, hy, hlen, hl⟩, hin, hse⟩ := cw
  obtain ⟨hx, hb, hml, ho, -⟩ := S
  obtain ⟨-, ⟨cellB, hcB, hoB, hclB⟩, hPc⟩ := hp
  intro T hT X
  rcases vx_callV X hx (C := C) (bytes := bytes) (maxL := maxL) (ret := ret) ho hl hin hse hcode hy hK (by rw [hT]; exact hcB) hoB hclB hg (hsize.trans hml.symm) (argsL := As) (rest := rest) (fun sig h => hn.trans (hlen sig h)) hstack hW (by rw [hb]; exact hdg)
    (fun vm₁ hW₁ => ⟨hf.1, hf.2, hPc (T.setVm vm₁) hT hW₁⟩) with ⟨v, vm₁, ⟨U', l2, c2, s2⟩, hW₁, X', ⟨g', mk, t, L, e1, e2, hq, h1, hL, h2, h3⟩, st⟩ | ⟨q, vm₁, ⟨U', l2, c2, s2⟩, hW₁, X', ⟨g', mk, t, L, E, ce, e1, e2, hq, hce, hcv, hcl, h1, hL, h2, h3⟩, st⟩
  · dsimp only [Pt.U, Pt.locs, Pt.cells, Pt.slots] at X' e1 e2 h1 h2 h3 st
    subst h1; subst h2; subst h3
    exact Or.inl ⟨v, (T.setVm vm₁).calling g' mk (Value.ref b :: As).toArray, t, U', L, hT, X', hL, e1, e2, hq, st⟩
  · dsimp only [Pt.U, Pt.locs, Pt.cells, Pt.slots] at X' e1 e2 h1 h2 h3 st hcl
    subst h1; subst h2; subst h3
    exact Or.inr ⟨q, (T.setVm vm₁).calling g' mk (Value.ref b :: As).toArray, t, U', L, E, ce, hT, X', hL, e1, e2, hq, hce, hcv, vx_cls hW₁ hcl, st⟩
theorem vx_runS (S : CallFix p m c cc nL s args Ts own) (hM : vx_Met l y ws rm Pc Qc XC mc ms free) (cw : CallB R s args own index y bytes maxL ret ws rm mc ms n ∧ (Cond.static y).before args s = true) (hp : PreS s H Pc As)
    (hg : g.method = m) (hn : As.length = n) (hsize : g.locals.size = nL) (hstack : g.stack = As.reverse ++ rest) (hW : 2 * g.monitorRoom + (rest.map fun v => v.category).sum ≤ 8) (hdg : decode cc g.pc = .ok (.invokestatic index, 3)) (hf : cells + mc ≤ R.cells ∧ slots + ms ≤ R.slots) :
    vx_Run p l e R s m args below meth c H locs cells slots mc ms g rest (Qc As.toArray) XC free := by
  have hK : vx_Back l R p e below s args y 3 8 (PreOf R mc ms Pc) (PostOf Qc mc ms free) (vx_Post XC mc ms free) := vx_callBack cw.1 hM hp.1
  obtain ⟨⟨-, -, -, -, -, -, hcode, hini, hy, hlen, hl⟩, hstt⟩ := cw
  obtain ⟨hx, hb, hml, ho, -⟩ := S
  intro T hT X
  rcases vx_callS X hx (bytes := bytes) (maxL := maxL) (ret := ret) ho hl hstt hini hcode hy hK hg (hsize.trans hml.symm) (argsL := As) (rest := rest) (fun sig h => hn.trans (hlen sig h)) hstack hW (by rw [hb]; exact hdg)
    (fun vm₁ hW₁ => ⟨hf.1, hf.2, hp.2 (T.setVm vm₁) hT hW₁⟩) with ⟨v, vm₁, ⟨U', l2, c2, s2⟩, hW₁, X', ⟨g', mk, t, L, e1, e2, hq, h1, hL, h2, h3⟩, st⟩ | ⟨q, vm₁, ⟨U', l2, c2, s2⟩, hW₁, X', ⟨g', mk, t, L, E, ce, e1, e2, hq, hce, hcv, hcl, h1, hL, h2, h3⟩, st⟩
  · dsimp only [Pt.U, Pt.locs, Pt.cells, Pt.slots] at X' e1 e2 h1 h2 h3 st
    subst h1; subst h2; subst h3
    exact Or.inl ⟨v, (T.setVm vm₁).calling g' mk As.toArray, t, U', L, hT, X', hL, e1, e2, hq, st⟩
  · dsimp only [Pt.U, Pt.locs, Pt.cells, Pt.slots] at X' e1 e2 h1 h2 h3 st hcl
    subst h1; subst h2; subst h3
    exact Or.inr ⟨q, (T.setVm vm₁).calling g' mk As.toArray, t, U', L, E, ce, hT, X', hL, e1, e2, hq, hce, hcv, vx_cls hW₁ hcl, st⟩
end Runs
section Rows
variable {p : Program} {l : Launch} {e : Env} {R : Room} {s : State} {m : MethodId} {args : Array Value} {below : List Frame} {meth : Method} {c : Code} {H : Heap} {locs : List Loc} {cells slots : Nat} {Q : State → Prop}
variable {mc ms : Nat} {free : Addr → Prop} {A0 A1 : Nat → Prop} {H0 : Heap} {a : Array Value} {pc : Nat} {ls : Array Slot} {st0 rest : List Value}
theorem vx_keep {st₀ t T' : State} {L : List Loc} (h0 : st₀.heap = H) (e1 : T'.heap = t.heap) (hS : va_S A0 H0 H locs) (hA : ∀ q, q < H.size → A1 q → A0 q) (hf : ∀ q, free q → A0 q) (hL : ∀ q ∈ L, free q.base) (hF : va_F A1 st₀ t) :
    H.size ≤ T'.heap.size ∧ (∀ q : Nat, q < H.size → ¬ A1 q → T'.heap[q]? = H[q]?) ∧ va_S A0 H0 T'.heap (locs ++ L) := by
  obtain ⟨hz, hk⟩ := hF
  rw [h0] at hz hk
  exact ⟨by rw [e1]; exact hz, fun q h1 h2 => by rw [e1]; exact hk q h1 h2,
    ⟨Nat.le_trans hS.1 (by rw [e1]; exact hz), fun q h1 h2 => by rw [e1, hk q (Nat.lt_of_lt_of_le h1 hS.1) (fun z => h2 (hA q (Nat.lt_of_lt_of_le h1 hS.1) z))]; exact hS.2.1 q h1 h2, fun q hq => by
      rcases List.mem_append.mp hq with h | h
      · exact hS.2.2 q h
      · exact hf _ (hL q h)⟩⟩
theorem vx_calli {S SX : Type} {post : Int32 → S → Prop} {px : SX → Prop} {B : S → State → Prop} {BX : String → SX → State → Prop} {AX : Nat → Prop} (hr : vx_Run p l e R s m args below meth c H locs cells slots mc ms (F0 m pc ls st0) rest (va_Qi post B A1 a) (vx_X px BX AX) free) (hS : va_S A0 H0 H locs) (hA : ∀ q, q < H.size → A1 q → A0 q) (hf : ∀ q, free q → A0 q) (hAX : ∀ q, q < H.size → AX q → A0 q)
    (kx : ∀ (E : String) (ce : Cell) (q9 : Addr) (u : SX) (t : State) (H1 : Heap) (locs1 : List Loc), t.heap = H1 → s.vm.Alike t.vm → px u → BX E u t → H.size ≤ H1.size → (∀ q : Nat, q < H.size → ¬ AX q → H1[q]? = H[q]?) → va_S A0 H0 H1 locs1 → H1[q9]? = some ce → ce.vm = .none → s.vm.findClass E = some ce.cls → vx_W p l e R s m args below meth c H1 locs1 (cells + mc) (slots + ms) Q (F0 m pc ls rest) q9)
    (kk : ∀ (r : Int32) (u : S) (t : State) (H1 : Heap) (locs1 : List Loc), t.heap = H1 → s.vm.Alike t.vm → post r u → B u t → H.size ≤ H1.size → (∀ q : Nat, q < H.size → ¬ A1 q → H1[q]? = H[q]?) → va_S A0 H0 H1 locs1 → W p l e R s m args below meth c H1 locs1 (cells + mc) (slots + ms) Q (F0 m (pc + 3) ls (.int r :: rest))) : W p l e R s m args below meth c H locs cells slots Q (F0 m pc ls st0) := by
  intro T hT X
  rcases hr T hT X with ⟨v, st₀, t, T', L, h0, X', hL, e1, e2, ⟨⟨r, u, hv, hp, hb⟩, hF⟩, st⟩ | ⟨q, st₀, t, T', L, E, ce, h0, X', hL, e1, e2, ⟨u, hp, hb, hF⟩, hce, hcv, hcl, st⟩
  · cases hv
    obtain ⟨k1, k2, k3⟩ := vx_keep h0 e1 hS hA hf hL hF
    obtain ⟨t2, a1, b1⟩ := kk r u t T'.heap (locs ++ L) e1.symm (by rw [← e2]; exact X'.warmed.alike) hp hb k1 k2 k3 T' rfl X'
    exact ⟨t2, st t2 a1, b1⟩
  · obtain ⟨k1, k2, k3⟩ := vx_keep h0 e1 hS hAX hf hL hF
    obtain ⟨t2, a1, b1⟩ := kx E ce q u t T'.heap (locs ++ L) e1.symm (by rw [← e2]; exact X'.warmed.alike) hp hb k1 k2 k3 (by rw [e1]; exact hce) hcv hcl T' rfl X'
    exact ⟨t2, st.trans a1, b1⟩
theorem vx_calll {S SX : Type} {post : Int64 → S → Prop} {px : SX → Prop} {B : S → State → Prop} {BX : String → SX → State → Prop} {AX : Nat → Prop} (hr : vx_Run p l e R s m args below meth c H locs cells slots mc ms (F0 m pc ls st0) rest (va_Ql post B A1 a) (vx_X px BX AX) free) (hS : va_S A0 H0 H locs) (hA : ∀ q, q < H.size → A1 q → A0 q) (hf : ∀ q, free q → A0 q) (hAX : ∀ q, q < H.size → AX q → A0 q)
    (kx : ∀ (E : String) (ce : Cell) (q9 : Addr) (u : SX) (t : State) (H1 : Heap) (locs1 : List Loc), t.heap = H1 → s.vm.Alike t.vm → px u → BX E u t → H.size ≤ H1.size → (∀ q : Nat, q < H.size → ¬ AX q → H1[q]? = H[q]?) → va_S A0 H0 H1 locs1 → H1[q9]? = some ce → ce.vm = .none → s.vm.findClass E = some ce.cls → vx_W p l e R s m args below meth c H1 locs1 (cells + mc) (slots + ms) Q (F0 m pc ls rest) q9)
    (kk : ∀ (r : Int64) (u : S) (t : State) (H1 : Heap) (locs1 : List Loc), t.heap = H1 → s.vm.Alike t.vm → post r u → B u t → H.size ≤ H1.size → (∀ q : Nat, q < H.size → ¬ A1 q → H1[q]? = H[q]?) → va_S A0 H0 H1 locs1 → W p l e R s m args below meth c H1 locs1 (cells + mc) (slots + ms) Q (F0 m (pc + 3) ls (.long r :: rest))) : W p l e R s m args below meth c H locs cells slots Q (F0 m pc ls st0) := by
  intro T hT X
  rcases hr T hT X with ⟨v, st₀, t, T', L, h0, X', hL, e1, e2, ⟨⟨r, u, hv, hp, hb⟩, hF⟩, st⟩ | ⟨q, st₀, t, T', L, E, ce, h0, X', hL, e1, e2, ⟨u, hp, hb, hF⟩, hce, hcv, hcl, st⟩
  · cases hv
    obtain ⟨k1, k2, k3⟩ := vx_keep h0 e1 hS hA hf hL hF
    obtain ⟨t2, a1, b1⟩ := kk r u t T'.heap (locs ++ L) e1.symm (by rw [← e2]; exact X'.warmed.alike) hp hb k1 k2 k3 T' rfl X'
    exact ⟨t2, st t2 a1, b1⟩
  · obtain ⟨k1, k2, k3⟩ := vx_keep h0 e1 hS hAX hf hL hF
    obtain ⟨t2, a1, b1⟩ := kx E ce q u t T'.heap (locs ++ L) e1.symm (by rw [← e2]; exact X'.warmed.alike) hp hb k1 k2 k3 (by rw [e1]; exact hce) hcv hcl T' rfl X'
    exact ⟨t2, st.trans a1, b1⟩
theorem vx_callf {S SX : Type} {post : UInt32 → S → Prop} {px : SX → Prop} {B : S → State → Prop} {BX : String → SX → State → Prop} {AX : Nat → Prop} (hr : vx_Run p l e R s m args below meth c H locs cells slots mc ms (F0 m pc ls st0) rest (va_Qf post B A1 a) (vx_X px BX AX) free) (hS : va_S A0 H0 H locs) (hA : ∀ q, q < H.size → A1 q → A0 q) (hf : ∀ q, free q → A0 q) (hAX : ∀ q, q < H.size → AX q → A0 q)
    (kx : ∀ (E : String) (ce : Cell) (q9 : Addr) (u : SX) (t : State) (H1 : Heap) (locs1 : List Loc), t.heap = H1 → s.vm.Alike t.vm → px u → BX E u t → H.size ≤ H1.size → (∀ q : Nat, q < H.size → ¬ AX q → H1[q]? = H[q]?) → va_S A0 H0 H1 locs1 → H1[q9]? = some ce → ce.vm = .none → s.vm.findClass E = some ce.cls → vx_W p l e R s m args below meth c H1 locs1 (cells + mc) (slots + ms) Q (F0 m pc ls rest) q9)
    (kk : ∀ (r : UInt32) (u : S) (t : State) (H1 : Heap) (locs1 : List Loc), t.heap = H1 → s.vm.Alike t.vm → post r u → B u t → H.size ≤ H1.size → (∀ q : Nat, q < H.size → ¬ A1 q → H1[q]? = H[q]?) → va_S A0 H0 H1 locs1 → W p l e R s m args below meth c H1 locs1 (cells + mc) (slots + ms) Q (F0 m (pc + 3) ls (.float r :: rest))) : W p l e R s m args below meth c H locs cells slots Q (F0 m pc ls st0) := by
  intro T hT X
  rcases hr T hT X with ⟨v, st₀, t, T', L, h0, X', hL, e1, e2, ⟨⟨r, u, hv, hp, hb⟩, hF⟩, st⟩ | ⟨q, st₀, t, T', L, E, ce, h0, X', hL, e1, e2, ⟨u, hp, hb, hF⟩, hce, hcv, hcl, st⟩
  · cases hv
    obtain ⟨k1, k2, k3⟩ := vx_keep h0 e1 hS hA hf hL hF
    obtain ⟨t2, a1, b1⟩ := kk r u t T'.heap (locs ++ L) e1.symm (by rw [← e2]; exact X'.warmed.alike) hp hb k1 k2 k3 T' rfl X'
    exact ⟨t2, st t2 a1, b1⟩
  · obtain ⟨k1, k2, k3⟩ := vx_keep h0 e1 hS hAX hf hL hF
    obtain ⟨t2, a1, b1⟩ := kx E ce q u t T'.heap (locs ++ L) e1.symm (by rw [← e2]; exact X'.warmed.alike) hp hb k1 k2 k3 (by rw [e1]; exact hce) hcv hcl T' rfl X'
    exact ⟨t2, st.trans a1, b1⟩
theorem vx_calld {S SX : Type} {post : UInt64 → S → Prop} {px : SX → Prop} {B : S → State → Prop} {BX : String → SX → State → Prop} {AX : Nat → Prop} (hr : vx_Run p l e R s m args below meth c H locs cells slots mc ms (F0 m pc ls st0) rest (va_Qd post B A1 a) (vx_X px BX AX) free) (hS : va_S A0 H0 H locs) (hA : ∀ q, q < H.size → A1 q → A0 q) (hf : ∀ q, free q → A0 q) (hAX : ∀ q, q < H.size → AX q → A0 q)
    (kx : ∀ (E : String) (ce : Cell) (q9 : Addr) (u : SX) (t : State) (H1 : Heap) (locs1 : List Loc), t.heap = H1 → s.vm.Alike t.vm → px u → BX E u t → H.size ≤ H1.size → (∀ q : Nat, q < H.size → ¬ AX q → H1[q]? = H[q]?) → va_S A0 H0 H1 locs1 → H1[q9]? = some ce → ce.vm = .none → s.vm.findClass E = some ce.cls → vx_W p l e R s m args below meth c H1 locs1 (cells + mc) (slots + ms) Q (F0 m pc ls rest) q9)
    (kk : ∀ (r : UInt64) (u : S) (t : State) (H1 : Heap) (locs1 : List Loc), t.heap = H1 → s.vm.Alike t.vm → post r u → B u t → H.size ≤ H1.size → (∀ q : Nat, q < H.size → ¬ A1 q → H1[q]? = H[q]?) → va_S A0 H0 H1 locs1 → W p l e R s m args below meth c H1 locs1 (cells + mc) (slots + ms) Q (F0 m (pc + 3) ls (.double r :: rest))) : W p l e R s m args below meth c H locs cells slots Q (F0 m pc ls st0) := by
  intro T hT X
  rcases hr T hT X with ⟨v, st₀, t, T', L, h0, X', hL, e1, e2, ⟨⟨r, u, hv, hp, hb⟩, hF⟩, st⟩ | ⟨q, st₀, t, T', L, E, ce, h0, X', hL, e1, e2, ⟨u, hp, hb, hF⟩, hce, hcv, hcl, st⟩
  · cases hv
    obtain ⟨k1, k2, k3⟩ := vx_keep h0 e1 hS hA hf hL hF
    obtain ⟨t2, a1, b1⟩ := kk r u t T'.heap (locs ++ L) e1.symm (by rw [← e2]; exact X'.warmed.alike) hp hb k1 k2 k3 T' rfl X'
    exact ⟨t2, st t2 a1, b1⟩
  · obtain ⟨k1, k2, k3⟩ := vx_keep h0 e1 hS hAX hf hL hF
    obtain ⟨t2, a1, b1⟩ := kx E ce q u t T'.heap (locs ++ L) e1.symm (by rw [← e2]; exact X'.warmed.alike) hp hb k1 k2 k3 (by rw [e1]; exact hce) hcv hcl T' rfl X'
    exact ⟨t2, st.trans a1, b1⟩
theorem vx_callv {S SX : Type} {post : S → Prop} {px : SX → Prop} {B : S → State → Prop} {BX : String → SX → State → Prop} {AX : Nat → Prop} (hr : vx_Run p l e R s m args below meth c H locs cells slots mc ms (F0 m pc ls st0) rest (va_Qv post B A1 a) (vx_X px BX AX) free) (hS : va_S A0 H0 H locs) (hA : ∀ q, q < H.size → A1 q → A0 q) (hf : ∀ q, free q → A0 q) (hAX : ∀ q, q < H.size → AX q → A0 q)
    (kx : ∀ (E : String) (ce : Cell) (q9 : Addr) (u : SX) (t : State) (H1 : Heap) (locs1 : List Loc), t.heap = H1 → s.vm.Alike t.vm → px u → BX E u t → H.size ≤ H1.size → (∀ q : Nat, q < H.size → ¬ AX q → H1[q]? = H[q]?) → va_S A0 H0 H1 locs1 → H1[q9]? = some ce → ce.vm = .none → s.vm.findClass E = some ce.cls → vx_W p l e R s m args below meth c H1 locs1 (cells + mc) (slots + ms) Q (F0 m pc ls rest) q9)
    (kk : ∀ (u : S) (t : State) (H1 : Heap) (locs1 : List Loc), t.heap = H1 → s.vm.Alike t.vm → post u → B u t → H.size ≤ H1.size → (∀ q : Nat, q < H.size → ¬ A1 q → H1[q]? = H[q]?) → va_S A0 H0 H1 locs1 → W p l e R s m args below meth c H1 locs1 (cells + mc) (slots + ms) Q (F0 m (pc + 3) ls (rest))) : W p l e R s m args below meth c H locs cells slots Q (F0 m pc ls st0) := by
  intro T hT X
  rcases hr T hT X with ⟨v, st₀, t, T', L, h0, X', hL, e1, e2, ⟨⟨u, hv, hp, hb⟩, hF⟩, st⟩ | ⟨q, st₀, t, T', L, E, ce, h0, X', hL, e1, e2, ⟨u, hp, hb, hF⟩, hce, hcv, hcl, st⟩
  · cases hv
    obtain ⟨k1, k2, k3⟩ := vx_keep h0 e1 hS hA hf hL hF
    obtain ⟨t2, a1, b1⟩ := kk u t T'.heap (locs ++ L) e1.symm (by rw [← e2]; exact X'.warmed.alike) hp hb k1 k2 k3 T' rfl X'
    exact ⟨t2, st t2 a1, b1⟩
  · obtain ⟨k1, k2, k3⟩ := vx_keep h0 e1 hS hAX hf hL hF
    obtain ⟨t2, a1, b1⟩ := kx E ce q u t T'.heap (locs ++ L) e1.symm (by rw [← e2]; exact X'.warmed.alike) hp hb k1 k2 k3 (by rw [e1]; exact hce) hcv hcl T' rfl X'
    exact ⟨t2, st.trans a1, b1⟩
/-- caught by the row x of this method's table; the rows ahead don't take it -/
theorem vx_catch {own name : String} {E : String} {ce : Cell} {q : Addr} (hown : s.vm.findClass own = some m.cls) (pre : List ExceptionTableEntry) (x : ExceptionTableEntry) (suf : List ExceptionTableEntry) (hsplit : c.exceptionTable.toList = pre ++ x :: suf)
    (hpass : ∀ z ∈ pre, covers z pc = false ∨ (z.catchType ≠ 0 ∧ ∃ nm : String, (Cond.classLink own z.catchType nm).before args s = true ∧ va_Nc E nm s)) (hx : covers x pc = true) (h0 : x.catchType ≠ 0)
    (hlink : (Cond.classLink own x.catchType name).before args s = true) (hcast : (Cond.castable E name).before args s = true) (hcell : H[q]? = some ce) (hv : ce.vm = .none) (hcl : s.vm.findClass E = some ce.cls)
    (kk : W p l e R s m args below meth c H locs cells slots Q (F0 m x.handlerPc ls [.ref q])) : vx_W p l e R s m args below meth c H locs cells slots Q (F0 m pc ls rest) q := by
  intro T hT X
  have hpl : e.platform.magicAccessors = ({} : Platform).magicAccessors := by rw [X.admits.platform]
  obtain ⟨c3, c4, hc3, hc4, hasg⟩ := Cond.castable_spec hcast
  cases Option.some.inj (hc3.symm.trans hcl)
  obtain ⟨c5, hc5, hcl5⟩ := Cond.classLink_spec hown hlink e.platform hpl
  cases Option.some.inj (hc4.symm.trans hc5)
  obtain ⟨vm', X', st⟩ := X.thenCaughtThrough q (g := F0 m pc ls rest) rfl (Steps.refl _) (by rw [hT]; exact hcell) (by rw [hv]; rfl) (by obtain ⟨k9, h9, -⟩ := Vm.findClass_spec hcl; exact ⟨k9, h9⟩) pre x suf hsplit
    (fun z hz => by
      rcases hpass z hz with h | ⟨hz0, nm, hl1, hn1⟩
      · exact Or.inl h
      · obtain ⟨c6, hc6, hcl6⟩ := Cond.classLink_spec hown hl1 e.platform hpl
        obtain ⟨a8, b8, h1, h2, h3⟩ := hn1
        cases Option.some.inj (h1.symm.trans hcl)
        cases Option.some.inj (h2.symm.trans hc6)
        exact Or.inr ⟨hz0, _, hcl6, h3⟩) hx (Or.inr ⟨h0, c4, hcl5, hasg⟩)
  obtain ⟨t, a1, b1⟩ := kk (T.setVm vm') hT X'
  exact ⟨t, st.trans a1, b1⟩
end Rows
section Ends
variable {p : Program} {l : Launch} {e : Env} {R : Room} {s : State} {m : MethodId} {args : Array Value} {below : List Frame} {meth : Method} {c : Code} {H : Heap} {locs : List Loc} {cells slots : Nat} {Q : State → Prop}
variable {mc ms : Nat} {free : Addr → Prop} {A0 A1 : Nat → Prop} {H0 : Heap} {a : Array Value} {ls : Array Slot} {st0 rest : List Value}
variable {Qc : Array Value → State → Outcome → State → Prop} {XC : String → State → State → Prop}
/-- what a body that may throw owes at its end -/
def vx_MQ (below : List Frame) (Qc : Array Value → State → Outcome → State → Prop) (XC : String → State → State → Prop) (a : Array Value) (s : State) (mc ms : Nat) (free : Addr → Prop) : State → Prop := fun t =>
  ∃ o, t.status = .running ∧ Ended t below o ∧ vx_Q Qc XC mc ms free a s o t
theorem vx_ret {g : JFrame} {mc ms : Nat} (k : W p l e R s m args below meth c H locs cells slots (MQ below Qc args s mc ms free) g) : W p l e R s m args below meth c H locs cells slots (vx_MQ below Qc XC args s mc ms free) g := by
  intro T hT X
  obtain ⟨t, a1, o, b1, b2, b3, b4⟩ := k T hT X
  exact ⟨t, a1, o, b1, b2, Or.inl ⟨b3, b4⟩⟩
/-- not caught here: it goes on to the caller -/
theorem vx_widen {g : JFrame} {q : Addr} {k n : Nat} (h1 : cells ≤ k) (h2 : slots ≤ n) (kk : vx_W p l e R s m args below meth c H locs k n Q g q) : vx_W p l e R s m args below meth c H locs cells slots Q g q := fun T hT X => kk T hT (stand_widen X h1 h2)
theorem vx_out {pc : Nat} {E : String} {ce : Cell} {q : Addr} {mc ms : Nat} (hout : ∀ x ∈ c.exceptionTable.toList, covers x pc = false) (hlocks : meth.locks = false) (hcell : H[q]? = some ce) (hv : ce.vm = .none) (hcl : s.vm.findClass E = some ce.cls)
    (hx : ∀ t : State, t.heap = H → s.vm.Alike t.vm → XC E s t) (hf : ∀ z ∈ locs, free z.base) (hc : cells ≤ mc) (hs : slots ≤ ms) :
    vx_W p l e R s m args below meth c H locs cells slots (vx_MQ below Qc XC args s mc ms free) (F0 m pc ls rest) q := by
  intro T hT X
  obtain ⟨st1, hrun, hend, hW, hsm⟩ := X.leaveThrown q (g := F0 m pc ls rest) rfl rfl rfl hout hlocks
  have hcell9 : (T.setFrames (.throwing q :: below)).heap[q]? = some ce := by
    show T.heap[q]? = some ce
    rw [hT]; exact hcell
  exact ⟨_, st1, .threw q, hrun, hend, Or.inr ⟨q, rfl, E, ce, locs, hx _ hT hW.alike, hcell9, hv, hcl, hW, hsm.mono hc hs, hf⟩⟩
theorem vx_frame {U : State} {k n : Nat} (h : s.sameButNew ({ U with vm := s.vm } : State) locs k n) : s.heap.size ≤ U.heap.size ∧ ∀ q : Nat, q < s.heap.size → (∀ z ∈ locs, z.base ≠ q) → U.heap[q]? = s.heap[q]? := by
  obtain ⟨-, h2, -, -, -, h6⟩ := h
  refine ⟨h2, fun q hq hz => ?_⟩
  obtain ⟨c9, e1, e2, e3, e4⟩ := h6 q _ (Array.getElem?_eq_getElem hq)
  have hs : c9.slots = (s.heap[q]).slots := Array.ext_getElem? fun i => e4 i fun hm => hz _ hm rfl
  have h9 : c9 = s.heap[q] := by
    rw [hs] at e2
    exact e2
  have e5 : U.heap[q]? = some c9 := e1
  rw [e5, h9, Array.getElem?_eq_getElem hq]
/-- the words of a throw but the four that speak of the heap -/
def vx_no (w : Cond) : Bool := decide (w ≠ .isRef (.static Bundle.tN "UNASSIGNED_STACK" Bundle.steD)) && decide (w ≠ .isRef (.static Bundle.tN "SUPPRESSED_SENTINEL" Bundle.listD)) && decide (w ≠ .laysStatic Bundle.tN "UNASSIGNED_STACK" Bundle.steD) && decide (w ≠ .laysStatic Bundle.tN "SUPPRESSED_SENTINEL" Bundle.listD)
def vx_at0 (own : String) (ic : Nat) (X : String) (names : List String) : List Cond := (Bundle.ownAtoms0 own ic X names).filter vx_no
def vx_atS (own : String) (ic : Nat) (X : String) (names : List String) : List Cond := (Bundle.ownAtoms own ic X names).filter vx_no
/-- a word that the tables alone decide, or a good one -/
def vx_ot (w : Cond) : Bool := w.onTables || goodWord w
theorem vx_ot_at {args a' : Array Value} {s U : State} {w : Cond} (hW : s.WarmedH U.vm) (hvm : s.vm = U.vm) (hg : vx_ot w = true) (h : w.before args s = true) : w.before a' U = true := by
  simp only [vx_ot, Bool.or_eq_true] at hg
  rcases hg with hg | hg
  · exact va_tabs hg hvm h
  · exact word_at hW (good_of_word hg) h
/-- a list's words: the good ones out of the method's own list, the others by premises of their own -/
theorem vx_hat {args : Array Value} {s : State} {L B : List Cond} (h1 : ∀ w ∈ L.filter goodWord, w.before args s = true) (h2 : ∀ w ∈ L.filter (fun w => !goodWord w), w ∈ B) (h3 : ∀ w ∈ B, w.before args s = true) : ∀ w ∈ L, w.before args s = true := by
  intro w hw
  by_cases g : goodWord w = true
  · exact h1 w (List.mem_filter.mpr ⟨hw, g⟩)
  · refine h3 w (h2 w (List.mem_filter.mpr ⟨hw, ?_⟩))
    show (!goodWord w) = true
    cases hgw : goodWord w
    · rfl
    · exact absurd hgw g
theorem vx_c {args : Array Value} {s : State} {w : Cond} {B : List Cond} (h : w.before args s = true) (t : ∀ w ∈ B, w.before args s = true) : ∀ w' ∈ w :: B, w'.before args s = true := fun w' h' => (List.mem_cons.mp h').elim (fun e => by rw [e]; exact h) (t w')
theorem vx_n {args : Array Value} {s : State} : ∀ w ∈ ([] : List Cond), w.before args s = true := fun _ h => nomatch h
theorem vx_own {args : Array Value} {s : State} {L : List Cond} (h1 : ∀ w ∈ L.filter vx_no, w.before args s = true)
    (hU : (Cond.isRef (.static Bundle.tN "UNASSIGNED_STACK" Bundle.steD)).before args s = true) (hN : (Cond.isRef (.static Bundle.tN "SUPPRESSED_SENTINEL" Bundle.listD)).before args s = true)
    (lU : (Cond.laysStatic Bundle.tN "UNASSIGNED_STACK" Bundle.steD).before args s = true) (lN : (Cond.laysStatic Bundle.tN "SUPPRESSED_SENTINEL" Bundle.listD).before args s = true) : ∀ w ∈ L, w.before args s = true := by
  intro w hw
  by_cases e1 : w = .isRef (.static Bundle.tN "UNASSIGNED_STACK" Bundle.steD)
  · rw [e1]; exact hU
  · by_cases e2 : w = .isRef (.static Bundle.tN "SUPPRESSED_SENTINEL" Bundle.listD)
    · rw [e2]; exact hN
    · by_cases e3 : w = .laysStatic Bundle.tN "UNASSIGNED_STACK" Bundle.steD
      · rw [e3]; exact lU
      · by_cases e4 : w = .laysStatic Bundle.tN "SUPPRESSED_SENTINEL" Bundle.listD
        · rw [e4]; exact lN
        · exact h1 w (List.mem_filter.mpr ⟨hw, by unfold vx_no; rw [decide_eq_true e1, decide_eq_true e2, decide_eq_true e3, decide_eq_true e4]; rfl⟩)
/-- where a static field lies, its class's statics cell in H -/
def vx_L (C n d : String) (A : Nat → Prop) (U : State) (H : Heap) : Prop := ∃ (c : ClassId) (k : Class) (i : Nat) (f : Field) (a : Nat) (cell : Cell), U.vm.findClass C = some c ∧ U.fieldFound? C n d = some (c, k, i, f) ∧ f.isStatic = true ∧ k.statics = some a ∧ H[a]? = some cell ∧ cell.vm.isStatics = true ∧ cell.cls = c ∧ f.slot < cell.slots.size ∧ k.staticTypes[f.slot]? = some f.type ∧ ¬ A a
theorem vx_L.moved {C n d : String} {A : Nat → Prop} {u U : State} {H : Heap} (hvm : u.vm.Alike U.vm) (h : vx_L C n d A u H) : vx_L C n d A U H := by
  obtain ⟨c, k, i, f, a, cell, h1, h2, h3, h4, h5, h6, h7, h8, h9, h10⟩ := h
  obtain ⟨k', hi', he⟩ := State.fieldFound?_setVm hvm h2
  exact ⟨c, k', i, f, a, cell, by rw [hvm.findClass]; exact h1, hi', h3, by rw [he]; exact h4, h5, h6, h7, h8, by rw [he]; exact h9, h10⟩
theorem vx_L.kept {C n d : String} {A : Nat → Prop} {U : State} {H H1 : Heap} (h : vx_L C n d A U H) (hq : ∀ a : Nat, a < H.size → ¬ A a → H1[a]? = H[a]?) : vx_L C n d A U H1 := by
  obtain ⟨c, k, i, f, a, cell, h1, h2, h3, h4, h5, h6, h7, h8, h9, h10⟩ := h
  exact ⟨c, k, i, f, a, cell, h1, h2, h3, h4, by rw [hq a (Array.getElem?_eq_some_iff.mp h5).1 h10]; exact h5, h6, h7, h8, h9, h10⟩
theorem vx_L.narrow {C n d : String} {A B : Nat → Prop} {U : State} {H : Heap} (h : vx_L C n d A U H) (hAB : ∀ q, B q → A q) : vx_L C n d B U H := by
  obtain ⟨c, k, i, f, a, cell, h1, h2, h3, h4, h5, h6, h7, h8, h9, h10⟩ := h
  exact ⟨c, k, i, f, a, cell, h1, h2, h3, h4, h5, h6, h7, h8, h9, fun z => h10 (hAB _ z)⟩
theorem vx_L.word {C n d : String} {A : Nat → Prop} {s : State} {args : Array Value} (h : vx_L C n d A s s.heap) : (Cond.laysStatic C n d).before args s = true := by
  obtain ⟨c, k, i, f, a, cell, h1, h2, h3, h4, h5, h6, h7, h8, h9, -⟩ := h
  show (Cond.laysStatic C n d).holds args s none s [] = true
  exact Cond.laysStatic_of h1 h2 h3 h4 h5 h6 h7 h8 h9
/-- .. and what it holds: null or some reference -/
def vx_Zq (C n d : String) (A : Nat → Prop) (U : State) (H : Heap) : Prop := va_Zq C n d A U H ∧ vx_L C n d A U H
theorem vx_Zq.moved {C n d : String} {A : Nat → Prop} {u U : State} {H : Heap} (hvm : u.vm.Alike U.vm) (h : vx_Zq C n d A u H) : vx_Zq C n d A U H := ⟨va_Zq.moved hvm h.1, vx_L.moved hvm h.2⟩
theorem vx_Zq.kept {C n d : String} {A : Nat → Prop} {U : State} {H H1 : Heap} (h : vx_Zq C n d A U H) (hq : ∀ a : Nat, a < H.size → ¬ A a → H1[a]? = H[a]?) : vx_Zq C n d A U H1 := ⟨va_Zq.kept h.1 hq, vx_L.kept h.2 hq⟩
theorem vx_Zq.narrow {C n d : String} {A B : Nat → Prop} {U : State} {H : Heap} (h : vx_Zq C n d A U H) (hAB : ∀ q, B q → A q) : vx_Zq C n d B U H := ⟨va_Zq.narrow h.1 hAB, vx_L.narrow h.2 hAB⟩
theorem vx_Zqof {args : Array Value} {s : State} {C n d : String} {A : Nat → Prop} (hl : (Cond.laysStatic C n d).before args s = true) (hini : (Cond.initialized C).before args s = true) (h : (Cond.isRef (.static C n d)).before args s = true) (hA : ∀ a : Nat, a < s.heap.size → ¬ A a) : vx_Zq C n d A s s.heap := by
  refine ⟨va_Zqof hl hini h hA, ?_⟩
  obtain ⟨c, k, i, f, a, cell, h1, h2, h3, h4, h5, h6, h7, h8, h9⟩ := Cond.laysStatic_spec hl
  exact ⟨c, k, i, f, a, cell, h1, h2, h3, h4, h5, h6, h7, h8, h9, hA a (Array.getElem?_eq_some_iff.mp h5).1⟩
theorem vx_isRef {C n d : String} {v : Value} {A : Nat → Prop} {s : State} {args : Array Value} (h : va_Z C n d v A s s.heap) (hv : v.isRef = true) : (Cond.isRef (.static C n d)).before args s = true := by
  obtain ⟨cf, kf, fi, f, a, cell, h1, h2, h3, h4, h5, h6, h7, -⟩ := h
  have he : (Term.static C n d).eval args s none [] s = some v := by
    simp [Term.eval, State.fieldNamed?, h1, h2, h4, h5, h6, h7]
  simp only [Cond.before, Cond.holds, Cond.value, he]
  cases v <;> simp_all [Value.isRef]
theorem vx_isRefq {C n d : String} {A : Nat → Prop} {s : State} {args : Array Value} (h : va_Zq C n d A s s.heap) : (Cond.isRef (.static C n d)).before args s = true := by
  rcases h with h | ⟨t, h⟩
  · exact vx_isRef h rfl
  · exact vx_isRef h rfl
/-- the same frame, seen from here: as if the method were called anew in this heap -/
theorem vx_rebase {T : State} (X : Stand p l e R s m args below meth c T locs cells slots) {R' : Room} (hf : R'.frames ≤ R.frames) (hl : R'.locals ≤ R.locals) (hc : cells + R'.cells ≤ R.cells) (hs : slots + R'.slots ≤ R.slots) :
    Stand p l e R' ((T.setVm s.vm).setFrames (.invoking m args :: below)) m args below meth c T [] 0 0 := by
  have htop : (T.setVm s.vm).topJava?.isSome := X.here.top
  have hF : ((T.setVm s.vm).setFrames (.invoking m args :: below)).frames = .invoking m args :: below := State.frames_setFrames _ (State.cur_lt_of_top htop)
  obtain ⟨g₀, hg0⟩ := Option.isSome_iff_exists.mp htop
  obtain ⟨r, hr⟩ := State.topJava?_eq_some.mp hg0
  have hl9 : e.platform.stackLimits (T.setVm s.vm).me = e.platform.stackLimits s.me := X.limits
  have hb9 : (T.setVm s.vm).me.stackBytes = s.me.stackBytes := X.bytes
  refine ⟨X.admits, X.cas, X.clock, hF, ?_, X.hears, X.method, X.code, X.here, X.tail, X.warmed, ?_, ?_, ?_⟩
  · have h := X.room
    have hU : ((T.setVm s.vm).setFrames (.invoking m args :: below)).localsInUse = s.localsInUse := by
      rw [State.localsInUse_invoking hF (meth := meth) (c := c) X.method X.code, State.localsInUse_invoking X.frames X.method X.code]
    simp only [State.hasRoom, Bool.and_eq_true, decide_eq_true_eq] at h ⊢
    obtain ⟨⟨⟨⟨h1, h2, h3, h4, h5, h6⟩, h7⟩, h8⟩, h9⟩ := h
    rw [X.frames, List.length_cons] at h2 h3
    have q1 := X.heapSize
    have q2 := X.used
    simp only [hF, hU, List.length_cons, State.stackLimits_setFrames, State.stackBytes_setFrames, hl9, hb9]
    refine ⟨⟨⟨⟨by omega, by omega, by omega, by omega, by omega, h6⟩, ?_⟩, ?_⟩, X.book⟩
    · show T.heap.size + R'.cells ≤ e.platform.maxCells
      omega
    · show T.slotsUsed + R'.slots ≤ e.platform.maxSlots
      omega
  · rw [State.stackLimits_setFrames]; rfl
  · rw [State.stackBytes_setFrames]; rfl
  · refine ⟨?_, Nat.le_refl _, Nat.le_refl _, ?_, ?_, fun a c9 h9 => ⟨c9, h9, rfl, rfl, fun _ _ => rfl⟩⟩
    · obtain ⟨t, ht, -⟩ := State.frames_cons hr
      show T.setVm s.vm = { ((T.setVm s.vm).setFrames (.invoking m args :: below)).setFrames (T.setVm s.vm).frames with heap := T.heap, slotsUsed := T.slotsUsed }
      rw [State.setFrames_setFrames, State.setFrames_self ht]
      rfl
    · show T.slotsUsed = T.slotsUsed + ((T.heap.toList.drop T.heap.size).map (·.slots.size)).sum
      rw [List.drop_eq_nil_of_le (Nat.le_of_eq Array.length_toList)]
      rfl
    · show ((T.heap.toList.drop T.heap.size).map (·.slots.size)).sum ≤ 0
      rw [List.drop_eq_nil_of_le (Nat.le_of_eq Array.length_toList)]
      exact Nat.le_refl _
/-- 'throw new E()': new; dup; invokespecial; athrow -/
theorem vx_throw0 {cc : ByteArray} {pc : Nat} (hexec : p.tables.exec = Jvm.exec) (hb : c.code = cc) (hl : l.stackTraces = false) {own cls : String} {names : List String} {ik ic mc ms : Nat} {A : Nat → Prop}
    (hown : s.vm.findClass own = some m.cls) (hcls : Bundle.fit cls = true) (hnames : ∀ n ∈ names, Bundle.fit n = true)
    (hk : (Cond.classLink own ik cls).before args s = true) (hini : (Cond.initialized cls).before args s = true) (hat : ∀ w ∈ vx_at0 own ic cls names, w.before args s = true)
    (hgood : ∀ w ∈ Cond.classLink own ik cls :: Cond.initialized cls :: vx_at0 own ic cls names, vx_ot w = true)
    (hU : vx_Zq Bundle.tN "UNASSIGNED_STACK" Bundle.steD A s s.heap) (hN : vx_Zq Bundle.tN "SUPPRESSED_SENTINEL" Bundle.listD A s s.heap) (hS : va_S A s.heap H locs) (hsize : ls.size = c.maxLocals)
    (d0 : decode cc pc = .ok (.new ik, 3)) (d3 : decode cc (pc + 3) = .ok (.dup, 1)) (d4 : decode cc (pc + 4) = .ok (.invokespecial ic, 3)) (d7 : decode cc (pc + 7) = .ok (.athrow, 1))
    (hout : ∀ x ∈ c.exceptionTable.toList, covers x (pc + 7) = false)
    (hRframes : names.length + 3 < R.frames) (hRlocals : (rest.map fun v => v.category).sum + (13 * (names.length + 1) + 42) ≤ R.locals) (hRcells : cells + 1 ≤ R.cells) (hRslots : slots + 6 ≤ R.slots) (hlocks : meth.locks = false)
    (hx : ∀ t : State, s.vm.Alike t.vm → H.size ≤ t.heap.size → (∀ q : Nat, q < H.size → t.heap[q]? = H[q]?) → XC cls s t)
    (hf : ∀ z ∈ locs, free z.base) (hc : cells + 1 ≤ mc) (hs : slots + 6 ≤ ms) :
    W p l e R s m args below meth c H locs cells slots (vx_MQ below Qc XC args s mc ms free) (F0 m pc ls rest) := by
  intro T hT X
  have htr : e.platform.stackTraces = false := (show e.platform.stackTraces = l.stackTraces by rw [X.admits.platform]).trans hl
  have Y := vx_rebase X (R' := { frames := R.frames, locals := R.locals, cells := 1, slots := 6 }) (Nat.le_refl _) (Nat.le_refl _) hRcells hRslots
  obtain ⟨s', hA⟩ : ∃ z, z = (T.setVm s.vm).setFrames (.invoking m args :: below) := ⟨_, rfl⟩
  rw [← hA] at Y
  have hvm : s'.vm = s.vm := by rw [hA]; rfl
  have hhp : s'.heap = H := by rw [hA]; exact hT
  have hW0 : s.WarmedH s'.vm := by rw [hvm]; exact State.WarmedH.refl s
  have hat' : ∀ w ∈ vx_at0 own ic cls names, w.before args s' = true := fun w hw => vx_ot_at hW0 hvm.symm (hgood w (List.mem_cons_of_mem _ (List.mem_cons_of_mem _ hw))) (hat w hw)
  have hk' : (Cond.classLink own ik cls).before args s' = true := vx_ot_at hW0 hvm.symm (hgood _ List.mem_cons_self) hk
  have hini' : (Cond.initialized cls).before args s' = true := vx_ot_at hW0 hvm.symm (hgood _ (List.mem_cons_of_mem _ List.mem_cons_self)) hini
  have hU' : vx_Zq Bundle.tN "UNASSIGNED_STACK" Bundle.steD A s' s'.heap := by rw [hhp]; exact vx_Zq.moved hW0.alike (hU.kept hS.2.1)
  have hN' : vx_Zq Bundle.tN "SUPPRESSED_SENTINEL" Bundle.listD A s' s'.heap := by rw [hhp]; exact vx_Zq.moved hW0.alike (hN.kept hS.2.1)
  have h : ∀ w ∈ Bundle.ownAtoms0 own ic cls names, w.before args s' = true := vx_own hat' (vx_isRefq hU'.1) (vx_isRefq hN'.1) hU'.2.word hN'.2.word
  have hown' : s'.vm.findClass own = some m.cls := by rw [hvm]; exact hown
  have hins : (Cond.instantiable cls 6).before args s' = true := h _ (by simp [Bundle.ownAtoms0])
  obtain ⟨vm₁, cX, kX, hfX, hkX, -, -, X₁, st1⟩ := Y.newCold hexec (own := own) (C := cls) (index := ik) (n := 6) hown' hk' hins hini'
    (g := F0 m pc ls rest) rfl (by rw [hb]; exact d0) (Nat.le_refl _) (Nat.le_refl _)
  generalize hT1 : (T.setVm vm₁).pushCell { cls := cX, slots := kX.instanceTypes.map defaultValue, vm := .none } = T1 at X₁ st1
  have hcat : (Value.ref T.heap.size).category = 1 := rfl
  have hcellA : T1.heap[T.heap.size]? = some (freshCell cX kX) := by rw [← hT1]; exact State.heap_pushCell_size _ _
  have d3' : decode c.code (pc + 3) = .ok (.dup, 1) := by rw [hb]; exact d3
  obtain ⟨U, hsteps, hrun, hend, hW, hsame, ce, hce, hO⟩ := X₁.ctorThrow0 hexec htr (own := own) (cls := cls) (names := names) (ic := ic) hown' hcls hnames h (fun x hx => nomatch hx) hfX hkX hcellA (by rw [hhp, hT]; exact Nat.le_refl _)
    (g := { method := m, pc := pc + 4, locals := ls, stack := .ref T.heap.size :: .ref T.heap.size :: rest, locked := none }) rfl hsize rfl rfl (rest := rest) rfl
    (by rw [hb]; exact d4) (by rw [hb]; exact d7) hout hRframes (by simp only [List.map_cons, List.sum_cons, hcat]; omega) hlocks
  obtain ⟨f1, f2⟩ := vx_frame hsame
  rw [hhp] at f1 f2
  have hWs : s.WarmedH U.vm := State.WarmedH.trans hW0 hW
  have hcl : s.vm.findClass cls = some ce.cls := by
    have h9 := hO.cls
    rw [hvm] at h9
    exact h9
  have hall : s.sameButNew ({ U with vm := s.vm } : State) locs mc ms := by
    subst hA
    obtain ⟨e1, e2⟩ := hsame
    rw [State.setFrames_setFrames] at e1
    have h2 : (T.setVm s.vm).sameButNew ({ U with vm := s.vm } : State) [] (0 + 1) (0 + 6) := ⟨e1, e2⟩
    have h3 := X.same.trans h2
    rw [List.append_nil] at h3
    exact h3.mono hc hs
  refine ⟨U, ?_, .threw T.heap.size, hrun, hend, Or.inr ⟨T.heap.size, rfl, cls, ce, locs, hx U hWs.alike f1 (fun q hq => f2 q hq (fun z hz => nomatch hz)), hce, hO.vm, hcl, hWs, hall, hf⟩⟩
  refine st1 _ ?_
  show Steps p.tables e below (T1.setTop { method := m, pc := pc + 3, locals := ls, stack := .ref T.heap.size :: rest, locked := none }) _
  jvm_step X₁.here [X₁.here.top, hexec, d3', Value.category]
  exact hsteps
/-- 'throw new E("text")': new; dup; ldc; invokespecial; athrow -/
theorem vx_throwS {cc : ByteArray} {pc : Nat} (hexec : p.tables.exec = Jvm.exec) (hb : c.code = cc) (hl : l.stackTraces = false) {own cls text : String} {names : List String} {ik is ic mc ms sa : Nat} {A : Nat → Prop}
    (hown : s.vm.findClass own = some m.cls) (hcls : Bundle.fit cls = true) (hnames : ∀ n ∈ names, Bundle.fit n = true)
    (hk : (Cond.classLink own ik cls).before args s = true) (hini : (Cond.initialized cls).before args s = true) (hstr : vk_R own is text sa s) (hat : ∀ w ∈ vx_atS own ic cls names, w.before args s = true)
    (hgood : ∀ w ∈ Cond.classLink own ik cls :: Cond.initialized cls :: vx_atS own ic cls names, vx_ot w = true)
    (hU : vx_Zq Bundle.tN "UNASSIGNED_STACK" Bundle.steD A s s.heap) (hN : vx_Zq Bundle.tN "SUPPRESSED_SENTINEL" Bundle.listD A s s.heap) (hS : va_S A s.heap H locs) (hsize : ls.size = c.maxLocals)
    (d0 : decode cc pc = .ok (.new ik, 3)) (d3 : decode cc (pc + 3) = .ok (.dup, 1)) (d4 : decode cc (pc + 4) = .ok (.ldc is, 2)) (d6 : decode cc (pc + 6) = .ok (.invokespecial ic, 3)) (d9 : decode cc (pc + 9) = .ok (.athrow, 1))
    (hout : ∀ x ∈ c.exceptionTable.toList, covers x (pc + 9) = false)
    (hRframes : names.length + 3 < R.frames) (hRlocals : (rest.map fun v => v.category).sum + (13 * (names.length + 1) + 43) ≤ R.locals) (hRcells : cells + 1 ≤ R.cells) (hRslots : slots + 6 ≤ R.slots) (hlocks : meth.locks = false)
    (hx : ∀ t : State, s.vm.Alike t.vm → H.size ≤ t.heap.size → (∀ q : Nat, q < H.size → t.heap[q]? = H[q]?) → XC cls s t)
    (hf : ∀ z ∈ locs, free z.base) (hc : cells + 1 ≤ mc) (hs : slots + 6 ≤ ms) :
    W p l e R s m args below meth c H locs cells slots (vx_MQ below Qc XC args s mc ms free) (F0 m pc ls rest) := by
  intro T hT X
  have htr : e.platform.stackTraces = false := (show e.platform.stackTraces = l.stackTraces by rw [X.admits.platform]).trans hl
  have Y := vx_rebase X (R' := { frames := R.frames, locals := R.locals, cells := 1, slots := 6 }) (Nat.le_refl _) (Nat.le_refl _) hRcells hRslots
  obtain ⟨s', hA⟩ : ∃ z, z = (T.setVm s.vm).setFrames (.invoking m args :: below) := ⟨_, rfl⟩
  rw [← hA] at Y
  have hvm : s'.vm = s.vm := by rw [hA]; rfl
  have hhp : s'.heap = H := by rw [hA]; exact hT
  have hW0 : s.WarmedH s'.vm := by rw [hvm]; exact State.WarmedH.refl s
  have hat' : ∀ w ∈ vx_atS own ic cls names, w.before args s' = true := fun w hw => vx_ot_at hW0 hvm.symm (hgood w (List.mem_cons_of_mem _ (List.mem_cons_of_mem _ hw))) (hat w hw)
  have hk' : (Cond.classLink own ik cls).before args s' = true := vx_ot_at hW0 hvm.symm (hgood _ List.mem_cons_self) hk
  have hini' : (Cond.initialized cls).before args s' = true := vx_ot_at hW0 hvm.symm (hgood _ (List.mem_cons_of_mem _ List.mem_cons_self)) hini
  have hU' : vx_Zq Bundle.tN "UNASSIGNED_STACK" Bundle.steD A s' s'.heap := by rw [hhp]; exact vx_Zq.moved hW0.alike (hU.kept hS.2.1)
  have hN' : vx_Zq Bundle.tN "SUPPRESSED_SENTINEL" Bundle.listD A s' s'.heap := by rw [hhp]; exact vx_Zq.moved hW0.alike (hN.kept hS.2.1)
  have h : ∀ w ∈ Bundle.ownAtoms own ic cls names, w.before args s' = true := vx_own hat' (vx_isRefq hU'.1) (vx_isRefq hN'.1) hU'.2.word hN'.2.word
  have hown' : s'.vm.findClass own = some m.cls := by rw [hvm]; exact hown
  have hins : (Cond.instantiable cls 6).before args s' = true := h _ (by simp [Bundle.ownAtoms])
  obtain ⟨vm₁, cX, kX, hfX, hkX, -, -, X₁, st1⟩ := Y.newCold hexec (own := own) (C := cls) (index := ik) (n := 6) hown' hk' hins hini'
    (g := F0 m pc ls rest) rfl (by rw [hb]; exact d0) (Nat.le_refl _) (Nat.le_refl _)
  generalize hT1 : (T.setVm vm₁).pushCell { cls := cX, slots := kX.instanceTypes.map defaultValue, vm := .none } = T1 at X₁ st1
  have hcat : (Value.ref T.heap.size).category = 1 := rfl
  have hcellA : T1.heap[T.heap.size]? = some (freshCell cX kX) := by rw [← hT1]; exact State.heap_pushCell_size _ _
  have d3' : decode c.code (pc + 3) = .ok (.dup, 1) := by rw [hb]; exact d3
  have d4' : decode c.code (pc + 4) = .ok (.ldc is, 2) := by rw [hb]; exact d4
  have hstr' : vk_R own is text sa s' := vk_R.warm hW0 hstr
  obtain ⟨U, hsteps, hrun, hend, hW, hsame, ce, hce, hO⟩ := X₁.ctorThrowS hexec htr (own := own) (cls := cls) (names := names) (ic := ic) hown' hcls hnames h (fun x hx => nomatch hx) hfX hkX hcellA (by rw [hhp, hT]; exact Nat.le_refl _) (msg := .ref sa) rfl
    (g := { method := m, pc := pc + 6, locals := ls, stack := .ref sa :: .ref T.heap.size :: .ref T.heap.size :: rest, locked := none }) rfl hsize rfl rfl (rest := rest) rfl
    (by rw [hb]; exact d6) (by rw [hb]; exact d9) hout hRframes (by simp only [List.map_cons, List.sum_cons, hcat]; omega) hlocks
  obtain ⟨f1, f2⟩ := vx_frame hsame
  rw [hhp] at f1 f2
  have hWs : s.WarmedH U.vm := State.WarmedH.trans hW0 hW
  have hcl : s.vm.findClass cls = some ce.cls := by
    have h9 := hO.cls
    rw [hvm] at h9
    exact h9
  have hall : s.sameButNew ({ U with vm := s.vm } : State) locs mc ms := by
    subst hA
    obtain ⟨e1, e2⟩ := hsame
    rw [State.setFrames_setFrames] at e1
    have h2 : (T.setVm s.vm).sameButNew ({ U with vm := s.vm } : State) [] (0 + 1) (0 + 6) := ⟨e1, e2⟩
    have h3 := X.same.trans h2
    rw [List.append_nil] at h3
    exact h3.mono hc hs
  refine ⟨U, ?_, .threw T.heap.size, hrun, hend, Or.inr ⟨T.heap.size, rfl, cls, ce, locs, hx U hWs.alike f1 (fun q hq => f2 q hq (fun z hz => nomatch hz)), hce, hO.vm, hcl, hWs, hall, hf⟩⟩
  refine st1 _ ?_
  show Steps p.tables e below (T1.setTop { method := m, pc := pc + 3, locals := ls, stack := .ref T.heap.size :: rest, locked := none }) _
  jvm_step X₁.here [X₁.here.top, hexec, d3', Value.category]
  exact X₁.ldcString hexec (own := own) (text := text) (index := is) (a := sa) hown' hstr'.1 hstr'.2
    (g := { method := m, pc := pc + 4, locals := ls, stack := .ref T.heap.size :: .ref T.heap.size :: rest, locked := none }) rfl d4' _ hsteps
/-- 'throw new E("text")', the text by a wide index -/
theorem vx_throwSW {cc : ByteArray} {pc : Nat} (hexec : p.tables.exec = Jvm.exec) (hb : c.code = cc) (hl : l.stackTraces = false) {own cls text : String} {names : List String} {ik is ic mc ms sa : Nat} {A : Nat → Prop}
    (hown : s.vm.findClass own = some m.cls) (hcls : Bundle.fit cls = true) (hnames : ∀ n ∈ names, Bundle.fit n = true)
    (hk : (Cond.classLink own ik cls).before args s = true) (hini : (Cond.initialized cls).before args s = true) (hstr : vk_R own is text sa s) (hat : ∀ w ∈ vx_atS own ic cls names, w.before args s = true)
    (hgood : ∀ w ∈ Cond.classLink own ik cls :: Cond.initialized cls :: vx_atS own ic cls names, vx_ot w = true)
    (hU : vx_Zq Bundle.tN "UNASSIGNED_STACK" Bundle.steD A s s.heap) (hN : vx_Zq Bundle.tN "SUPPRESSED_SENTINEL" Bundle.listD A s s.heap) (hS : va_S A s.heap H locs) (hsize : ls.size = c.maxLocals)
    (d0 : decode cc pc = .ok (.new ik, 3)) (d3 : decode cc (pc + 3) = .ok (.dup, 1)) (d4 : decode cc (pc + 4) = .ok (.ldc_w is, 3)) (d7 : decode cc (pc + 7) = .ok (.invokespecial ic, 3)) (d10 : decode cc (pc + 10) = .ok (.athrow, 1))
    (hout : ∀ x ∈ c.exceptionTable.toList, covers x (pc + 10) = false)
    (hRframes : names.length + 3 < R.frames) (hRlocals : (rest.map fun v => v.category).sum + (13 * (names.length + 1) + 43) ≤ R.locals) (hRcells : cells + 1 ≤ R.cells) (hRslots : slots + 6 ≤ R.slots) (hlocks : meth.locks = false)
    (hx : ∀ t : State, s.vm.Alike t.vm → H.size ≤ t.heap.size → (∀ q : Nat, q < H.size → t.heap[q]? = H[q]?) → XC cls s t)
    (hf : ∀ z ∈ locs, free z.base) (hc : cells + 1 ≤ mc) (hs : slots + 6 ≤ ms) :
    W p l e R s m args below meth c H locs cells slots (vx_MQ below Qc XC args s mc ms free) (F0 m pc ls rest) := by
  intro T hT X
  have htr : e.platform.stackTraces = false := (show e.platform.stackTraces = l.stackTraces by rw [X.admits.platform]).trans hl
  have Y := vx_rebase X (R' := { frames := R.frames, locals := R.locals, cells := 1, slots := 6 }) (Nat.le_refl _) (Nat.le_refl _) hRcells hRslots
  obtain ⟨s', hA⟩ : ∃ z, z = (T.setVm s.vm).setFrames (.invoking m args :: below) := ⟨_, rfl⟩
  rw [← hA] at Y
  have hvm : s'.vm = s.vm := by rw [hA]; rfl
  have hhp : s'.heap = H := by rw [hA]; exact hT
  have hW0 : s.WarmedH s'.vm := by rw [hvm]; exact State.WarmedH.refl s
  have hat' : ∀ w ∈ vx_atS own ic cls names, w.before args s' = true := fun w hw => vx_ot_at hW0 hvm.symm (hgood w (List.mem_cons_of_mem _ (List.mem_cons_of_mem _ hw))) (hat w hw)
  have hk' : (Cond.classLink own ik cls).before args s' = true := vx_ot_at hW0 hvm.symm (hgood _ List.mem_cons_self) hk
  have hini' : (Cond.initialized cls).before args s' = true := vx_ot_at hW0 hvm.symm (hgood _ (List.mem_cons_of_mem _ List.mem_cons_self)) hini
  have hU' : vx_Zq Bundle.tN "UNASSIGNED_STACK" Bundle.steD A s' s'.heap := by rw [hhp]; exact vx_Zq.moved hW0.alike (hU.kept hS.2.1)
  have hN' : vx_Zq Bundle.tN "SUPPRESSED_SENTINEL" Bundle.listD A s' s'.heap := by rw [hhp]; exact vx_Zq.moved hW0.alike (hN.kept hS.2.1)
  have h : ∀ w ∈ Bundle.ownAtoms own ic cls names, w.before args s' = true := vx_own hat' (vx_isRefq hU'.1) (vx_isRefq hN'.1) hU'.2.word hN'.2.word
  have hown' : s'.vm.findClass own = some m.cls := by rw [hvm]; exact hown
  have hins : (Cond.instantiable cls 6).before args s' = true := h _ (by simp [Bundle.ownAtoms])
  obtain ⟨vm₁, cX, kX, hfX, hkX, -, -, X₁, st1⟩ := Y.newCold hexec (own := own) (C := cls) (index := ik) (n := 6) hown' hk' hins hini'
    (g := F0 m pc ls rest) rfl (by rw [hb]; exact d0) (Nat.le_refl _) (Nat.le_refl _)
  generalize hT1 : (T.setVm vm₁).pushCell { cls := cX, slots := kX.instanceTypes.map defaultValue, vm := .none } = T1 at X₁ st1
  have hcat : (Value.ref T.heap.size).category = 1 := rfl
  have hcellA : T1.heap[T.heap.size]? = some (freshCell cX kX) := by rw [← hT1]; exact State.heap_pushCell_size _ _
  have d3' : decode c.code (pc + 3) = .ok (.dup, 1) := by rw [hb]; exact d3
  have d4' : decode c.code (pc + 4) = .ok (.ldc_w is, 3) := by rw [hb]; exact d4
  have hstr' : vk_R own is text sa s' := vk_R.warm hW0 hstr
  obtain ⟨U, hsteps, hrun, hend, hW, hsame, ce, hce, hO⟩ := X₁.ctorThrowS hexec htr (own := own) (cls := cls) (names := names) (ic := ic) hown' hcls hnames h (fun x hx => nomatch hx) hfX hkX hcellA (by rw [hhp, hT]; exact Nat.le_refl _) (msg := .ref sa) rfl
    (g := { method := m, pc := pc + 7, locals := ls, stack := .ref sa :: .ref T.heap.size :: .ref T.heap.size :: rest, locked := none }) rfl hsize rfl rfl (rest := rest) rfl
    (by rw [hb]; exact d7) (by rw [hb]; exact d10) hout hRframes (by simp only [List.map_cons, List.sum_cons, hcat]; omega) hlocks
  obtain ⟨f1, f2⟩ := vx_frame hsame
  rw [hhp] at f1 f2
  have hWs : s.WarmedH U.vm := State.WarmedH.trans hW0 hW
  have hcl : s.vm.findClass cls = some ce.cls := by
    have h9 := hO.cls
    rw [hvm] at h9
    exact h9
  have hall : s.sameButNew ({ U with vm := s.vm } : State) locs mc ms := by
    subst hA
    obtain ⟨e1, e2⟩ := hsame
    rw [State.setFrames_setFrames] at e1
    have h2 : (T.setVm s.vm).sameButNew ({ U with vm := s.vm } : State) [] (0 + 1) (0 + 6) := ⟨e1, e2⟩
    have h3 := X.same.trans h2
    rw [List.append_nil] at h3
    exact h3.mono hc hs
  refine ⟨U, ?_, .threw T.heap.size, hrun, hend, Or.inr ⟨T.heap.size, rfl, cls, ce, locs, hx U hWs.alike f1 (fun q hq => f2 q hq (fun z hz => nomatch hz)), hce, hO.vm, hcl, hWs, hall, hf⟩⟩
  refine st1 _ ?_
  show Steps p.tables e below (T1.setTop { method := m, pc := pc + 3, locals := ls, stack := .ref T.heap.size :: rest, locked := none }) _
  jvm_step X₁.here [X₁.here.top, hexec, d3', Value.category]
  exact X₁.ldcStringW hexec (own := own) (text := text) (index := is) (a := sa) hown' hstr'.1 hstr'.2
    (g := { method := m, pc := pc + 4, locals := ls, stack := .ref T.heap.size :: .ref T.heap.size :: rest, locked := none }) rfl d4' _ hsteps
end Ends
section Bodies
variable {l : Launch}
theorem vx_ofW {y : MethodName} {ws ws' : List Cond} {rm : Room} {Pc : Array Value → State → Prop} {Qc : Array Value → State → Outcome → State → Prop} {XC : String → State → State → Prop} {mc ms : Nat} {free : Addr → Prop} {cc : ByteArray} {maxL : Nat} {ret : Option FieldType}
    (hy : plainName y.cls = true) (hw : ws = Cond.code y cc maxL ret :: ws')
    (body : ∀ p e s m args below meth c s₁, BodyLoose p l y (headSpec ws rm) cc maxL ret e s m args below meth c s₁ → c.maxLocals = maxL → (∀ x ∈ c.exceptionTable.toList, False) → Pc args s →
      W p l e (headSpec ws rm).room s m args below meth c s.heap [] 0 0 (vx_MQ below Qc XC args s mc ms free) (entryFrame m args maxL)) : vx_Met l y ws rm Pc Qc XC mc ms free := by
  refine MetFree.of_bodyS (code := cc) (maxLocals := maxL) (ret := ret) hy ?_ ?_
  · intro args s m h hn
    obtain ⟨meth, c, h1, h2, h3, h4, h5, h6, -, -⟩ := Cond.code_spec hn (atoms_spec (ws := ws) h _ (by rw [hw]; exact List.mem_cons_self))
    exact ⟨meth, c, h1, h2, h3, h4, h5, h6⟩
  · intro p e s m args below meth c s₁ B hml hP _
    have hh0 : s₁.heap = s.heap := by rw [B.state]; rfl
    have ht : ∀ x ∈ c.exceptionTable.toList, False := by
      obtain ⟨meth9, c9, h1, h2, -, -, -, -, h7, -⟩ := Cond.code_spec B.named (atoms_spec (ws := ws) B.pre _ (by rw [hw]; exact List.mem_cons_self))
      cases Option.some.inj (h1.symm.trans B.method)
      cases Option.some.inj (h2.symm.trans (Stand.of_body B).code)
      intro x hx
      rw [Array.isEmpty_iff.mp h7] at hx
      cases hx
    obtain ⟨t, a1, o, b1, b2, b3⟩ := body p e s m args below meth c s₁ B hml ht hP s₁ hh0 (Stand.of_body B)
    exact ⟨t, o, a1, b1, b2, b3⟩
/-- the table of a body with handlers -/
theorem vx_table {p : Program} {x y : MethodName} {S : Spec} {cc bytes : ByteArray} {maxL maxL' : Nat} {ret ret' : Option FieldType} {e : Env} {s s₁ : State} {m : MethodId} {args : Array Value} {below : List Frame} {meth : Method} {c : Code} {hh : List (Nat × Nat × Nat × Nat)}
    (B : BodyLoose p l y S cc maxL ret e s m args below meth c s₁) (h : (Cond.codeWith y bytes maxL' ret' hh).before args s = true) : c.exceptionTable.toList = tableOf hh := by
  obtain ⟨m9, meth9, c9, hn9, h1, h2, -, -, h6, -⟩ := Cond.codeWith_spec h
  cases Option.some.inj (hn9.symm.trans B.named)
  cases Option.some.inj (h1.symm.trans B.method)
  cases Option.some.inj (h2.symm.trans (Stand.of_body B).code)
  rw [← h6, table_eq]
end Bodies
end VXA
/-! ===== END ===== -/
/-! ===== BEGIN a static call of a method with an exception table ===== -/
section VXS
variable {p : Program} {l : Launch} {e : Env} {R : Room} {s : State} {m : MethodId} {args : Array Value} {below : List Frame} {meth : Method} {c : Code} {T : State} {H : Heap} {locs : List Loc} {cells slots : Nat}
abbrev vx_CSW (R : Room) (s : State) (args : Array Value) (own : String) (index : Nat) (y : MethodName) (bytes : ByteArray) (maxL : Nat) (ret : Option FieldType) (hh : List (Nat × Nat × Nat × Nat)) (ws : List Cond) (rm : Room) (mc ms n : Nat) : Prop :=
  (rm.cells = mc ∧ rm.slots = ms ∧ rm.frames + 1 ≤ R.frames ∧ 8 + (maxL + 11) + rm.locals ≤ R.locals ∧ (∀ w ∈ ws, ∀ (a' : Array Value) (U : State), s.WarmedH U.vm → w.before a' U = true) ∧ Cond.codeWith y bytes maxL ret hh ∈ ws) ∧
  (Cond.codeWith y bytes maxL ret hh).before args s = true ∧ (Cond.initialized y.cls).before args s = true ∧ (y.cls ≠ "java/lang/invoke/MethodHandle" ∧ y.cls ≠ "java/lang/invoke/VarHandle") ∧
  (∀ sig, parseMethodDescriptor y.desc = some sig → n = sig.parameters.length) ∧ (Cond.methodLink own index y).before args s = true ∧ (Cond.static y).before args s = true
theorem vx_cwSW {own : String} {index maxL mc ms : Nat} {y : MethodName} {bytes : ByteArray} {ret : Option FieldType} {hh : List (Nat × Nat × Nat × Nat)} {Ts ws ws' : List Cond} {rm : Room} (n : Nat) (ht : ∀ w ∈ Ts, w.before args s = true) (hT : GoodIn Ts (va_wsS own index y ws)) (hw : ws = Cond.codeWith y bytes maxL ret hh :: ws') (hrc : rm.cells = mc) (hrs : rm.slots = ms)
    (hd : y.cls ≠ "java/lang/invoke/MethodHandle" ∧ y.cls ≠ "java/lang/invoke/VarHandle" ∧ (parseMethodDescriptor y.desc).map (fun d => d.parameters.length) = some n) (hR : rm.frames + 1 ≤ R.frames ∧ 8 + (maxL + 11) + rm.locals ≤ R.locals) :
    vx_CSW R s args own index y bytes maxL ret hh ws rm mc ms n := by
  have ok : ∀ w ∈ va_wsS own index y ws, w.before args s = true := fun w h => ht w (hT w h).1
  have hG : GoodIn Ts ws := fun w h => hT w (by unfold va_wsS; exact List.mem_append_right _ h)
  have hc : Cond.codeWith y bytes maxL ret hh ∈ ws := by rw [hw]; exact List.mem_cons_self
  refine ⟨⟨hrc, hrs, hR.1, hR.2, pay_in ht hG, hc⟩, ht _ (hG _ hc).1, ok _ (by simp [va_wsS]), ⟨hd.1, hd.2.1⟩, fun sig h => ?_, ok _ (by simp [va_wsS]), ok _ (by simp [va_wsS])⟩
  have h2 := hd.2.2
  rw [h] at h2
  exact (Option.some.inj h2).symm
theorem vx_callSW (X : Stand p l e R s m args below meth c T locs cells slots) (hexec : p.tables.exec = Jvm.exec) {own : String} {index : Nat} {y : MethodName} {bytes : ByteArray} {maxL : Nat} {ret : Option FieldType} {hh : List (Nat × Nat × Nat × Nat)}
    (hown : s.vm.findClass own = some m.cls) (hlink : (Cond.methodLink own index y).before args s = true) (hstat : (Cond.static y).before args s = true) (hinit : (Cond.initialized y.cls).before args s = true)
    (hcode : (Cond.codeWith y bytes maxL ret hh).before args s = true) (hy : y.cls ≠ "java/lang/invoke/MethodHandle" ∧ y.cls ≠ "java/lang/invoke/VarHandle")
    {W9 : Nat} {Pre : Pt → Array Value → Prop} {Post : Pt → Array Value → Option Value → Pt → Prop} (hK : Back l R p e below s args y 3 W9 Pre Post)
    {g : JFrame} (hg : g.method = m) (hsize : g.locals.size = c.maxLocals) {argsL rest : List Value} (hlen : ∀ sig, parseMethodDescriptor y.desc = some sig → argsL.length = sig.parameters.length)
    (hstack : g.stack = argsL.reverse ++ rest) (hW : 2 * g.monitorRoom + (rest.map fun v => v.category).sum ≤ W9) (hdg : decode c.code g.pc = .ok (.invokestatic index, 3))
    (hpre : ∀ vm₁, s.WarmedH vm₁ → Pre ⟨T.setVm vm₁, locs, cells, slots⟩ argsL.toArray) :
    ∃ (v : Option Value) (vm₁ : Vm) (B : Pt), s.WarmedH vm₁ ∧ Stand p l e R s m args below meth c B.U B.locs B.cells B.slots ∧ Post ⟨T.setVm vm₁, locs, cells, slots⟩ argsL.toArray v B ∧
      ∀ target, Steps p.tables e below (B.U.setTop { g with pc := g.pc + 3, stack := v.toList ++ rest }) target → Steps p.tables e below (T.setTop g) target := by
  obtain ⟨mk, methM, cM, hnamed, hmethM, -, -, -, -, -, -, hsigM⟩ := Cond.codeWith_spec hcode
  have hstatic : methM.isStatic = true := Cond.static_spec hnamed hmethM hstat
  obtain ⟨kP, hkP, -⟩ := className_of_methodNamed hnamed
  have hinitP : kP.init = .initialized := Cond.initialized_spec (findClass_of_methodNamed hnamed) hkP hinit
  obtain ⟨vm₁, X₁, hstep₁⟩ := X.invokestatic hexec hown hlink hnamed hmethM hstatic hkP hinitP hy (g := g) hg (argsL := argsL) (rest := rest) (hlen _ hsigM) hstack hdg
  obtain ⟨v, B, X', hpost, hsteps⟩ := hK m meth c ⟨T.setVm vm₁, locs, cells, slots⟩ { g with stack := rest } (.invokestatic index) mk argsL.toArray X₁ hg hsize hdg hW (X₁.named hnamed) (hpre vm₁ X₁.warmed)
  exact ⟨v, vm₁, B, X₁.warmed, X', hpost, fun target h => hstep₁ _ fun acts => by rw [doInvoke_state]; exact hsteps.trans h⟩
theorem vx_runSW {y : MethodName} {bytes cc : ByteArray} {maxL nL mc ms n index : Nat} {ret : Option FieldType} {hh : List (Nat × Nat × Nat × Nat)} {ws : List Cond} {rm : Room} {Pc : Array Value → State → Prop} {Qc : Array Value → State → Outcome → State → Prop} {free : Addr → Prop} {Ts : List Cond} {own : String} {As rest : List Value} {g : JFrame}
    (S : CallFix p m c cc nL s args Ts own) (hM : Met l y ws rm Pc Qc mc ms free) (cw : vx_CSW R s args own index y bytes maxL ret hh ws rm mc ms n) (hp : PreS s H Pc As)
    (hg : g.method = m) (hn : As.length = n) (hsize : g.locals.size = nL) (hstack : g.stack = As.reverse ++ rest) (hW : 2 * g.monitorRoom + (rest.map fun v => v.category).sum ≤ 8) (hdg : decode cc g.pc = .ok (.invokestatic index, 3)) (hf : cells + mc ≤ R.cells ∧ slots + ms ≤ R.slots) :
    va_Run p l e R s m args below meth c H locs cells slots mc ms g rest (Qc As.toArray) (free) := by
  obtain ⟨⟨hrc, hrs, hfr, hlo, hws, hcw⟩, hcode, hini, hy, hlen, hl, hstt⟩ := cw
  have hK : Back l R p e below s args y 3 8 (PreOf R mc ms Pc) (PostOf Qc mc ms free) := va_backW (hh := hh) (bytes := bytes) (maxL := maxL) (ret := ret) hM hp.1 hrc hrs hfr hlo hws hcw (fun a' U hW => word_at hW (Or.inl (by first | rfl | simp [Cond.onTables, Cond.keeps, Cond.steady])) hini)
  obtain ⟨hx, hb, hml, ho, -⟩ := S
  intro T hT X
  obtain ⟨v, vm₁, ⟨U', l2, c2, s2⟩, hW₁, X', ⟨g', mk, t, L, e1, e2, hq, h1, hL, h2, h3⟩, st⟩ := vx_callSW X hx (hh := hh) (bytes := bytes) (maxL := maxL) (ret := ret) ho hl hstt hini hcode hy hK hg (hsize.trans hml.symm) (argsL := As) (rest := rest) (fun sig h => hn.trans (hlen sig h)) hstack hW (by rw [hb]; exact hdg)
    (fun vm₁ hW₁ => ⟨hf.1, hf.2, hp.2 (T.setVm vm₁) hT hW₁⟩)
  dsimp only [Pt.U, Pt.locs, Pt.cells, Pt.slots] at X' e1 e2 h1 h2 h3 st
  subst h1; subst h2; subst h3
  exact ⟨v, (T.setVm vm₁).calling g' mk As.toArray, t, U', L, hT, X', hL, e1, e2, hq, st⟩
/-- not caught here, past rows that name other classes: it goes on to the caller -/
theorem vx_outP {p : Program} {l : Launch} {e : Env} {R : Room} {s : State} {m : MethodId} {args : Array Value} {below : List Frame} {meth : Method} {c : Code} {H : Heap} {locs : List Loc} {cells slots : Nat} {free : Addr → Prop} {ls : Array Slot} {rest : List Value} {Qc : Array Value → State → Outcome → State → Prop} {XC : String → State → State → Prop}
    {pc : Nat} {own E : String} {ce : Cell} {q : Addr} {mc ms : Nat} (hown : s.vm.findClass own = some m.cls) (hlocks : meth.locks = false)
    (hpass : ∀ z ∈ c.exceptionTable.toList, covers z pc = false ∨ (z.catchType ≠ 0 ∧ ∃ nm : String, (Cond.classLink own z.catchType nm).before args s = true ∧ va_Nc E nm s)) (hcell : H[q]? = some ce) (hv : ce.vm = .none) (hcl : s.vm.findClass E = some ce.cls)
    (hx : ∀ t : State, t.heap = H → s.vm.Alike t.vm → XC E s t) (hf : ∀ z ∈ locs, free z.base) (hc : cells ≤ mc) (hs : slots ≤ ms) :
    vx_W p l e R s m args below meth c H locs cells slots (vx_MQ below Qc XC args s mc ms free) (F0 m pc ls rest) q := by
  intro T hT X
  have hpl : e.platform.magicAccessors = ({} : Platform).magicAccessors := by rw [X.admits.platform]
  obtain ⟨vm', hW', X', st⟩ := X.outThrough hlocks q (g := F0 m pc ls rest) rfl rfl rfl (cell := ce) (by rw [hT]; exact hcell) (by rw [hv]; rfl)
    (by obtain ⟨k9, h9, -⟩ := Vm.findClass_spec hcl; exact ⟨k9, h9⟩) (fun z hz => by
      rcases hpass z hz with h | ⟨hz0, nm, hl1, hn1⟩
      · exact Or.inl h
      · obtain ⟨c6, hc6, hcl6⟩ := Cond.classLink_spec hown hl1 e.platform hpl
        obtain ⟨a8, b8, h1, h2, h3⟩ := hn1
        cases Option.some.inj (h1.symm.trans hcl)
        cases Option.some.inj (h2.symm.trans hc6)
        exact Or.inr ⟨hz0, _, hcl6, h3⟩)
  obtain ⟨g₀, hfr⟩ := X'.frames_eq
  have hcell9 : ((T.setVm vm').setFrames (.throwing q :: below)).heap[q]? = some ce := by
    show T.heap[q]? = some ce
    rw [hT]; exact hcell
  have hend : Ended ((T.setVm vm').setFrames (.throwing q :: below)) below (.threw q) := State.frames_setFrames _ (State.cur_lt_of_frames hfr)
  refine ⟨(T.setVm vm').setFrames (.throwing q :: below), ?_, .threw q, X'.here.running, hend, Or.inr ⟨q, rfl, E, ce, locs, hx _ hT (X'.ends _).1.alike, hcell9, hv, hcl, (X'.ends _).1, (X'.ends _).2.mono hc hs, hf⟩⟩
  rw [X.pushThrowing_eq]
  exact st
/-- a thing of a world lies in the heap -/
theorem vx_lt {D : va_G} {cl : List vw_C} {ws : va_W} {H1 : Heap} (h : va_P D cl ws H1) {k : Nat} {q : Nat × va_E} (hk : ws[k]? = some q) : q.1 < H1.size := (h k q hk).lt
end VXS
/-! ===== END ===== -/
/-! ===== BEGIN methods with a table of their own: called by a name, returning or throwing ===== -/
section VXH
/-! vx_backW, vx_callVX, vx_callSX, vx_callVW, vx_runVW, vx_runVX, vx_runSX, vx_ofWH follow the same proofs as their sisters above (Free/Laws.lean, Shelf42/LK1.lean); vx_outP calls Shelf42/NT130.lean (outThrough). -/
section
variable {l : Launch} {R : Room} {p : Program} {e : Env} {below : List Frame} {s : State} {sargs : Array Value} {y : MethodName} {len W9 : Nat}
theorem vx_backW {ws : List Cond} {rm : Room} {Pc : Array Value → State → Prop} {Qc : Array Value → State → Outcome → State → Prop} {XC : String → State → State → Prop} {mc ms : Nat} {free : Addr → Prop} {bytes : ByteArray} {maxL : Nat} {ret : Option FieldType} {hh : List (Nat × Nat × Nat × Nat)}
    (hM : vx_Met l y ws rm Pc Qc XC mc ms free) (hblind : FrameBlind Pc) (hrc : rm.cells = mc) (hrs : rm.slots = ms)
    (hframes : rm.frames + 1 ≤ R.frames) (hlocals : W9 + (maxL + 11) + rm.locals ≤ R.locals)
    (hws : ∀ w ∈ ws, ∀ a' U, s.WarmedH U.vm → w.before a' U = true) (hcode : Cond.codeWith y bytes maxL ret hh ∈ ws) (hinit : ∀ a' U, s.WarmedH U.vm → (Cond.initialized y.cls).before a' U = true) :
    vx_Back l R p e below s sargs y len W9 (PreOf R mc ms Pc) (PostOf Qc mc ms free) (vx_Post XC mc ms free) := by
  intro m meth c A g ig mk a X hg hsize hdg hW hn hp
  have h1 : (headSpec ws rm).pre.before a A.U = true := atoms_intro fun w hw => hws w hw _ _ X.warmed
  have h2 : (Cond.codeWith y bytes maxL ret hh).before a A.U = true := hws _ hcode _ _ X.warmed
  have h3 : (Cond.initialized y.cls).before a A.U = true := hinit _ _ X.warmed
  have h4 : A.cells + (headSpec ws rm).room.cells ≤ R.cells := by rw [show (headSpec ws rm).room.cells = mc from hrc]; exact hp.1
  have h5 : A.slots + (headSpec ws rm).room.slots ≤ R.slots := by rw [show (headSpec ws rm).room.slots = ms from hrs]; exact hp.2.1
  have hPc : Pc a (A.U.calling g mk a) := hblind _ _ _ _ hp.2.2
  obtain ⟨U, Ls, c0, s0⟩ := A
  dsimp only [Pt.U, Pt.locs, Pt.cells, Pt.slots] at h1 h2 h3 h4 h5 X hn hPc ⊢
  obtain ⟨m9, methY, cY, hn9, hmY, hcY, -, hlY, -⟩ := Cond.codeWith_spec h2
  cases Option.some.inj (hn9.symm.trans hn)
  obtain ⟨kY, hkY, -⟩ := className_of_methodNamed hn
  have hinitY : kY.init = .initialized := Cond.initialized_spec (findClass_of_methodNamed hn) hkY h3
  have h : At U g.method c below := by rw [hg]; exact X.here
  have hlocals9 : W9 + (maxL + 11) + (headSpec ws rm).room.locals ≤ R.locals := hlocals
  have happ : (headSpec ws rm).appliesLoose y e.platform (U.calling g mk a) = true :=
    Spec.appliesLoose_calling (g := g) h hdg hn hkY hinitY
      (X.room_calling (g := g) (R' := (headSpec ws rm).room) hsize hmY hcY hframes (by rw [hlY]; omega) h4 h5) h1
  obtain ⟨mid, hmid⟩ := h.above
  have hfr : (U.setTop g).frames = (.java g :: mid) ++ below := by rw [State.frames_setTop' g h.top, hmid]; rfl
  obtain ⟨o, s₂, hsteps, -, hend, hq⟩ := Steps.callFree hM p X.admits X.cas X.clock (acts := []) hfr happ hPc trivial
  have hq' : vx_Q Qc XC mc ms free a (U.calling g mk a) o s₂ := hq
  rw [State.frames_setTop' g h.top] at hend
  obtain ⟨g₀, hg0⟩ := Option.isSome_iff_exists.mp h.top
  obtain ⟨r, hr⟩ := State.topJava?_eq_some.mp hg0
  have hr' : (({ U with heap := s₂.heap, slotsUsed := s₂.slotsUsed } : State).setVm s₂.vm).frames = .java g₀ :: r := hr
  rcases hq' with ⟨hqc, L, hfe, hL⟩ | ⟨q, rfl, E, ce, L, hx, hce, hcv, hcl, hW₂, hsm, hL⟩
  · obtain ⟨⟨v, rfl⟩, hW₂, e2, q2, q3, q4, q5, q6⟩ := id hfe
    have e3 : s₂ = ({ (U.calling g mk a).setFrames s₂.frames with heap := s₂.heap, slotsUsed := s₂.slotsUsed } : State).setVm s₂.vm := by
      have : s₂ = ({ s₂ with vm := (U.calling g mk a).vm } : State).setVm s₂.vm := rfl
      rw [e2] at this
      exact this
    obtain ⟨c₂, i₂, len₂, hc₂, hd₂, hf₂⟩ := hend
    have hW' : U.WarmedH s₂.vm := hW₂
    have hcc : c₂ = c := by
      have h1 : s₂.code? g.method = U.code? g.method := by
        rw [State.code?_eq, State.code?_eq, hW'.alike.method?]
      exact Option.some.inj (hc₂.symm.trans (h1.trans h.code))
    subst hcc
    have hlen : len₂ = len := by rw [hdg] at hd₂; cases hd₂; rfl
    subst hlen
    have hs₂ : s₂ = (({ U with heap := s₂.heap, slotsUsed := s₂.slotsUsed } : State).setVm s₂.vm).setTop { g with pc := g.pc + len₂, stack := v.toList ++ g.stack } := by
      refine e3.trans ?_
      rw [hf₂, State.calling_eq h.top, State.setFrames_setFrames, State.setTop_of_frames _ hr', hr]
      rfl
    have hsame : U.sameButNew ({ U with heap := s₂.heap, slotsUsed := s₂.slotsUsed } : State) L mc ms := by
      refine ⟨?_, q2, q3, q4, q5, q6⟩
      obtain ⟨t, ht, -⟩ := State.frames_cons hr
      show ({ U with heap := s₂.heap, slotsUsed := s₂.slotsUsed } : State) = { U.setFrames U.frames with heap := s₂.heap, slotsUsed := s₂.slotsUsed }
      rw [State.setFrames_self ht]
    subst hg
    refine Or.inl ⟨v, ⟨(({ U with heap := s₂.heap, slotsUsed := s₂.slotsUsed } : State).setVm s₂.vm), Ls ++ L, c0 + mc, s0 + ms⟩,
      ⟨X.admits, X.cas, X.clock, X.frames, X.room, X.hears, X.method, X.code, (X.here.setHeapUsed s₂.heap s₂.slotsUsed).setVm hW'.alike, X.tail, State.WarmedH.trans X.warmed hW', X.limits, X.bytes, X.same.trans (hsame.setVm s.vm)⟩,
      ⟨g, mk, s₂, L, rfl, rfl, hqc, rfl, hL, rfl, rfl⟩, ?_⟩
    show Steps p.tables e below _ ((({ U with heap := s₂.heap, slotsUsed := s₂.slotsUsed } : State).setVm s₂.vm).setTop { g with pc := g.pc + len₂, stack := v.toList ++ g.stack })
    rw [← hs₂]
    exact hsteps
  · obtain ⟨e2, q2, q3, q4, q5, q6⟩ := id hsm
    have e3 : s₂ = ({ (U.calling g mk a).setFrames s₂.frames with heap := s₂.heap, slotsUsed := s₂.slotsUsed } : State).setVm s₂.vm := by
      have : s₂ = ({ s₂ with vm := (U.calling g mk a).vm } : State).setVm s₂.vm := rfl
      rw [e2] at this
      exact this
    have hf₂ : s₂.frames = .throwing q :: .java g :: U.frames.tail := hend
    have hW' : U.WarmedH s₂.vm := hW₂
    have hs₂ : s₂ = ((({ U with heap := s₂.heap, slotsUsed := s₂.slotsUsed } : State).setVm s₂.vm).setTop g).pushFrame (.throwing q) := by
      refine e3.trans ?_
      rw [hf₂, State.calling_eq h.top, State.setFrames_setFrames, State.pushFrame, State.frames_setTop _ hr', State.setTop_of_frames _ hr', State.setFrames_setFrames, hr]
      rfl
    have hsame : U.sameButNew ({ U with heap := s₂.heap, slotsUsed := s₂.slotsUsed } : State) L mc ms := by
      refine ⟨?_, q2, q3, q4, q5, q6⟩
      obtain ⟨t, ht, -⟩ := State.frames_cons hr
      show ({ U with heap := s₂.heap, slotsUsed := s₂.slotsUsed } : State) = { U.setFrames U.frames with heap := s₂.heap, slotsUsed := s₂.slotsUsed }
      rw [State.setFrames_self ht]
    subst hg
    refine Or.inr ⟨q, ⟨(({ U with heap := s₂.heap, slotsUsed := s₂.slotsUsed } : State).setVm s₂.vm), Ls ++ L, c0 + mc, s0 + ms⟩,
      ⟨X.admits, X.cas, X.clock, X.frames, X.room, X.hears, X.method, X.code, (X.here.setHeapUsed s₂.heap s₂.slotsUsed).setVm hW'.alike, X.tail, State.WarmedH.trans X.warmed hW', X.limits, X.bytes, X.same.trans (hsame.setVm s.vm)⟩,
      ⟨g, mk, s₂, L, E, ce, rfl, rfl, hx, hce, hcv, hcl, rfl, hL, rfl, rfl⟩, ?_⟩
    show Steps p.tables e below _ (((({ U with heap := s₂.heap, slotsUsed := s₂.slotsUsed } : State).setVm s₂.vm).setTop g).pushFrame (.throwing q))
    rw [← hs₂]
    exact hsteps
end
variable {p : Program} {l : Launch} {e : Env} {R : Room} {s : State} {m : MethodId} {args : Array Value} {below : List Frame} {meth : Method} {c : Code} {T : State} {H : Heap} {locs : List Loc} {cells slots : Nat}
theorem vx_callVX (X : Stand p l e R s m args below meth c T locs cells slots) (hexec : p.tables.exec = Jvm.exec) {own C : String} {index : Nat} {y : MethodName} {bytes : ByteArray} {maxL : Nat} {ret : Option FieldType} {hh : List (Nat × Nat × Nat × Nat)}
    (hown : s.vm.findClass own = some m.cls) (hlink : (Cond.methodLink own index y).before args s = true) (hinst : (Cond.instanceMethod y).before args s = true) (hsel : (Cond.selects C y y).before args s = true)
    (hcode : (Cond.codeWith y bytes maxL ret hh).before args s = true) (hy : y.cls ≠ "java/lang/invoke/MethodHandle" ∧ y.cls ≠ "java/lang/invoke/VarHandle")
    {W9 : Nat} {Pre : Pt → Array Value → Prop} {Post : Pt → Array Value → Option Value → Pt → Prop} {PostX : Pt → Array Value → Addr → Pt → Prop} (hK : vx_Back l R p e below s args y 3 W9 Pre Post PostX)
    {b : Addr} {cellB : Cell} (hcell : T.heap[b]? = some cellB) (hobj : cellB.vm.isStatics = false) (hcls : s.vm.findClass C = some cellB.cls)
    {g : JFrame} (hg : g.method = m) (hsize : g.locals.size = c.maxLocals) {argsL rest : List Value} (hlen : ∀ sig, parseMethodDescriptor y.desc = some sig → argsL.length = sig.parameters.length)
    (hstack : g.stack = argsL.reverse ++ .ref b :: rest) (hW : 2 * g.monitorRoom + (rest.map fun v => v.category).sum ≤ W9) (hdg : decode c.code g.pc = .ok (.invokevirtual index, 3))
    (hpre : ∀ vm₁, s.WarmedH vm₁ → Pre ⟨T.setVm vm₁, locs, cells, slots⟩ (Value.ref b :: argsL).toArray) :
    (∃ (v : Option Value) (vm₁ : Vm) (B : Pt), s.WarmedH vm₁ ∧ Stand p l e R s m args below meth c B.U B.locs B.cells B.slots ∧ Post ⟨T.setVm vm₁, locs, cells, slots⟩ (Value.ref b :: argsL).toArray v B ∧
      ∀ target, Steps p.tables e below (B.U.setTop { g with pc := g.pc + 3, stack := v.toList ++ rest }) target → Steps p.tables e below (T.setTop g) target) ∨
    (∃ (q : Addr) (vm₁ : Vm) (B : Pt), s.WarmedH vm₁ ∧ Stand p l e R s m args below meth c B.U B.locs B.cells B.slots ∧ PostX ⟨T.setVm vm₁, locs, cells, slots⟩ (Value.ref b :: argsL).toArray q B ∧
      Steps p.tables e below (T.setTop g) ((B.U.setTop { g with stack := rest }).pushFrame (.throwing q))) := by
  obtain ⟨mk, methM, hnamed, hmethM, hstM, habM⟩ := Cond.instanceMethod_spec hinst
  obtain ⟨m8, methM', cM, hn8, hmethM', -, -, -, -, -, -, hsigM⟩ := Cond.codeWith_spec hcode
  cases Option.some.inj (hn8.symm.trans hnamed)
  cases hmethM.symm.trans hmethM'
  obtain ⟨c2, r2, m2, q1, q2, q3, q4, kP, hkP, hkPi⟩ := Cond.selects_spec hsel
  cases hcls.symm.trans q1
  cases (State.methodFound?_of_named hnamed hy).symm.trans q2
  cases hnamed.symm.trans q3
  have hselP : selectMethod e.platform s.vm cellB.cls mk = .method mk := by rw [Launch.admits_selectMethod X.admits]; exact q4
  obtain ⟨vm₁, X₁, hstep₁⟩ := X.invokevirtual hexec hown hlink hnamed hmethM hstM hkP hkPi hy (a := b) (cell := cellB) hcell
    (fun z h => by rw [h] at hobj; cases hobj) hselP hmethM habM hkP hkPi (g := g) hg (argsL := argsL) (rest := rest) (hlen _ hsigM) hstack hdg
  rcases hK m meth c ⟨T.setVm vm₁, locs, cells, slots⟩ { g with stack := rest } (.invokevirtual index) mk (Value.ref b :: argsL).toArray X₁ hg hsize hdg hW (X₁.named hnamed) (hpre vm₁ X₁.warmed) with ⟨v, B, X', hpost, hsteps⟩ | ⟨q, B, X', hpost, hsteps⟩
  · exact Or.inl ⟨v, vm₁, B, X₁.warmed, X', hpost, fun target h => hstep₁ _ fun acts => by rw [doInvoke_state]; exact hsteps.trans h⟩
  · exact Or.inr ⟨q, vm₁, B, X₁.warmed, X', hpost, hstep₁ _ fun acts => by rw [doInvoke_state]; exact hsteps⟩
theorem vx_callSX (X : Stand p l e R s m args below meth c T locs cells slots) (hexec : p.tables.exec = Jvm.exec) {own : String} {index : Nat} {y : MethodName} {bytes : ByteArray} {maxL : Nat} {ret : Option FieldType} {hh : List (Nat × Nat × Nat × Nat)}
    (hown : s.vm.findClass own = some m.cls) (hlink : (Cond.methodLink own index y).before args s = true) (hstat : (Cond.static y).before args s = true) (hinit : (Cond.initialized y.cls).before args s = true)
    (hcode : (Cond.codeWith y bytes maxL ret hh).before args s = true) (hy : y.cls ≠ "java/lang/invoke/MethodHandle" ∧ y.cls ≠ "java/lang/invoke/VarHandle")
    {W9 : Nat} {Pre : Pt → Array Value → Prop} {Post : Pt → Array Value → Option Value → Pt → Prop} {PostX : Pt → Array Value → Addr → Pt → Prop} (hK : vx_Back l R p e below s args y 3 W9 Pre Post PostX)
    {g : JFrame} (hg : g.method = m) (hsize : g.locals.size = c.maxLocals) {argsL rest : List Value} (hlen : ∀ sig, parseMethodDescriptor y.desc = some sig → argsL.length = sig.parameters.length)
    (hstack : g.stack = argsL.reverse ++ rest) (hW : 2 * g.monitorRoom + (rest.map fun v => v.category).sum ≤ W9) (hdg : decode c.code g.pc = .ok (.invokestatic index, 3))
    (hpre : ∀ vm₁, s.WarmedH vm₁ → Pre ⟨T.setVm vm₁, locs, cells, slots⟩ argsL.toArray) :
    (∃ (v : Option Value) (vm₁ : Vm) (B : Pt), s.WarmedH vm₁ ∧ Stand p l e R s m args below meth c B.U B.locs B.cells B.slots ∧ Post ⟨T.setVm vm₁, locs, cells, slots⟩ argsL.toArray v B ∧
      ∀ target, Steps p.tables e below (B.U.setTop { g with pc := g.pc + 3, stack := v.toList ++ rest }) target → Steps p.tables e below (T.setTop g) target) ∨
    (∃ (q : Addr) (vm₁ : Vm) (B : Pt), s.WarmedH vm₁ ∧ Stand p l e R s m args below meth c B.U B.locs B.cells B.slots ∧ PostX ⟨T.setVm vm₁, locs, cells, slots⟩ argsL.toArray q B ∧
      Steps p.tables e below (T.setTop g) ((B.U.setTop { g with stack := rest }).pushFrame (.throwing q))) := by
  obtain ⟨mk, methM, cM, hnamed, hmethM, -, -, -, -, -, -, hsigM⟩ := Cond.codeWith_spec hcode
  have hstatic : methM.isStatic = true := Cond.static_spec hnamed hmethM hstat
  obtain ⟨kP, hkP, -⟩ := className_of_methodNamed hnamed
  have hinitP : kP.init = .initialized := Cond.initialized_spec (findClass_of_methodNamed hnamed) hkP hinit
  obtain ⟨vm₁, X₁, hstep₁⟩ := X.invokestatic hexec hown hlink hnamed hmethM hstatic hkP hinitP hy (g := g) hg (argsL := argsL) (rest := rest) (hlen _ hsigM) hstack hdg
  rcases hK m meth c ⟨T.setVm vm₁, locs, cells, slots⟩ { g with stack := rest } (.invokestatic index) mk argsL.toArray X₁ hg hsize hdg hW (X₁.named hnamed) (hpre vm₁ X₁.warmed) with ⟨v, B, X', hpost, hsteps⟩ | ⟨q, B, X', hpost, hsteps⟩
  · exact Or.inl ⟨v, vm₁, B, X₁.warmed, X', hpost, fun target h => hstep₁ _ fun acts => by rw [doInvoke_state]; exact hsteps.trans h⟩
  · exact Or.inr ⟨q, vm₁, B, X₁.warmed, X', hpost, hstep₁ _ fun acts => by rw [doInvoke_state]; exact hsteps⟩
theorem vx_callVW (X : Stand p l e R s m args below meth c T locs cells slots) (hexec : p.tables.exec = Jvm.exec) {own C : String} {index : Nat} {y : MethodName} {bytes : ByteArray} {maxL : Nat} {ret : Option FieldType} {hh : List (Nat × Nat × Nat × Nat)}
    (hown : s.vm.findClass own = some m.cls) (hlink : (Cond.methodLink own index y).before args s = true) (hinst : (Cond.instanceMethod y).before args s = true) (hsel : (Cond.selects C y y).before args s = true)
    (hcode : (Cond.codeWith y bytes maxL ret hh).before args s = true) (hy : y.cls ≠ "java/lang/invoke/MethodHandle" ∧ y.cls ≠ "java/lang/invoke/VarHandle")
    {W9 : Nat} {Pre : Pt → Array Value → Prop} {Post : Pt → Array Value → Option Value → Pt → Prop} (hK : Back l R p e below s args y 3 W9 Pre Post)
    {b : Addr} {cellB : Cell} (hcell : T.heap[b]? = some cellB) (hobj : cellB.vm.isStatics = false) (hcls : s.vm.findClass C = some cellB.cls)
    {g : JFrame} (hg : g.method = m) (hsize : g.locals.size = c.maxLocals) {argsL rest : List Value} (hlen : ∀ sig, parseMethodDescriptor y.desc = some sig → argsL.length = sig.parameters.length)
    (hstack : g.stack = argsL.reverse ++ .ref b :: rest) (hW : 2 * g.monitorRoom + (rest.map fun v => v.category).sum ≤ W9) (hdg : decode c.code g.pc = .ok (.invokevirtual index, 3))
    (hpre : ∀ vm₁, s.WarmedH vm₁ → Pre ⟨T.setVm vm₁, locs, cells, slots⟩ (Value.ref b :: argsL).toArray) :
    ∃ (v : Option Value) (vm₁ : Vm) (B : Pt), s.WarmedH vm₁ ∧ Stand p l e R s m args below meth c B.U B.locs B.cells B.slots ∧ Post ⟨T.setVm vm₁, locs, cells, slots⟩ (Value.ref b :: argsL).toArray v B ∧
      ∀ target, Steps p.tables e below (B.U.setTop { g with pc := g.pc + 3, stack := v.toList ++ rest }) target → Steps p.tables e below (T.setTop g) target := by
  obtain ⟨mk, methM, hnamed, hmethM, hstM, habM⟩ := Cond.instanceMethod_spec hinst
  obtain ⟨m8, methM', cM, hn8, hmethM', -, -, -, -, -, -, hsigM⟩ := Cond.codeWith_spec hcode
  cases Option.some.inj (hn8.symm.trans hnamed)
  cases hmethM.symm.trans hmethM'
  obtain ⟨c2, r2, m2, q1, q2, q3, q4, kP, hkP, hkPi⟩ := Cond.selects_spec hsel
  cases hcls.symm.trans q1
  cases (State.methodFound?_of_named hnamed hy).symm.trans q2
  cases hnamed.symm.trans q3
  have hselP : selectMethod e.platform s.vm cellB.cls mk = .method mk := by rw [Launch.admits_selectMethod X.admits]; exact q4
  obtain ⟨vm₁, X₁, hstep₁⟩ := X.invokevirtual hexec hown hlink hnamed hmethM hstM hkP hkPi hy (a := b) (cell := cellB) hcell
    (fun z h => by rw [h] at hobj; cases hobj) hselP hmethM habM hkP hkPi (g := g) hg (argsL := argsL) (rest := rest) (hlen _ hsigM) hstack hdg
  obtain ⟨v, B, X', hpost, hsteps⟩ := hK m meth c ⟨T.setVm vm₁, locs, cells, slots⟩ { g with stack := rest } (.invokevirtual index) mk (Value.ref b :: argsL).toArray X₁ hg hsize hdg hW (X₁.named hnamed) (hpre vm₁ X₁.warmed)
  exact ⟨v, vm₁, B, X₁.warmed, X', hpost, fun target h => hstep₁ _ fun acts => by rw [doInvoke_state]; exact hsteps.trans h⟩
abbrev vx_CVW (R : Room) (s : State) (args : Array Value) (own C : String) (index : Nat) (y : MethodName) (bytes : ByteArray) (maxL : Nat) (ret : Option FieldType) (hh : List (Nat × Nat × Nat × Nat)) (ws : List Cond) (rm : Room) (mc ms n : Nat) : Prop :=
  (rm.cells = mc ∧ rm.slots = ms ∧ rm.frames + 1 ≤ R.frames ∧ 8 + (maxL + 11) + rm.locals ≤ R.locals ∧ (∀ w ∈ ws, ∀ (a' : Array Value) (U : State), s.WarmedH U.vm → w.before a' U = true) ∧ Cond.codeWith y bytes maxL ret hh ∈ ws) ∧
  (Cond.codeWith y bytes maxL ret hh).before args s = true ∧ (Cond.initialized y.cls).before args s = true ∧ (y.cls ≠ "java/lang/invoke/MethodHandle" ∧ y.cls ≠ "java/lang/invoke/VarHandle") ∧
  (∀ sig, parseMethodDescriptor y.desc = some sig → n = sig.parameters.length) ∧ (Cond.methodLink own index y).before args s = true ∧ (Cond.instanceMethod y).before args s = true ∧ (Cond.selects C y y).before args s = true
theorem vx_cwVW {own C : String} {index maxL mc ms : Nat} {y : MethodName} {bytes : ByteArray} {ret : Option FieldType} {hh : List (Nat × Nat × Nat × Nat)} {Ts ws ws' : List Cond} {rm : Room} (n : Nat) (ht : ∀ w ∈ Ts, w.before args s = true) (hT : GoodIn Ts (wsV own index C y ws)) (hw : ws = Cond.codeWith y bytes maxL ret hh :: ws') (hrc : rm.cells = mc) (hrs : rm.slots = ms)
    (hd : y.cls = C ∧ y.cls ≠ "java/lang/invoke/MethodHandle" ∧ y.cls ≠ "java/lang/invoke/VarHandle" ∧ (parseMethodDescriptor y.desc).map (fun d => d.parameters.length) = some n) (hR : rm.frames + 1 ≤ R.frames ∧ 8 + (maxL + 11) + rm.locals ≤ R.locals) :
    vx_CVW R s args own C index y bytes maxL ret hh ws rm mc ms n := by
  obtain ⟨hC, hd⟩ := hd
  subst hC
  have ok : ∀ w ∈ wsV own index y.cls y ws, w.before args s = true := fun w h => ht w (hT w h).1
  have hG : GoodIn Ts ws := fun w h => hT w (by unfold wsV; exact List.mem_append_right _ h)
  have hc : Cond.codeWith y bytes maxL ret hh ∈ ws := by rw [hw]; exact List.mem_cons_self
  refine ⟨⟨hrc, hrs, hR.1, hR.2, pay_in ht hG, hc⟩, ht _ (hG _ hc).1, ok _ (by simp [wsV]), ⟨hd.1, hd.2.1⟩, fun sig h => ?_, ok _ (by simp [wsV]), ok _ (by simp [wsV]), ok _ (by simp [wsV])⟩
  have h2 := hd.2.2
  rw [h] at h2
  exact (Option.some.inj h2).symm
theorem vx_runVW {y : MethodName} {bytes cc : ByteArray} {maxL nL mc ms n index : Nat} {ret : Option FieldType} {hh : List (Nat × Nat × Nat × Nat)} {ws : List Cond} {rm : Room} {Pc : Array Value → State → Prop} {Qc : Array Value → State → Outcome → State → Prop} {free : Addr → Prop} {Ts : List Cond} {own C : String} {b : Addr} {As rest : List Value} {g : JFrame}
    (S : CallFix p m c cc nL s args Ts own) (hM : Met l y ws rm Pc Qc mc ms free) (cw : vx_CVW R s args own C index y bytes maxL ret hh ws rm mc ms n) (hp : PreV s H C b Pc As)
    (hg : g.method = m) (hn : As.length = n) (hsize : g.locals.size = nL) (hstack : g.stack = As.reverse ++ .ref b :: rest) (hW : 2 * g.monitorRoom + (rest.map fun v => v.category).sum ≤ 8) (hdg : decode cc g.pc = .ok (.invokevirtual index, 3)) (hf : cells + mc ≤ R.cells ∧ slots + ms ≤ R.slots) :
    va_Run p l e R s m args below meth c H locs cells slots mc ms g rest (Qc (Value.ref b :: As).toArray) free := by
  obtain ⟨⟨hrc, hrs, hfr, hlo, hws, hcw⟩, hcode, hini, hy, hlen, hl, hin, hse⟩ := cw
  have hK : Back l R p e below s args y 3 8 (PreOf R mc ms Pc) (PostOf Qc mc ms free) := va_backW (hh := hh) (bytes := bytes) (maxL := maxL) (ret := ret) hM hp.1 hrc hrs hfr hlo hws hcw (fun a' U hW => word_at hW (Or.inl (by first | rfl | simp [Cond.onTables, Cond.keeps, Cond.steady])) hini)
  obtain ⟨hx, hb, hml, ho, -⟩ := S
  obtain ⟨-, ⟨cellB, hcB, hoB, hclB⟩, hPc⟩ := hp
  intro T hT X
  obtain ⟨v, vm₁, ⟨U', l2, c2, s2⟩, hW₁, X', ⟨g', mk, t, L, e1, e2, hq, h1, hL, h2, h3⟩, st⟩ := vx_callVW X hx (C := C) (hh := hh) (bytes := bytes) (maxL := maxL) (ret := ret) ho hl hin hse hcode hy hK (by rw [hT]; exact hcB) hoB hclB hg (hsize.trans hml.symm) (argsL := As) (rest := rest) (fun sig h => hn.trans (hlen sig h)) hstack hW (by rw [hb]; exact hdg)
    (fun vm₁ hW₁ => ⟨hf.1, hf.2, hPc (T.setVm vm₁) hT hW₁⟩)
  dsimp only [Pt.U, Pt.locs, Pt.cells, Pt.slots] at X' e1 e2 h1 h2 h3 st
  subst h1; subst h2; subst h3
  exact ⟨v, (T.setVm vm₁).calling g' mk (Value.ref b :: As).toArray, t, U', L, hT, X', hL, e1, e2, hq, st⟩
section
variable {y : MethodName} {bytes cc : ByteArray} {maxL nL mc ms n index : Nat} {ret : Option FieldType} {ws : List Cond} {rm : Room} {Pc : Array Value → State → Prop} {Qc : Array Value → State → Outcome → State → Prop} {XC : String → State → State → Prop} {free : Addr → Prop} {Ts : List Cond} {own C : String} {b : Addr} {As rest : List Value} {g : JFrame}
theorem vx_runVX {hh : List (Nat × Nat × Nat × Nat)} (S : CallFix p m c cc nL s args Ts own) (hM : vx_Met l y ws rm Pc Qc XC mc ms free) (cw : vx_CVW R s args own C index y bytes maxL ret hh ws rm mc ms n) (hp : PreV s H C b Pc As)
    (hg : g.method = m) (hn : As.length = n) (hsize : g.locals.size = nL) (hstack : g.stack = As.reverse ++ .ref b :: rest) (hW : 2 * g.monitorRoom + (rest.map fun v => v.category).sum ≤ 8) (hdg : decode cc g.pc = .ok (.invokevirtual index, 3)) (hf : cells + mc ≤ R.cells ∧ slots + ms ≤ R.slots) :
    vx_Run p l e R s m args below meth c H locs cells slots mc ms g rest (Qc (Value.ref b :: As).toArray) XC free := by
  obtain ⟨⟨hrc, hrs, hfr, hlo, hws, hcw⟩, hcode, hini, hy, hlen, hl, hin, hse⟩ := cw
  have hK : vx_Back l R p e below s args y 3 8 (PreOf R mc ms Pc) (PostOf Qc mc ms free) (vx_Post XC mc ms free) := vx_backW (hh := hh) (bytes := bytes) (maxL := maxL) (ret := ret) hM hp.1 hrc hrs hfr hlo hws hcw (fun a' U hW => word_at hW (Or.inl (by first | rfl | simp [Cond.onTables, Cond.keeps, Cond.steady])) hini)
  obtain ⟨hx, hb, hml, ho, -⟩ := S
  obtain ⟨-, ⟨cellB, hcB, hoB, hclB⟩, hPc⟩ := hp
  intro T hT X
  rcases vx_callVX X hx (C := C) (hh := hh) (bytes := bytes) (maxL := maxL) (ret := ret) ho hl hin hse hcode hy hK (by rw [hT]; exact hcB) hoB hclB hg (hsize.trans hml.symm) (argsL := As) (rest := rest) (fun sig h => hn.trans (hlen sig h)) hstack hW (by rw [hb]; exact hdg)
    (fun vm₁ hW₁ => ⟨hf.1, hf.2, hPc (T.setVm vm₁) hT hW₁⟩) with ⟨v, vm₁, ⟨U', l2, c2, s2⟩, hW₁, X', ⟨g', mk, t, L, e1, e2, hq, h1, hL, h2, h3⟩, st⟩ | ⟨q, vm₁, ⟨U', l2, c2, s2⟩, hW₁, X', ⟨g', mk, t, L, E, ce, e1, e2, hq, hce, hcv, hcl, h1, hL, h2, h3⟩, st⟩
  · dsimp only [Pt.U, Pt.locs, Pt.cells, Pt.slots] at X' e1 e2 h1 h2 h3 st
    subst h1; subst h2; subst h3
    exact Or.inl ⟨v, (T.setVm vm₁).calling g' mk (Value.ref b :: As).toArray, t, U', L, hT, X', hL, e1, e2, hq, st⟩
  · dsimp only [Pt.U, Pt.locs, Pt.cells, Pt.slots] at X' e1 e2 h1 h2 h3 st hcl
    subst h1; subst h2; subst h3
    exact Or.inr ⟨q, (T.setVm vm₁).calling g' mk (Value.ref b :: As).toArray, t, U', L, E, ce, hT, X', hL, e1, e2, hq, hce, hcv, vx_cls hW₁ hcl, st⟩
theorem vx_runSX {hh : List (Nat × Nat × Nat × Nat)} (S : CallFix p m c cc nL s args Ts own) (hM : vx_Met l y ws rm Pc Qc XC mc ms free) (cw : vx_CSW R s args own index y bytes maxL ret hh ws rm mc ms n) (hp : PreS s H Pc As)
    (hg : g.method = m) (hn : As.length = n) (hsize : g.locals.size = nL) (hstack : g.stack = As.reverse ++ rest) (hW : 2 * g.monitorRoom + (rest.map fun v => v.category).sum ≤ 8) (hdg : decode cc g.pc = .ok (.invokestatic index, 3)) (hf : cells + mc ≤ R.cells ∧ slots + ms ≤ R.slots) :
    vx_Run p l e R s m args below meth c H locs cells slots mc ms g rest (Qc As.toArray) XC free := by
  obtain ⟨⟨hrc, hrs, hfr, hlo, hws, hcw⟩, hcode, hini, hy, hlen, hl, hstt⟩ := cw
  have hK : vx_Back l R p e below s args y 3 8 (PreOf R mc ms Pc) (PostOf Qc mc ms free) (vx_Post XC mc ms free) := vx_backW (hh := hh) (bytes := bytes) (maxL := maxL) (ret := ret) hM hp.1 hrc hrs hfr hlo hws hcw (fun a' U hW => word_at hW (Or.inl (by first | rfl | simp [Cond.onTables, Cond.keeps, Cond.steady])) hini)
  obtain ⟨hx, hb, hml, ho, -⟩ := S
  intro T hT X
  rcases vx_callSX X hx (hh := hh) (bytes := bytes) (maxL := maxL) (ret := ret) ho hl hstt hini hcode hy hK hg (hsize.trans hml.symm) (argsL := As) (rest := rest) (fun sig h => hn.trans (hlen sig h)) hstack hW (by rw [hb]; exact hdg)
    (fun vm₁ hW₁ => ⟨hf.1, hf.2, hp.2 (T.setVm vm₁) hT hW₁⟩) with ⟨v, vm₁, ⟨U', l2, c2, s2⟩, hW₁, X', ⟨g', mk, t, L, e1, e2, hq, h1, hL, h2, h3⟩, st⟩ | ⟨q, vm₁, ⟨U', l2, c2, s2⟩, hW₁, X', ⟨g', mk, t, L, E, ce, e1, e2, hq, hce, hcv, hcl, h1, hL, h2, h3⟩, st⟩
  · dsimp only [Pt.U, Pt.locs, Pt.cells, Pt.slots] at X' e1 e2 h1 h2 h3 st
    subst h1; subst h2; subst h3
    exact Or.inl ⟨v, (T.setVm vm₁).calling g' mk As.toArray, t, U', L, hT, X', hL, e1, e2, hq, st⟩
  · dsimp only [Pt.U, Pt.locs, Pt.cells, Pt.slots] at X' e1 e2 h1 h2 h3 st hcl
    subst h1; subst h2; subst h3
    exact Or.inr ⟨q, (T.setVm vm₁).calling g' mk As.toArray, t, U', L, E, ce, hT, X', hL, e1, e2, hq, hce, hcv, vx_cls hW₁ hcl, st⟩
end
end VXH
theorem vx_ofWH {l : Launch} {y : MethodName} {ws ws' : List Cond} {rm : Room} {Pc : Array Value → State → Prop} {Qc : Array Value → State → Outcome → State → Prop} {XC : String → State → State → Prop} {mc ms : Nat} {free : Addr → Prop} {cc : ByteArray} {maxL : Nat} {ret : Option FieldType} {hh : List (Nat × Nat × Nat × Nat)}
    (hy : plainName y.cls = true) (hw : ws = Cond.codeWith y cc maxL ret hh :: ws')
    (body : ∀ p e s m args below meth c s₁, BodyLoose p l y (headSpec ws rm) cc maxL ret e s m args below meth c s₁ → c.maxLocals = maxL → Pc args s →
      W p l e (headSpec ws rm).room s m args below meth c s.heap [] 0 0 (vx_MQ below Qc XC args s mc ms free) (entryFrame m args maxL)) : vx_Met l y ws rm Pc Qc XC mc ms free := by
  refine MetFree.of_bodyS (code := cc) (maxLocals := maxL) (ret := ret) hy ?_ ?_
  · intro args s m h hn
    obtain ⟨m9, meth, c, hn9, h1, h2, h3, h4, -, h5, h6, -⟩ := Cond.codeWith_spec (atoms_spec (ws := ws) h _ (by rw [hw]; exact List.mem_cons_self))
    cases hn.symm.trans hn9
    exact ⟨meth, c, h1, h2, h3, h4, h5, h6⟩
  · intro p e s m args below meth c s₁ B hml hP _
    have hh0 : s₁.heap = s.heap := by rw [B.state]; rfl
    obtain ⟨t, a1, o, b1, b2, b3⟩ := body p e s m args below meth c s₁ B hml hP s₁ hh0 (Stand.of_body B)
    exact ⟨t, o, a1, b1, b2, b3⟩
/-! ===== END ===== -/

/-! ===== BEGIN printed: names, fields, word lists, decode rows ===== -/
def RX0 : String := "FountainCode$Drop"
def TX0 : u_T := fun k => match k with
  | 0 => ("FountainCode$Drop", "row", "[I", true)
  | 1 => ("FountainCode$Drop", "generator", "J", false)
  | 2 => ("FountainCode$Drop", "size", "I", false)
  | _ => ("FountainCode$Drop", "blockSet", "J", false)
def tyX0 : Nat → FieldType := fun k => match k with
  | 0 => .array .int
  | 1 => .long
  | 2 => .int
  | _ => .long
abbrev wsX00 : List Cond := u_ws RX0 TX0 4
theorem nmX0 : ∀ a, a < 4 → ∀ b, b < 4 → a ≠ b → (TX0 a).2.1 ≠ (TX0 b).2.1 := by decide +kernel
theorem tyX0_ok : ∀ k, k < 4 → parseFieldDescriptor (TX0 k).2.2.1 = some (tyX0 k) := by decide +kernel
abbrev cX0_init : ByteArray := prog_2_method_1_code
def yX0_init : MethodName := ⟨RX0, "<init>", "()V"⟩
abbrev cX0_draw : ByteArray := prog_2_method_2_code
def yX0_draw : MethodName := ⟨RX0, "draw", "(ILFountainCode$Weights;I)V"⟩
abbrev cX0_size : ByteArray := prog_2_method_3_code
def yX0_size : MethodName := ⟨RX0, "size", "()I"⟩
abbrev cX0_blockSet : ByteArray := prog_2_method_4_code
def yX0_blockSet : MethodName := ⟨RX0, "blockSet", "()J"⟩
abbrev cX0_blockInPlace : ByteArray := prog_2_method_5_code
def yX0_blockInPlace : MethodName := ⟨RX0, "blockInPlace", "(I)I"⟩
abbrev cX0_numberBelow : ByteArray := prog_2_method_6_code
def yX0_numberBelow : MethodName := ⟨RX0, "numberBelow", "(I)I"⟩
abbrev cX0_lineUp : ByteArray := prog_2_method_7_code
def yX0_lineUp : MethodName := ⟨RX0, "lineUp", "(I)V"⟩
abbrev cX0_swap : ByteArray := prog_2_method_8_code
def yX0_swap : MethodName := ⟨RX0, "swap", "(II)V"⟩
def RX1 : String := "FountainCode$Elimination"
def TX1 : u_T := fun k => match k with
  | 0 => ("FountainCode$Elimination", "rows", "[J", true)
  | 1 => ("FountainCode$Elimination", "values", "[I", true)
  | _ => ("FountainCode$Elimination", "rowCount", "I", false)
def tyX1 : Nat → FieldType := fun k => match k with
  | 0 => .array .long
  | 1 => .array .int
  | _ => .int
abbrev wsX10 : List Cond := u_ws RX1 TX1 3
theorem nmX1 : ∀ a, a < 3 → ∀ b, b < 3 → a ≠ b → (TX1 a).2.1 ≠ (TX1 b).2.1 := by decide +kernel
theorem tyX1_ok : ∀ k, k < 3 → parseFieldDescriptor (TX1 k).2.2.1 = some (tyX1 k) := by decide +kernel
abbrev cX1_init : ByteArray := prog_3_method_1_code
def yX1_init : MethodName := ⟨RX1, "<init>", "()V"⟩
abbrev cX1_clear : ByteArray := prog_3_method_2_code
def yX1_clear : MethodName := ⟨RX1, "clear", "()V"⟩
abbrev cX1_rowCount : ByteArray := prog_3_method_3_code
def yX1_rowCount : MethodName := ⟨RX1, "rowCount", "()I"⟩
abbrev cX1_remainder : ByteArray := prog_3_method_4_code
def yX1_remainder : MethodName := ⟨RX1, "remainder", "(J)J"⟩
abbrev cX1_knownValue : ByteArray := prog_3_method_5_code
def yX1_knownValue : MethodName := ⟨RX1, "knownValue", "(J)I"⟩
abbrev cX1_contradicts : ByteArray := prog_3_method_6_code
def yX1_contradicts : MethodName := ⟨RX1, "contradicts", "(JI)Z"⟩
abbrev cX1_fixes : ByteArray := prog_3_method_7_code
def yX1_fixes : MethodName := ⟨RX1, "fixes", "(I)Z"⟩
abbrev cX1_countLeaving : ByteArray := prog_3_method_8_code
def yX1_countLeaving : MethodName := ⟨RX1, "countLeaving", "(JI)I"⟩
abbrev cX1_addEquation : ByteArray := prog_3_method_9_code
def yX1_addEquation : MethodName := ⟨RX1, "addEquation", "(JI)V"⟩
abbrev cX1_remainderOfBlock : ByteArray := prog_3_method_10_code
def yX1_remainderOfBlock : MethodName := ⟨RX1, "remainderOfBlock", "(I)J"⟩
def RX2 : String := "FountainCode$Peeler"
def TX2 : u_T := fun k => match k with
  | 0 => ("FountainCode$Peeler", "equationSets", "[J", true)
  | 1 => ("FountainCode$Peeler", "equationCount", "I", false)
  | 2 => ("FountainCode$Peeler", "peelOrder", "[I", true)
  | 3 => ("FountainCode$Peeler", "peelEquations", "[I", true)
  | 4 => ("FountainCode$Peeler", "peeledCount", "I", false)
  | _ => ("FountainCode$Peeler", "peeledSet", "J", false)
def tyX2 : Nat → FieldType := fun k => match k with
  | 0 => .array .long
  | 1 => .int
  | 2 => .array .int
  | 3 => .array .int
  | 4 => .int
  | _ => .long
abbrev wsX20 : List Cond := u_ws RX2 TX2 6
theorem nmX2 : ∀ a, a < 6 → ∀ b, b < 6 → a ≠ b → (TX2 a).2.1 ≠ (TX2 b).2.1 := by decide +kernel
theorem tyX2_ok : ∀ k, k < 6 → parseFieldDescriptor (TX2 k).2.2.1 = some (tyX2 k) := by decide +kernel
abbrev cX2_init : ByteArray := prog_4_method_1_code
def yX2_init : MethodName := ⟨RX2, "<init>", "()V"⟩
abbrev cX2_clear : ByteArray := prog_4_method_2_code
def yX2_clear : MethodName := ⟨RX2, "clear", "()V"⟩
abbrev cX2_addEquation : ByteArray := prog_4_method_3_code
def yX2_addEquation : MethodName := ⟨RX2, "addEquation", "(J)V"⟩
abbrev cX2_peelOn : ByteArray := prog_4_method_4_code
def yX2_peelOn : MethodName := ⟨RX2, "peelOn", "()I"⟩
abbrev cX2_equationCount : ByteArray := prog_4_method_5_code
def yX2_equationCount : MethodName := ⟨RX2, "equationCount", "()I"⟩
abbrev cX2_peeledCount : ByteArray := prog_4_method_6_code
def yX2_peeledCount : MethodName := ⟨RX2, "peeledCount", "()I"⟩
abbrev cX2_peeledInPlace : ByteArray := prog_4_method_7_code
def yX2_peeledInPlace : MethodName := ⟨RX2, "peeledInPlace", "(I)I"⟩
abbrev cX2_equationThatPeeled : ByteArray := prog_4_method_8_code
def yX2_equationThatPeeled : MethodName := ⟨RX2, "equationThatPeeled", "(I)I"⟩
abbrev cX2_lowestReady : ByteArray := prog_4_method_9_code
def yX2_lowestReady : MethodName := ⟨RX2, "lowestReady", "()I"⟩
abbrev cX2_peelWith : ByteArray := prog_4_method_10_code
def yX2_peelWith : MethodName := ⟨RX2, "peelWith", "(I)V"⟩
def RX3 : String := "FountainCode$Sender"
def TX3 : u_T := fun k => match k with
  | 0 => ("FountainCode$Sender", "sourceValues", "[I", true)
  | 1 => ("FountainCode$Sender", "sources", "I", false)
  | _ => ("FountainCode$Sender", "parities", "I", false)
def tyX3 : Nat → FieldType := fun k => match k with
  | 0 => .array .int
  | 1 => .int
  | _ => .int
abbrev wsX30 : List Cond := u_ws RX3 TX3 3
theorem nmX3 : ∀ a, a < 3 → ∀ b, b < 3 → a ≠ b → (TX3 a).2.1 ≠ (TX3 b).2.1 := by decide +kernel
theorem tyX3_ok : ∀ k, k < 3 → parseFieldDescriptor (TX3 k).2.2.1 = some (tyX3 k) := by decide +kernel
abbrev cX3_init : ByteArray := prog_5_method_1_code
def yX3_init : MethodName := ⟨RX3, "<init>", "()V"⟩
abbrev cX3_begin : ByteArray := prog_5_method_2_code
def yX3_begin : MethodName := ⟨RX3, "begin", "(II)V"⟩
abbrev cX3_sourceCount : ByteArray := prog_5_method_3_code
def yX3_sourceCount : MethodName := ⟨RX3, "sourceCount", "()I"⟩
abbrev cX3_parityCount : ByteArray := prog_5_method_4_code
def yX3_parityCount : MethodName := ⟨RX3, "parityCount", "()I"⟩
abbrev cX3_blockCount : ByteArray := prog_5_method_5_code
def yX3_blockCount : MethodName := ⟨RX3, "blockCount", "()I"⟩
abbrev cX3_change : ByteArray := prog_5_method_6_code
def yX3_change : MethodName := ⟨RX3, "change", "(II)V"⟩
abbrev cX3_coveredBy : ByteArray := prog_5_method_7_code
def yX3_coveredBy : MethodName := ⟨RX3, "coveredBy", "(I)J"⟩
abbrev cX3_valueOfBlock : ByteArray := prog_5_method_8_code
def yX3_valueOfBlock : MethodName := ⟨RX3, "valueOfBlock", "(I)I"⟩
abbrev cX3_valueOfSet : ByteArray := prog_5_method_9_code
def yX3_valueOfSet : MethodName := ⟨RX3, "valueOfSet", "(J)I"⟩
abbrev cX3_valueOfSources : ByteArray := prog_5_method_10_code
def yX3_valueOfSources : MethodName := ⟨RX3, "valueOfSources", "(J)I"⟩
def RX4 : String := "FountainCode$Weights"
def TX4 : u_T := fun k => match k with
  | _ => ("FountainCode$Weights", "list", "[I", true)
def tyX4 : Nat → FieldType := fun k => match k with
  | _ => .array .int
abbrev wsX40 : List Cond := u_ws RX4 TX4 1
theorem nmX4 : ∀ a, a < 1 → ∀ b, b < 1 → a ≠ b → (TX4 a).2.1 ≠ (TX4 b).2.1 := by decide +kernel
theorem tyX4_ok : ∀ k, k < 1 → parseFieldDescriptor (TX4 k).2.2.1 = some (tyX4 k) := by decide +kernel
abbrev cX4_init : ByteArray := prog_6_method_1_code
def yX4_init : MethodName := ⟨RX4, "<init>", "()V"⟩
abbrev cX4_sum : ByteArray := prog_6_method_2_code
def yX4_sum : MethodName := ⟨RX4, "sum", "()I"⟩
abbrev cX4_weightOf : ByteArray := prog_6_method_3_code
def yX4_weightOf : MethodName := ⟨RX4, "weightOf", "(I)I"⟩
abbrev cX4_change : ByteArray := prog_6_method_4_code
def yX4_change : MethodName := ⟨RX4, "change", "(II)V"⟩
abbrev cX4_degreeFor : ByteArray := prog_6_method_5_code
def yX4_degreeFor : MethodName := ⟨RX4, "degreeFor", "(I)I"⟩
def RX5 : String := "FountainCode"
def TX5 : u_T := fun k => match k with
  | 0 => ("FountainCode", "weights", "LFountainCode$Weights;", true)
  | 1 => ("FountainCode", "sender", "LFountainCode$Sender;", true)
  | 2 => ("FountainCode", "peeler", "LFountainCode$Peeler;", true)
  | 3 => ("FountainCode", "elimination", "LFountainCode$Elimination;", true)
  | _ => ("FountainCode", "scratchDrop", "LFountainCode$Drop;", true)
def tyX5 : Nat → FieldType := fun k => match k with
  | 0 => .object "FountainCode$Weights"
  | 1 => .object "FountainCode$Sender"
  | 2 => .object "FountainCode$Peeler"
  | 3 => .object "FountainCode$Elimination"
  | _ => .object "FountainCode$Drop"
abbrev wsX50 : List Cond := u_ws RX5 TX5 5
theorem nmX5 : ∀ a, a < 5 → ∀ b, b < 5 → a ≠ b → (TX5 a).2.1 ≠ (TX5 b).2.1 := by decide +kernel
theorem tyX5_ok : ∀ k, k < 5 → parseFieldDescriptor (TX5 k).2.2.1 = some (tyX5 k) := by decide +kernel
abbrev cX5_init : ByteArray := prog_1_method_1_code
def yX5_init : MethodName := ⟨RX5, "<init>", "()V"⟩
abbrev cX5_start : ByteArray := prog_1_method_2_code
def yX5_start : MethodName := ⟨RX5, "start", "(II)I"⟩
abbrev cX5_setWeight : ByteArray := prog_1_method_3_code
def yX5_setWeight : MethodName := ⟨RX5, "setWeight", "(II)I"⟩
abbrev cX5_setBlock : ByteArray := prog_1_method_4_code
def yX5_setBlock : MethodName := ⟨RX5, "setBlock", "(II)I"⟩
abbrev cX5_blocks : ByteArray := prog_1_method_5_code
def yX5_blocks : MethodName := ⟨RX5, "blocks", "()I"⟩
abbrev cX5_blockAt : ByteArray := prog_1_method_6_code
def yX5_blockAt : MethodName := ⟨RX5, "blockAt", "(I)I"⟩
abbrev cX5_degree : ByteArray := prog_1_method_7_code
def yX5_degree : MethodName := ⟨RX5, "degree", "(I)I"⟩
abbrev cX5_blockOf : ByteArray := prog_1_method_8_code
def yX5_blockOf : MethodName := ⟨RX5, "blockOf", "(II)I"⟩
abbrev cX5_valueOf : ByteArray := prog_1_method_9_code
def yX5_valueOf : MethodName := ⟨RX5, "valueOf", "(I)I"⟩
abbrev cX5_receive : ByteArray := prog_1_method_10_code
def yX5_receive : MethodName := ⟨RX5, "receive", "(II)I"⟩
abbrev cX5_receiveAll : ByteArray := prog_1_method_11_code
def yX5_receiveAll : MethodName := ⟨RX5, "receiveAll", "(II)I"⟩
abbrev cX5_equations : ByteArray := prog_1_method_12_code
def yX5_equations : MethodName := ⟨RX5, "equations", "()I"⟩
abbrev cX5_rank : ByteArray := prog_1_method_13_code
def yX5_rank : MethodName := ⟨RX5, "rank", "()I"⟩
abbrev cX5_peeled : ByteArray := prog_1_method_14_code
def yX5_peeled : MethodName := ⟨RX5, "peeled", "()I"⟩
abbrev cX5_peeledAt : ByteArray := prog_1_method_15_code
def yX5_peeledAt : MethodName := ⟨RX5, "peeledAt", "(I)I"⟩
abbrev cX5_peeledBy : ByteArray := prog_1_method_16_code
def yX5_peeledBy : MethodName := ⟨RX5, "peeledBy", "(I)I"⟩
abbrev cX5_determined : ByteArray := prog_1_method_17_code
def yX5_determined : MethodName := ⟨RX5, "determined", "()I"⟩
abbrev cX5_isDetermined : ByteArray := prog_1_method_18_code
def yX5_isDetermined : MethodName := ⟨RX5, "isDetermined", "(I)Z"⟩
abbrev cX5_recovered : ByteArray := prog_1_method_19_code
def yX5_recovered : MethodName := ⟨RX5, "recovered", "(I)I"⟩
abbrev cX5_wouldHelp : ByteArray := prog_1_method_20_code
def yX5_wouldHelp : MethodName := ⟨RX5, "wouldHelp", "(I)Z"⟩
abbrev cX5_wouldDetermine : ByteArray := prog_1_method_21_code
def yX5_wouldDetermine : MethodName := ⟨RX5, "wouldDetermine", "(I)I"⟩
abbrev cX5_nextHelpful : ByteArray := prog_1_method_22_code
def yX5_nextHelpful : MethodName := ⟨RX5, "nextHelpful", "(I)I"⟩
abbrev cX5_missing : ByteArray := prog_1_method_23_code
def yX5_missing : MethodName := ⟨RX5, "missing", "()I"⟩
abbrev cX5_beginTransfer : ByteArray := prog_1_method_24_code
def yX5_beginTransfer : MethodName := ⟨RX5, "beginTransfer", "(II)I"⟩
abbrev cX5_isBlock : ByteArray := prog_1_method_25_code
def yX5_isBlock : MethodName := ⟨RX5, "isBlock", "(I)Z"⟩
abbrev cX5_drawn : ByteArray := prog_1_method_26_code
def yX5_drawn : MethodName := ⟨RX5, "drawn", "(I)LFountainCode$Drop;"⟩
abbrev cX5_canTake : ByteArray := prog_1_method_27_code
def yX5_canTake : MethodName := ⟨RX5, "canTake", "(JI)Z"⟩
abbrev cX5_take : ByteArray := prog_1_method_28_code
def yX5_take : MethodName := ⟨RX5, "take", "(JI)I"⟩
abbrev cX5_addEquation : ByteArray := prog_1_method_29_code
def yX5_addEquation : MethodName := ⟨RX5, "addEquation", "(JI)V"⟩
abbrev cX5_setOf : ByteArray := prog_1_method_30_code
def yX5_setOf : MethodName := ⟨RX5, "setOf", "(I)J"⟩
abbrev cX5_holds : ByteArray := prog_1_method_31_code
def yX5_holds : MethodName := ⟨RX5, "holds", "(JI)Z"⟩
abbrev cX5_lowestOf : ByteArray := prog_1_method_32_code
def yX5_lowestOf : MethodName := ⟨RX5, "lowestOf", "(J)I"⟩
def RX6 : String := "FountainCodeModel"
def TX6 : u_T := fun k => match k with
  | 0 => ("FountainCodeModel", "refusal", "I", false)
  | 1 => ("FountainCodeModel", "weights", "[I", true)
  | 2 => ("FountainCodeModel", "sources", "I", false)
  | 3 => ("FountainCodeModel", "blocks", "I", false)
  | 4 => ("FountainCodeModel", "values", "[I", true)
  | 5 => ("FountainCodeModel", "many", "I", false)
  | 6 => ("FountainCodeModel", "drops", "I", false)
  | 7 => ("FountainCodeModel", "masks", "[J", true)
  | 8 => ("FountainCodeModel", "numbers", "[I", true)
  | 9 => ("FountainCodeModel", "peeled", "I", false)
  | 10 => ("FountainCodeModel", "peeledMask", "J", false)
  | 11 => ("FountainCodeModel", "order", "[I", true)
  | 12 => ("FountainCodeModel", "by", "[I", true)
  | 13 => ("FountainCodeModel", "rows", "[J", true)
  | 14 => ("FountainCodeModel", "rowNumbers", "[I", true)
  | 15 => ("FountainCodeModel", "rowsKept", "[J", true)
  | 16 => ("FountainCodeModel", "rowNumbersKept", "[I", true)
  | 17 => ("FountainCodeModel", "reduced", "J", false)
  | 18 => ("FountainCodeModel", "reducedNumber", "I", false)
  | 19 => ("FountainCodeModel", "generator", "J", false)
  | 20 => ("FountainCodeModel", "drawnMany", "I", false)
  | _ => ("FountainCodeModel", "drawn", "[I", true)
def tyX6 : Nat → FieldType := fun k => match k with
  | 0 => .int
  | 1 => .array .int
  | 2 => .int
  | 3 => .int
  | 4 => .array .int
  | 5 => .int
  | 6 => .int
  | 7 => .array .long
  | 8 => .array .int
  | 9 => .int
  | 10 => .long
  | 11 => .array .int
  | 12 => .array .int
  | 13 => .array .long
  | 14 => .array .int
  | 15 => .array .long
  | 16 => .array .int
  | 17 => .long
  | 18 => .int
  | 19 => .long
  | 20 => .int
  | _ => .array .int
abbrev wsX60 : List Cond := u_ws RX6 TX6 22
theorem nmX6 : ∀ a, a < 22 → ∀ b, b < 22 → a ≠ b → (TX6 a).2.1 ≠ (TX6 b).2.1 := by decide +kernel
theorem tyX6_ok : ∀ k, k < 22 → parseFieldDescriptor (TX6 k).2.2.1 = some (tyX6 k) := by decide +kernel
abbrev cX6_init : ByteArray := prog_8_method_1_code
def yX6_init : MethodName := ⟨RX6, "<init>", "()V"⟩
abbrev cX6_thrown : ByteArray := prog_8_method_2_code
def yX6_thrown : MethodName := ⟨RX6, "thrown", "()I"⟩
abbrev cX6_refused : ByteArray := prog_8_method_3_code
def yX6_refused : MethodName := ⟨RX6, "refused", "(I)Z"⟩
abbrev cX6_told : ByteArray := prog_8_method_4_code
def yX6_told : MethodName := ⟨RX6, "told", "(I)I"⟩
abbrev cX6_within : ByteArray := prog_8_method_5_code
def yX6_within : MethodName := ⟨RX6, "within", "(III)Z"⟩
abbrev cX6_isBlock : ByteArray := prog_8_method_6_code
def yX6_isBlock : MethodName := ⟨RX6, "isBlock", "(I)Z"⟩
abbrev cX6_noBlock : ByteArray := prog_8_method_7_code
def yX6_noBlock : MethodName := ⟨RX6, "noBlock", "(I)Z"⟩
abbrev cX6_clear : ByteArray := prog_8_method_8_code
def yX6_clear : MethodName := ⟨RX6, "clear", "()V"⟩
abbrev cX6_covers : ByteArray := prog_8_method_9_code
def yX6_covers : MethodName := ⟨RX6, "covers", "(II)Z"⟩
abbrev cX6_valueAt : ByteArray := prog_8_method_10_code
def yX6_valueAt : MethodName := ⟨RX6, "valueAt", "(I)I"⟩
abbrev cX6_draw : ByteArray := prog_8_method_11_code
def yX6_draw : MethodName := ⟨RX6, "draw", "(I)I"⟩
abbrev cX6_drawDrop : ByteArray := prog_8_method_12_code
def yX6_drawDrop : MethodName := ⟨RX6, "drawDrop", "(I)V"⟩
abbrev cX6_maskOf : ByteArray := prog_8_method_13_code
def yX6_maskOf : MethodName := ⟨RX6, "maskOf", "(I)J"⟩
abbrev cX6_numberOf : ByteArray := prog_8_method_14_code
def yX6_numberOf : MethodName := ⟨RX6, "numberOf", "(I)I"⟩
abbrev cX6_reduce : ByteArray := prog_8_method_15_code
def yX6_reduce : MethodName := ⟨RX6, "reduce", "(JI)V"⟩
abbrev cX6_layRow : ByteArray := prog_8_method_16_code
def yX6_layRow : MethodName := ⟨RX6, "layRow", "()V"⟩
abbrev cX6_addEquation : ByteArray := prog_8_method_17_code
def yX6_addEquation : MethodName := ⟨RX6, "addEquation", "(JI)V"⟩
abbrev cX6_peel : ByteArray := prog_8_method_18_code
def yX6_peel : MethodName := ⟨RX6, "peel", "()I"⟩
abbrev cX6_rankOf : ByteArray := prog_8_method_19_code
def yX6_rankOf : MethodName := ⟨RX6, "rankOf", "()I"⟩
abbrev cX6_determinedMany : ByteArray := prog_8_method_20_code
def yX6_determinedMany : MethodName := ⟨RX6, "determinedMany", "()I"⟩
abbrev cX6_start : ByteArray := prog_8_method_21_code
def yX6_start : MethodName := ⟨RX6, "start", "(II)I"⟩
abbrev cX6_setWeight : ByteArray := prog_8_method_22_code
def yX6_setWeight : MethodName := ⟨RX6, "setWeight", "(II)I"⟩
abbrev cX6_setBlock : ByteArray := prog_8_method_23_code
def yX6_setBlock : MethodName := ⟨RX6, "setBlock", "(II)I"⟩
abbrev cX6_blocks : ByteArray := prog_8_method_24_code
def yX6_blocks : MethodName := ⟨RX6, "blocks", "()I"⟩
abbrev cX6_blockAt : ByteArray := prog_8_method_25_code
def yX6_blockAt : MethodName := ⟨RX6, "blockAt", "(I)I"⟩
abbrev cX6_degree : ByteArray := prog_8_method_26_code
def yX6_degree : MethodName := ⟨RX6, "degree", "(I)I"⟩
abbrev cX6_blockOf : ByteArray := prog_8_method_27_code
def yX6_blockOf : MethodName := ⟨RX6, "blockOf", "(II)I"⟩
abbrev cX6_valueOf : ByteArray := prog_8_method_28_code
def yX6_valueOf : MethodName := ⟨RX6, "valueOf", "(I)I"⟩
abbrev cX6_isRefused : ByteArray := prog_8_method_29_code
def yX6_isRefused : MethodName := ⟨RX6, "isRefused", "(II)Z"⟩
abbrev cX6_take : ByteArray := prog_8_method_30_code
def yX6_take : MethodName := ⟨RX6, "take", "(II)I"⟩
abbrev cX6_receive : ByteArray := prog_8_method_31_code
def yX6_receive : MethodName := ⟨RX6, "receive", "(II)I"⟩
abbrev cX6_receiveAll : ByteArray := prog_8_method_32_code
def yX6_receiveAll : MethodName := ⟨RX6, "receiveAll", "(II)I"⟩
abbrev cX6_equations : ByteArray := prog_8_method_33_code
def yX6_equations : MethodName := ⟨RX6, "equations", "()I"⟩
abbrev cX6_rank : ByteArray := prog_8_method_34_code
def yX6_rank : MethodName := ⟨RX6, "rank", "()I"⟩
abbrev cX6_peeled : ByteArray := prog_8_method_35_code
def yX6_peeled : MethodName := ⟨RX6, "peeled", "()I"⟩
abbrev cX6_peeledAt : ByteArray := prog_8_method_36_code
def yX6_peeledAt : MethodName := ⟨RX6, "peeledAt", "(I)I"⟩
abbrev cX6_peeledBy : ByteArray := prog_8_method_37_code
def yX6_peeledBy : MethodName := ⟨RX6, "peeledBy", "(I)I"⟩
abbrev cX6_determined : ByteArray := prog_8_method_38_code
def yX6_determined : MethodName := ⟨RX6, "determined", "()I"⟩
abbrev cX6_isKnown : ByteArray := prog_8_method_39_code
def yX6_isKnown : MethodName := ⟨RX6, "isKnown", "(I)Z"⟩
abbrev cX6_isDetermined : ByteArray := prog_8_method_40_code
def yX6_isDetermined : MethodName := ⟨RX6, "isDetermined", "(I)Z"⟩
abbrev cX6_recovered : ByteArray := prog_8_method_41_code
def yX6_recovered : MethodName := ⟨RX6, "recovered", "(I)I"⟩
abbrev cX6_helps : ByteArray := prog_8_method_42_code
def yX6_helps : MethodName := ⟨RX6, "helps", "(I)Z"⟩
abbrev cX6_wouldHelp : ByteArray := prog_8_method_43_code
def yX6_wouldHelp : MethodName := ⟨RX6, "wouldHelp", "(I)Z"⟩
abbrev cX6_wouldDetermine : ByteArray := prog_8_method_44_code
def yX6_wouldDetermine : MethodName := ⟨RX6, "wouldDetermine", "(I)I"⟩
abbrev cX6_nextHelpful : ByteArray := prog_8_method_45_code
def yX6_nextHelpful : MethodName := ⟨RX6, "nextHelpful", "(I)I"⟩
abbrev cX6_missing : ByteArray := prog_8_method_46_code
def yX6_missing : MethodName := ⟨RX6, "missing", "()I"⟩
def RJx145de : String := "java/io/Serializable"
def TJx145de : u_T := fun k => match k with
  | _ => ("", "", "", false)
def tyJx145de : Nat → FieldType := fun k => match k with
  | _ => .int
abbrev wsJx145de0 : List Cond := u_ws RJx145de TJx145de 0
theorem nmJx145de : ∀ a, a < 0 → ∀ b, b < 0 → a ≠ b → (TJx145de a).2.1 ≠ (TJx145de b).2.1 := by decide +kernel
theorem tyJx145de_ok : ∀ k, k < 0 → parseFieldDescriptor (TJx145de k).2.2.1 = some (tyJx145de k) := by decide +kernel
def RJx8e188 : String := "java/lang/Cloneable"
def TJx8e188 : u_T := fun k => match k with
  | _ => ("", "", "", false)
def tyJx8e188 : Nat → FieldType := fun k => match k with
  | _ => .int
abbrev wsJx8e1880 : List Cond := u_ws RJx8e188 TJx8e188 0
theorem nmJx8e188 : ∀ a, a < 0 → ∀ b, b < 0 → a ≠ b → (TJx8e188 a).2.1 ≠ (TJx8e188 b).2.1 := by decide +kernel
theorem tyJx8e188_ok : ∀ k, k < 0 → parseFieldDescriptor (TJx8e188 k).2.2.1 = some (tyJx8e188 k) := by decide +kernel
def RJ13 : String := "java/lang/Long"
def TJ13 : u_T := fun k => match k with
  | _ => ("", "", "", false)
def tyJ13 : Nat → FieldType := fun k => match k with
  | _ => .int
abbrev wsJ130 : List Cond := u_ws RJ13 TJ13 0
theorem nmJ13 : ∀ a, a < 0 → ∀ b, b < 0 → a ≠ b → (TJ13 a).2.1 ≠ (TJ13 b).2.1 := by decide +kernel
theorem tyJ13_ok : ∀ k, k < 0 → parseFieldDescriptor (TJ13 k).2.2.1 = some (tyJ13 k) := by decide +kernel
abbrev cJ13_bitCount_95d88 : ByteArray := prog_14_method_50_code
def yJ13_bitCount_95d88 : MethodName := ⟨RJ13, "bitCount", "(J)I"⟩
def RJ9 : String := "java/lang/Math"
def TJ9 : u_T := fun k => match k with
  | _ => ("", "", "", false)
def tyJ9 : Nat → FieldType := fun k => match k with
  | _ => .int
abbrev wsJ90 : List Cond := u_ws RJ9 TJ9 0
theorem nmJ9 : ∀ a, a < 0 → ∀ b, b < 0 → a ≠ b → (TJ9 a).2.1 ≠ (TJ9 b).2.1 := by decide +kernel
theorem tyJ9_ok : ∀ k, k < 0 → parseFieldDescriptor (TJ9 k).2.2.1 = some (tyJ9 k) := by decide +kernel
abbrev cJ9_min_7cf53 : ByteArray := prog_15_method_69_code
def yJ9_min_7cf53 : MethodName := ⟨RJ9, "min", "(II)I"⟩
def RJ0 : String := "java/lang/String"
def TJ0 : u_T := fun k => match k with
  | _ => ("", "", "", false)
def tyJ0 : Nat → FieldType := fun k => match k with
  | _ => .int
abbrev wsJ00 : List Cond := u_ws RJ0 TJ0 0
theorem nmJ0 : ∀ a, a < 0 → ∀ b, b < 0 → a ≠ b → (TJ0 a).2.1 ≠ (TJ0 b).2.1 := by decide +kernel
theorem tyJ0_ok : ∀ k, k < 0 → parseFieldDescriptor (TJ0 k).2.2.1 = some (tyJ0 k) := by decide +kernel
def RJ7 : String := "java/util/Arrays"
def TJ7 : u_T := fun k => match k with
  | _ => ("", "", "", false)
def tyJ7 : Nat → FieldType := fun k => match k with
  | _ => .int
abbrev wsJ70 : List Cond := u_ws RJ7 TJ7 0
theorem nmJ7 : ∀ a, a < 0 → ∀ b, b < 0 → a ≠ b → (TJ7 a).2.1 ≠ (TJ7 b).2.1 := by decide +kernel
theorem tyJ7_ok : ∀ k, k < 0 → parseFieldDescriptor (TJ7 k).2.2.1 = some (tyJ7 k) := by decide +kernel
abbrev cJ7_fill_d0a16 : ByteArray := prog_19_method_101_code
def yJ7_fill_d0a16 : MethodName := ⟨RJ7, "fill", "([JJ)V"⟩
abbrev cJ7_fill_53178 : ByteArray := prog_19_method_103_code
def yJ7_fill_53178 : MethodName := ⟨RJ7, "fill", "([II)V"⟩
def RL : String := "FountainCodeLaw"
abbrev cL_start : ByteArray := method_3_code
def yL_start : MethodName := ⟨RL, "start", "(LFountainCode;II[J)I"⟩
abbrev cL_setWeight : ByteArray := method_4_code
def yL_setWeight : MethodName := ⟨RL, "setWeight", "(LFountainCode;II[J)I"⟩
abbrev cL_setBlock : ByteArray := method_5_code
def yL_setBlock : MethodName := ⟨RL, "setBlock", "(LFountainCode;II[J)I"⟩
abbrev cL_blockAt : ByteArray := method_6_code
def yL_blockAt : MethodName := ⟨RL, "blockAt", "(LFountainCode;I[J)I"⟩
abbrev cL_blockOf : ByteArray := method_7_code
def yL_blockOf : MethodName := ⟨RL, "blockOf", "(LFountainCode;II[J)I"⟩
abbrev cL_receive : ByteArray := method_8_code
def yL_receive : MethodName := ⟨RL, "receive", "(LFountainCode;II[J)I"⟩
abbrev cL_receiveAll : ByteArray := method_9_code
def yL_receiveAll : MethodName := ⟨RL, "receiveAll", "(LFountainCode;II[J)I"⟩
abbrev cL_peeledAt : ByteArray := method_10_code
def yL_peeledAt : MethodName := ⟨RL, "peeledAt", "(LFountainCode;I[J)I"⟩
abbrev cL_peeledBy : ByteArray := method_11_code
def yL_peeledBy : MethodName := ⟨RL, "peeledBy", "(LFountainCode;I[J)I"⟩
abbrev cL_isDetermined : ByteArray := method_12_code
def yL_isDetermined : MethodName := ⟨RL, "isDetermined", "(LFountainCode;I[J)I"⟩
abbrev cL_recovered : ByteArray := method_13_code
def yL_recovered : MethodName := ⟨RL, "recovered", "(LFountainCode;I[J)I"⟩
abbrev cL_law : ByteArray := code
def yL_law : MethodName := ⟨RL, "law", "([I)Z"⟩
def wsX0_init : List Cond := .code yX0_init cX0_init 1 none :: ([.methodLink RX0 3 objectInit, .instanceMethod objectInit, .code objectInit ⟨#[0xb1]⟩ 1 none, .arrayClass .int, .fieldLink RX0 9 "FountainCode$Drop" "row" "[I"] ++ wsX00)
def wsX4_sum : List Cond := .code yX4_sum cX4_sum 3 (some .int) :: ([.fieldLink RX4 20 "FountainCode$Weights" "list" "[I"] ++ wsX40)
def wsX0_numberBelow : List Cond := .code yX0_numberBelow cX0_numberBelow 2 (some .int) :: ([.fieldLink RX0 15 "FountainCode$Drop" "generator" "J", .constantLong RX0 57 (6364136223846793005), .constantLong RX0 59 (1442695040888963407)] ++ wsX00)
def wsX4_degreeFor : List Cond := .code yX4_degreeFor cX4_degreeFor 4 (some .int) :: ([.fieldLink RX4 20 "FountainCode$Weights" "list" "[I"] ++ wsX40)
def wsX0_lineUp : List Cond := .code yX0_lineUp cX0_lineUp 3 none :: ([.fieldLink RX0 9 "FountainCode$Drop" "row" "[I"] ++ wsX00)
def wsX0_swap : List Cond := .code yX0_swap cX0_swap 4 none :: ([.fieldLink RX0 9 "FountainCode$Drop" "row" "[I"] ++ wsX00)
def wsX5_setOf : List Cond := .code yX5_setOf cX5_setOf 1 (some .long) :: ([])
def wsX0_draw_r1 : List Cond := [Cond.fieldLink RX0 15 "FountainCode$Drop" "generator" "J", Cond.methodLink RX0 32 Lib.Math.min.name, Cond.static Lib.Math.min.name, Cond.initialized "java/lang/Math", Cond.code Lib.Math.min.name Lib.Math.min.code 2 (some .int), Cond.fieldLink RX0 38 "FountainCode$Drop" "size" "I", Cond.fieldLink RX0 46 "FountainCode$Drop" "blockSet" "J", Cond.fieldLink RX0 9 "FountainCode$Drop" "row" "[I", Cond.methodLink RX0 19 yX4_sum, Cond.instanceMethod yX4_sum, Cond.selects RX4 yX4_sum yX4_sum, Cond.initialized RX4, Cond.code yX4_sum cX4_sum 3 (some .int), Cond.fieldLink RX4 20 "FountainCode$Weights" "list" "[I", Cond.methodLink RX0 25 yX0_numberBelow, Cond.instanceMethod yX0_numberBelow, Cond.selects RX0 yX0_numberBelow yX0_numberBelow, Cond.initialized RX0, Cond.code yX0_numberBelow cX0_numberBelow 2 (some .int), Cond.constantLong RX0 57 (6364136223846793005), Cond.constantLong RX0 59 (1442695040888963407), Cond.methodLink RX0 29 yX4_degreeFor, Cond.instanceMethod yX4_degreeFor, Cond.selects RX4 yX4_degreeFor yX4_degreeFor]
def wsX0_draw_r2 : List Cond := [Cond.code yX4_degreeFor cX4_degreeFor 4 (some .int), Cond.methodLink RX0 42 yX0_lineUp, Cond.instanceMethod yX0_lineUp, Cond.selects RX0 yX0_lineUp yX0_lineUp, Cond.code yX0_lineUp cX0_lineUp 3 none, Cond.methodLink RX0 49 yX0_swap, Cond.instanceMethod yX0_swap, Cond.selects RX0 yX0_swap yX0_swap, Cond.code yX0_swap cX0_swap 4 none, Cond.static yX5_setOf, Cond.initialized RX5, Cond.code yX5_setOf cX5_setOf 1 (some .long)]
def wsX0_draw : List Cond := .code yX0_draw cX0_draw 5 none :: ((wsX0_draw_r1 ++ wsX0_draw_r2) ++ wsX00 ++ wsX40)
def wsX0_size : List Cond := .code yX0_size cX0_size 1 (some .int) :: ([.fieldLink RX0 38 "FountainCode$Drop" "size" "I"] ++ wsX00)
def wsX0_blockSet : List Cond := .code yX0_blockSet cX0_blockSet 1 (some .long) :: ([.fieldLink RX0 46 "FountainCode$Drop" "blockSet" "J"] ++ wsX00)
def wsX0_blockInPlace : List Cond := .code yX0_blockInPlace cX0_blockInPlace 2 (some .int) :: ([.fieldLink RX0 9 "FountainCode$Drop" "row" "[I"] ++ wsX00)
def wsX1_init : List Cond := .code yX1_init cX1_init 1 none :: ([.methodLink RX1 3 objectInit, .instanceMethod objectInit, .code objectInit ⟨#[0xb1]⟩ 1 none, .arrayClass .long, .fieldLink RX1 9 "FountainCode$Elimination" "rows" "[J", .arrayClass .int, .fieldLink RX1 15 "FountainCode$Elimination" "values" "[I"] ++ wsX10)
def wsJ7_fill_d0a16 : List Cond := .code yJ7_fill_d0a16 cJ7_fill_d0a16 5 none :: ([])
def wsJ7_fill_53178 : List Cond := .code yJ7_fill_53178 cJ7_fill_53178 4 none :: ([])
def wsX1_clear : List Cond := .code yX1_clear cX1_clear 1 none :: ([.fieldLink RX1 19 "FountainCode$Elimination" "rowCount" "I", .fieldLink RX1 9 "FountainCode$Elimination" "rows" "[J", .fieldLink RX1 15 "FountainCode$Elimination" "values" "[I", .methodLink RX1 23 yJ7_fill_d0a16, .static yJ7_fill_d0a16, .initialized RJ7, .code yJ7_fill_d0a16 cJ7_fill_d0a16 5 none, .methodLink RX1 29 yJ7_fill_53178, .static yJ7_fill_53178, .code yJ7_fill_53178 cJ7_fill_53178 4 none] ++ wsX10)
def wsX1_rowCount : List Cond := .code yX1_rowCount cX1_rowCount 1 (some .int) :: ([.fieldLink RX1 19 "FountainCode$Elimination" "rowCount" "I"] ++ wsX10)
def wsX5_holds : List Cond := .code yX5_holds cX5_holds 3 (some .boolean) :: ([.methodLink RX5 150 yX5_setOf, .static yX5_setOf, .initialized RX5, .code yX5_setOf cX5_setOf 1 (some .long)])
def wsX1_remainder : List Cond := .code yX1_remainder cX1_remainder 6 (some .long) :: ([.fieldLink RX1 9 "FountainCode$Elimination" "rows" "[J", .static yX5_holds, .initialized RX5, .code yX5_holds cX5_holds 3 (some .boolean), .methodLink RX5 150 yX5_setOf, .static yX5_setOf, .code yX5_setOf cX5_setOf 1 (some .long)] ++ wsX10)
def wsX1_knownValue : List Cond := .code yX1_knownValue cX1_knownValue 5 (some .int) :: ([.fieldLink RX1 15 "FountainCode$Elimination" "values" "[I", .static yX5_holds, .initialized RX5, .code yX5_holds cX5_holds 3 (some .boolean), .methodLink RX5 150 yX5_setOf, .static yX5_setOf, .code yX5_setOf cX5_setOf 1 (some .long)] ++ wsX10)
def wsX1_contradicts : List Cond := .code yX1_contradicts cX1_contradicts 4 (some .boolean) :: ([.methodLink RX1 36 yX1_remainder, .instanceMethod yX1_remainder, .selects RX1 yX1_remainder yX1_remainder, .initialized RX1, .code yX1_remainder cX1_remainder 6 (some .long), .fieldLink RX1 9 "FountainCode$Elimination" "rows" "[J", .static yX5_holds, .initialized RX5, .code yX5_holds cX5_holds 3 (some .boolean), .methodLink RX5 150 yX5_setOf, .static yX5_setOf, .code yX5_setOf cX5_setOf 1 (some .long), .methodLink RX1 40 yX1_knownValue, .instanceMethod yX1_knownValue, .selects RX1 yX1_knownValue yX1_knownValue, .code yX1_knownValue cX1_knownValue 5 (some .int), .fieldLink RX1 15 "FountainCode$Elimination" "values" "[I"] ++ wsX10)
def wsX1_remainderOfBlock : List Cond := .code yX1_remainderOfBlock cX1_remainderOfBlock 4 (some .long) :: ([.fieldLink RX1 9 "FountainCode$Elimination" "rows" "[J", .static yX5_setOf, .initialized RX5, .code yX5_setOf cX5_setOf 1 (some .long)] ++ wsX10)
def wsX1_fixes : List Cond := .code yX1_fixes cX1_fixes 2 (some .boolean) :: ([.methodLink RX1 44 yX1_remainderOfBlock, .instanceMethod yX1_remainderOfBlock, .selects RX1 yX1_remainderOfBlock yX1_remainderOfBlock, .initialized RX1, .code yX1_remainderOfBlock cX1_remainderOfBlock 4 (some .long), .fieldLink RX1 9 "FountainCode$Elimination" "rows" "[J", .static yX5_setOf, .initialized RX5, .code yX5_setOf cX5_setOf 1 (some .long)] ++ wsX10)
def wsX1_countLeaving : List Cond := .code yX1_countLeaving cX1_countLeaving 6 (some .int) :: ([.methodLink RX1 44 yX1_remainderOfBlock, .instanceMethod yX1_remainderOfBlock, .selects RX1 yX1_remainderOfBlock yX1_remainderOfBlock, .initialized RX1, .code yX1_remainderOfBlock cX1_remainderOfBlock 4 (some .long), .fieldLink RX1 9 "FountainCode$Elimination" "rows" "[J", .static yX5_setOf, .initialized RX5, .code yX5_setOf cX5_setOf 1 (some .long)] ++ wsX10)
def wsJ13_bitCount_95d88 : List Cond := .code yJ13_bitCount_95d88 cJ13_bitCount_95d88 2 (some .int) :: ([.constantLong RJ13 314 (6148914691236517205), .constantLong RJ13 316 (3689348814741910323), .constantLong RJ13 318 (1085102592571150095)])
def wsX5_lowestOf : List Cond := .code yX5_lowestOf cX5_lowestOf 2 (some .int) :: ([.methodLink RX5 198 yJ13_bitCount_95d88, .static yJ13_bitCount_95d88, .initialized RJ13, .code yJ13_bitCount_95d88 cJ13_bitCount_95d88 2 (some .int), .constantLong RJ13 314 (6148914691236517205), .constantLong RJ13 316 (3689348814741910323), .constantLong RJ13 318 (1085102592571150095)])
def wsX1_addEquation_r1 : List Cond := [Cond.fieldLink RX1 9 "FountainCode$Elimination" "rows" "[J", Cond.fieldLink RX1 15 "FountainCode$Elimination" "values" "[I", Cond.fieldLink RX1 19 "FountainCode$Elimination" "rowCount" "I", Cond.methodLink RX1 36 yX1_remainder, Cond.instanceMethod yX1_remainder, Cond.selects RX1 yX1_remainder yX1_remainder, Cond.initialized RX1, Cond.code yX1_remainder cX1_remainder 6 (some .long), Cond.static yX5_holds, Cond.initialized RX5, Cond.code yX5_holds cX5_holds 3 (some .boolean), Cond.methodLink RX5 150 yX5_setOf, Cond.static yX5_setOf, Cond.code yX5_setOf cX5_setOf 1 (some .long), Cond.static yX5_lowestOf, Cond.code yX5_lowestOf cX5_lowestOf 2 (some .int), Cond.methodLink RX5 198 yJ13_bitCount_95d88, Cond.static yJ13_bitCount_95d88, Cond.initialized RJ13, Cond.code yJ13_bitCount_95d88 cJ13_bitCount_95d88 2 (some .int), Cond.constantLong RJ13 314 (6148914691236517205), Cond.constantLong RJ13 316 (3689348814741910323), Cond.constantLong RJ13 318 (1085102592571150095), Cond.methodLink RX1 40 yX1_knownValue]
def wsX1_addEquation_r2 : List Cond := [Cond.instanceMethod yX1_knownValue, Cond.selects RX1 yX1_knownValue yX1_knownValue, Cond.code yX1_knownValue cX1_knownValue 5 (some .int)]
def wsX1_addEquation : List Cond := .code yX1_addEquation cX1_addEquation 9 none :: ((wsX1_addEquation_r1 ++ wsX1_addEquation_r2) ++ wsX10)
def wsX2_init : List Cond := .code yX2_init cX2_init 1 none :: ([.methodLink RX2 3 objectInit, .instanceMethod objectInit, .code objectInit ⟨#[0xb1]⟩ 1 none, .arrayClass .long, .fieldLink RX2 9 "FountainCode$Peeler" "equationSets" "[J", .arrayClass .int, .fieldLink RX2 15 "FountainCode$Peeler" "peelOrder" "[I", .fieldLink RX2 19 "FountainCode$Peeler" "peelEquations" "[I"] ++ wsX20)
def wsX2_clear : List Cond := .code yX2_clear cX2_clear 1 none :: ([.fieldLink RX2 22 "FountainCode$Peeler" "equationCount" "I", .fieldLink RX2 26 "FountainCode$Peeler" "peeledCount" "I", .fieldLink RX2 29 "FountainCode$Peeler" "peeledSet" "J", .fieldLink RX2 19 "FountainCode$Peeler" "peelEquations" "[I", .methodLink RX2 33 yJ7_fill_53178, .static yJ7_fill_53178, .initialized RJ7, .code yJ7_fill_53178 cJ7_fill_53178 4 none] ++ wsX20)
def wsX2_addEquation : List Cond := .code yX2_addEquation cX2_addEquation 3 none :: ([.fieldLink RX2 22 "FountainCode$Peeler" "equationCount" "I", .fieldLink RX2 9 "FountainCode$Peeler" "equationSets" "[J"] ++ wsX20)
def wsX2_lowestReady : List Cond := .code yX2_lowestReady cX2_lowestReady 2 (some .int) :: ([.fieldLink RX2 22 "FountainCode$Peeler" "equationCount" "I", .fieldLink RX2 9 "FountainCode$Peeler" "equationSets" "[J", .fieldLink RX2 29 "FountainCode$Peeler" "peeledSet" "J", .constantLong RX2 47 (-1), .methodLink RX2 49 yJ13_bitCount_95d88, .static yJ13_bitCount_95d88, .initialized RJ13, .code yJ13_bitCount_95d88 cJ13_bitCount_95d88 2 (some .int), .constantLong RJ13 314 (6148914691236517205), .constantLong RJ13 316 (3689348814741910323), .constantLong RJ13 318 (1085102592571150095)] ++ wsX20)
def wsX2_peelWith : List Cond := .code yX2_peelWith cX2_peelWith 3 none :: ([.fieldLink RX2 9 "FountainCode$Peeler" "equationSets" "[J", .fieldLink RX2 29 "FountainCode$Peeler" "peeledSet" "J", .constantLong RX2 47 (-1), .fieldLink RX2 26 "FountainCode$Peeler" "peeledCount" "I", .fieldLink RX2 15 "FountainCode$Peeler" "peelOrder" "[I", .fieldLink RX2 19 "FountainCode$Peeler" "peelEquations" "[I", .static yX5_lowestOf, .initialized RX5, .code yX5_lowestOf cX5_lowestOf 2 (some .int), .methodLink RX5 198 yJ13_bitCount_95d88, .static yJ13_bitCount_95d88, .initialized RJ13, .code yJ13_bitCount_95d88 cJ13_bitCount_95d88 2 (some .int), .constantLong RJ13 314 (6148914691236517205), .constantLong RJ13 316 (3689348814741910323), .constantLong RJ13 318 (1085102592571150095), .static yX5_setOf, .code yX5_setOf cX5_setOf 1 (some .long)] ++ wsX20)
def wsX2_peelOn_r1 : List Cond := [Cond.fieldLink RX2 26 "FountainCode$Peeler" "peeledCount" "I", Cond.methodLink RX2 39 yX2_lowestReady, Cond.instanceMethod yX2_lowestReady, Cond.selects RX2 yX2_lowestReady yX2_lowestReady, Cond.initialized RX2, Cond.code yX2_lowestReady cX2_lowestReady 2 (some .int), Cond.fieldLink RX2 22 "FountainCode$Peeler" "equationCount" "I", Cond.fieldLink RX2 9 "FountainCode$Peeler" "equationSets" "[J", Cond.fieldLink RX2 29 "FountainCode$Peeler" "peeledSet" "J", Cond.constantLong RX2 47 (-1), Cond.methodLink RX2 49 yJ13_bitCount_95d88, Cond.static yJ13_bitCount_95d88, Cond.initialized RJ13, Cond.code yJ13_bitCount_95d88 cJ13_bitCount_95d88 2 (some .int), Cond.constantLong RJ13 314 (6148914691236517205), Cond.constantLong RJ13 316 (3689348814741910323), Cond.constantLong RJ13 318 (1085102592571150095), Cond.methodLink RX2 43 yX2_peelWith, Cond.instanceMethod yX2_peelWith, Cond.selects RX2 yX2_peelWith yX2_peelWith, Cond.code yX2_peelWith cX2_peelWith 3 none, Cond.fieldLink RX2 15 "FountainCode$Peeler" "peelOrder" "[I", Cond.fieldLink RX2 19 "FountainCode$Peeler" "peelEquations" "[I", Cond.static yX5_lowestOf]
def wsX2_peelOn_r2 : List Cond := [Cond.initialized RX5, Cond.code yX5_lowestOf cX5_lowestOf 2 (some .int), Cond.methodLink RX5 198 yJ13_bitCount_95d88, Cond.static yX5_setOf, Cond.code yX5_setOf cX5_setOf 1 (some .long)]
def wsX2_peelOn : List Cond := .code yX2_peelOn cX2_peelOn 4 (some .int) :: ((wsX2_peelOn_r1 ++ wsX2_peelOn_r2) ++ wsX20)
def wsX2_equationCount : List Cond := .code yX2_equationCount cX2_equationCount 1 (some .int) :: ([.fieldLink RX2 22 "FountainCode$Peeler" "equationCount" "I"] ++ wsX20)
def wsX2_peeledCount : List Cond := .code yX2_peeledCount cX2_peeledCount 1 (some .int) :: ([.fieldLink RX2 26 "FountainCode$Peeler" "peeledCount" "I"] ++ wsX20)
def wsX2_peeledInPlace : List Cond := .code yX2_peeledInPlace cX2_peeledInPlace 2 (some .int) :: ([.fieldLink RX2 15 "FountainCode$Peeler" "peelOrder" "[I"] ++ wsX20)
def wsX2_equationThatPeeled : List Cond := .code yX2_equationThatPeeled cX2_equationThatPeeled 2 (some .int) :: ([.fieldLink RX2 19 "FountainCode$Peeler" "peelEquations" "[I"] ++ wsX20)
def wsX3_init : List Cond := .code yX3_init cX3_init 1 none :: ([.methodLink RX3 3 objectInit, .instanceMethod objectInit, .code objectInit ⟨#[0xb1]⟩ 1 none, .arrayClass .int, .fieldLink RX3 9 "FountainCode$Sender" "sourceValues" "[I"] ++ wsX30)
def wsX3_begin : List Cond := .code yX3_begin cX3_begin 3 none :: ([.fieldLink RX3 15 "FountainCode$Sender" "sources" "I", .fieldLink RX3 19 "FountainCode$Sender" "parities" "I", .fieldLink RX3 9 "FountainCode$Sender" "sourceValues" "[I", .methodLink RX3 22 yJ7_fill_53178, .static yJ7_fill_53178, .initialized RJ7, .code yJ7_fill_53178 cJ7_fill_53178 4 none] ++ wsX30)
def wsX3_sourceCount : List Cond := .code yX3_sourceCount cX3_sourceCount 1 (some .int) :: ([.fieldLink RX3 15 "FountainCode$Sender" "sources" "I"] ++ wsX30)
def wsX3_parityCount : List Cond := .code yX3_parityCount cX3_parityCount 1 (some .int) :: ([.fieldLink RX3 19 "FountainCode$Sender" "parities" "I"] ++ wsX30)
def wsX3_blockCount : List Cond := .code yX3_blockCount cX3_blockCount 1 (some .int) :: ([.fieldLink RX3 15 "FountainCode$Sender" "sources" "I", .fieldLink RX3 19 "FountainCode$Sender" "parities" "I"] ++ wsX30)
def wsX3_change : List Cond := .code yX3_change cX3_change 3 none :: ([.fieldLink RX3 9 "FountainCode$Sender" "sourceValues" "[I"] ++ wsX30)
def wsX3_coveredBy : List Cond := .code yX3_coveredBy cX3_coveredBy 5 (some .long) :: ([.fieldLink RX3 15 "FountainCode$Sender" "sources" "I", .static yX5_setOf, .initialized RX5, .code yX5_setOf cX5_setOf 1 (some .long)] ++ wsX30)
def wsX3_valueOfSources : List Cond := .code yX3_valueOfSources cX3_valueOfSources 5 (some .int) :: ([.fieldLink RX3 15 "FountainCode$Sender" "sources" "I", .fieldLink RX3 9 "FountainCode$Sender" "sourceValues" "[I", .static yX5_holds, .initialized RX5, .code yX5_holds cX5_holds 3 (some .boolean), .methodLink RX5 150 yX5_setOf, .static yX5_setOf, .code yX5_setOf cX5_setOf 1 (some .long)] ++ wsX30)
def wsX3_valueOfBlock : List Cond := .code yX3_valueOfBlock cX3_valueOfBlock 2 (some .int) :: ([.fieldLink RX3 15 "FountainCode$Sender" "sources" "I", .methodLink RX3 32 yX3_coveredBy, .instanceMethod yX3_coveredBy, .selects RX3 yX3_coveredBy yX3_coveredBy, .initialized RX3, .code yX3_coveredBy cX3_coveredBy 5 (some .long), .static yX5_setOf, .initialized RX5, .code yX5_setOf cX5_setOf 1 (some .long), .methodLink RX3 35 yX3_valueOfSources, .instanceMethod yX3_valueOfSources, .selects RX3 yX3_valueOfSources yX3_valueOfSources, .code yX3_valueOfSources cX3_valueOfSources 5 (some .int), .fieldLink RX3 9 "FountainCode$Sender" "sourceValues" "[I", .static yX5_holds, .code yX5_holds cX5_holds 3 (some .boolean), .methodLink RX5 150 yX5_setOf] ++ wsX30)
def wsX3_valueOfSet_r1 : List Cond := [Cond.fieldLink RX3 15 "FountainCode$Sender" "sources" "I", Cond.methodLink RX3 35 yX3_valueOfSources, Cond.instanceMethod yX3_valueOfSources, Cond.selects RX3 yX3_valueOfSources yX3_valueOfSources, Cond.initialized RX3, Cond.code yX3_valueOfSources cX3_valueOfSources 5 (some .int), Cond.fieldLink RX3 9 "FountainCode$Sender" "sourceValues" "[I", Cond.static yX5_holds, Cond.initialized RX5, Cond.code yX5_holds cX5_holds 3 (some .boolean), Cond.methodLink RX5 150 yX5_setOf, Cond.static yX5_setOf, Cond.code yX5_setOf cX5_setOf 1 (some .long), Cond.methodLink RX3 39 yX3_blockCount, Cond.instanceMethod yX3_blockCount, Cond.selects RX3 yX3_blockCount yX3_blockCount, Cond.code yX3_blockCount cX3_blockCount 1 (some .int), Cond.fieldLink RX3 19 "FountainCode$Sender" "parities" "I", Cond.methodLink RX3 47 yX3_valueOfBlock, Cond.instanceMethod yX3_valueOfBlock, Cond.selects RX3 yX3_valueOfBlock yX3_valueOfBlock, Cond.code yX3_valueOfBlock cX3_valueOfBlock 2 (some .int), Cond.methodLink RX3 32 yX3_coveredBy, Cond.instanceMethod yX3_coveredBy]
def wsX3_valueOfSet_r2 : List Cond := [Cond.selects RX3 yX3_coveredBy yX3_coveredBy, Cond.code yX3_coveredBy cX3_coveredBy 5 (some .long)]
def wsX3_valueOfSet : List Cond := .code yX3_valueOfSet cX3_valueOfSet 5 (some .int) :: ((wsX3_valueOfSet_r1 ++ wsX3_valueOfSet_r2) ++ wsX30)
def wsX4_init : List Cond := .code yX4_init cX4_init 1 none :: ([.methodLink RX4 3 objectInit, .instanceMethod objectInit, .code objectInit ⟨#[0xb1]⟩ 1 none, .fieldLink RX4 9 "FountainCode$Weights" "FIRST_WEIGHTS" "[I", .methodLink RX4 15 ⟨"[I", "clone", "()Ljava/lang/Object;"⟩, .sameMethod "[I" "java/lang/Object" "clone" "()Ljava/lang/Object;", .native ⟨"java/lang/Object", "clone", "()Ljava/lang/Object;"⟩, .instanceMethod ⟨"java/lang/Object", "clone", "()Ljava/lang/Object;"⟩, .selects "[I" ⟨"[I", "clone", "()Ljava/lang/Object;"⟩ ⟨"java/lang/Object", "clone", "()Ljava/lang/Object;"⟩, .classLink RX4 16 "[I", .fieldLink RX4 20 "FountainCode$Weights" "list" "[I"] ++ wsX40)
def wsX4_weightOf : List Cond := .code yX4_weightOf cX4_weightOf 3 (some .int) :: ([.fieldLink RX4 20 "FountainCode$Weights" "list" "[I"] ++ wsX40)
def wsX4_change : List Cond := .code yX4_change cX4_change 4 none :: ([.fieldLink RX4 20 "FountainCode$Weights" "list" "[I"] ++ wsX40)
def wsX5_addEquation_r1 : List Cond := [Cond.fieldLink RX5 26 "FountainCode" "peeler" "LFountainCode$Peeler;", Cond.fieldLink RX5 33 "FountainCode" "elimination" "LFountainCode$Elimination;", Cond.methodLink RX5 194 yX2_addEquation, Cond.instanceMethod yX2_addEquation, Cond.selects RX2 yX2_addEquation yX2_addEquation, Cond.initialized RX2, Cond.code yX2_addEquation cX2_addEquation 3 none, Cond.fieldLink RX2 22 "FountainCode$Peeler" "equationCount" "I", Cond.fieldLink RX2 9 "FountainCode$Peeler" "equationSets" "[J", Cond.methodLink RX5 197 yX1_addEquation, Cond.instanceMethod yX1_addEquation, Cond.selects RX1 yX1_addEquation yX1_addEquation, Cond.initialized RX1, Cond.code yX1_addEquation cX1_addEquation 9 none, Cond.fieldLink RX1 9 "FountainCode$Elimination" "rows" "[J", Cond.fieldLink RX1 15 "FountainCode$Elimination" "values" "[I", Cond.fieldLink RX1 19 "FountainCode$Elimination" "rowCount" "I", Cond.methodLink RX1 36 yX1_remainder, Cond.instanceMethod yX1_remainder, Cond.selects RX1 yX1_remainder yX1_remainder, Cond.code yX1_remainder cX1_remainder 6 (some .long), Cond.static yX5_holds, Cond.initialized RX5, Cond.code yX5_holds cX5_holds 3 (some .boolean)]
def wsX5_addEquation_r2 : List Cond := [Cond.methodLink RX5 150 yX5_setOf, Cond.static yX5_setOf, Cond.code yX5_setOf cX5_setOf 1 (some .long), Cond.static yX5_lowestOf, Cond.code yX5_lowestOf cX5_lowestOf 2 (some .int), Cond.methodLink RX5 198 yJ13_bitCount_95d88, Cond.static yJ13_bitCount_95d88, Cond.initialized RJ13, Cond.code yJ13_bitCount_95d88 cJ13_bitCount_95d88 2 (some .int), Cond.constantLong RJ13 314 (6148914691236517205), Cond.constantLong RJ13 316 (3689348814741910323), Cond.constantLong RJ13 318 (1085102592571150095), Cond.methodLink RX1 40 yX1_knownValue, Cond.instanceMethod yX1_knownValue, Cond.selects RX1 yX1_knownValue yX1_knownValue, Cond.code yX1_knownValue cX1_knownValue 5 (some .int)]
def wsX5_addEquation : List Cond := .code yX5_addEquation cX5_addEquation 4 none :: ((wsX5_addEquation_r1 ++ wsX5_addEquation_r2) ++ wsX50 ++ wsX20 ++ wsX10)
def wsX5_beginTransfer_r1 : List Cond := [Cond.fieldLink RX5 19 "FountainCode" "sender" "LFountainCode$Sender;", Cond.fieldLink RX5 26 "FountainCode" "peeler" "LFountainCode$Peeler;", Cond.fieldLink RX5 33 "FountainCode" "elimination" "LFountainCode$Elimination;", Cond.methodLink RX5 167 yX3_begin, Cond.instanceMethod yX3_begin, Cond.selects RX3 yX3_begin yX3_begin, Cond.initialized RX3, Cond.code yX3_begin cX3_begin 3 none, Cond.fieldLink RX3 15 "FountainCode$Sender" "sources" "I", Cond.fieldLink RX3 19 "FountainCode$Sender" "parities" "I", Cond.fieldLink RX3 9 "FountainCode$Sender" "sourceValues" "[I", Cond.methodLink RX3 22 yJ7_fill_53178, Cond.static yJ7_fill_53178, Cond.initialized RJ7, Cond.code yJ7_fill_53178 cJ7_fill_53178 4 none, Cond.methodLink RX5 170 yX2_clear, Cond.instanceMethod yX2_clear, Cond.selects RX2 yX2_clear yX2_clear, Cond.initialized RX2, Cond.code yX2_clear cX2_clear 1 none, Cond.fieldLink RX2 22 "FountainCode$Peeler" "equationCount" "I", Cond.fieldLink RX2 26 "FountainCode$Peeler" "peeledCount" "I", Cond.fieldLink RX2 29 "FountainCode$Peeler" "peeledSet" "J", Cond.fieldLink RX2 19 "FountainCode$Peeler" "peelEquations" "[I"]
def wsX5_beginTransfer_r2 : List Cond := [Cond.methodLink RX2 33 yJ7_fill_53178, Cond.methodLink RX5 173 yX1_clear, Cond.instanceMethod yX1_clear, Cond.selects RX1 yX1_clear yX1_clear, Cond.initialized RX1, Cond.code yX1_clear cX1_clear 1 none, Cond.fieldLink RX1 19 "FountainCode$Elimination" "rowCount" "I", Cond.fieldLink RX1 9 "FountainCode$Elimination" "rows" "[J", Cond.fieldLink RX1 15 "FountainCode$Elimination" "values" "[I", Cond.methodLink RX1 23 yJ7_fill_d0a16, Cond.static yJ7_fill_d0a16, Cond.code yJ7_fill_d0a16 cJ7_fill_d0a16 5 none, Cond.methodLink RX1 29 yJ7_fill_53178, Cond.methodLink RX5 150 yX5_setOf, Cond.static yX5_setOf, Cond.initialized RX5, Cond.code yX5_setOf cX5_setOf 1 (some .long), Cond.methodLink RX5 174 yX3_coveredBy, Cond.instanceMethod yX3_coveredBy, Cond.selects RX3 yX3_coveredBy yX3_coveredBy, Cond.code yX3_coveredBy cX3_coveredBy 5 (some .long), Cond.methodLink RX5 177 yX5_addEquation, Cond.instanceMethod yX5_addEquation, Cond.selects RX5 yX5_addEquation yX5_addEquation]
def wsX5_beginTransfer_r3 : List Cond := [Cond.code yX5_addEquation cX5_addEquation 4 none, Cond.methodLink RX5 194 yX2_addEquation, Cond.instanceMethod yX2_addEquation, Cond.selects RX2 yX2_addEquation yX2_addEquation, Cond.code yX2_addEquation cX2_addEquation 3 none, Cond.fieldLink RX2 9 "FountainCode$Peeler" "equationSets" "[J", Cond.methodLink RX5 197 yX1_addEquation, Cond.instanceMethod yX1_addEquation, Cond.selects RX1 yX1_addEquation yX1_addEquation, Cond.code yX1_addEquation cX1_addEquation 9 none, Cond.methodLink RX1 36 yX1_remainder, Cond.instanceMethod yX1_remainder, Cond.selects RX1 yX1_remainder yX1_remainder, Cond.code yX1_remainder cX1_remainder 6 (some .long), Cond.static yX5_holds, Cond.code yX5_holds cX5_holds 3 (some .boolean), Cond.static yX5_lowestOf, Cond.code yX5_lowestOf cX5_lowestOf 2 (some .int), Cond.methodLink RX5 198 yJ13_bitCount_95d88, Cond.static yJ13_bitCount_95d88, Cond.initialized RJ13, Cond.code yJ13_bitCount_95d88 cJ13_bitCount_95d88 2 (some .int), Cond.constantLong RJ13 314 (6148914691236517205), Cond.constantLong RJ13 316 (3689348814741910323)]
def wsX5_beginTransfer_r4 : List Cond := [Cond.constantLong RJ13 318 (1085102592571150095), Cond.methodLink RX1 40 yX1_knownValue, Cond.instanceMethod yX1_knownValue, Cond.selects RX1 yX1_knownValue yX1_knownValue, Cond.code yX1_knownValue cX1_knownValue 5 (some .int), Cond.methodLink RX5 181 yX2_peelOn, Cond.instanceMethod yX2_peelOn, Cond.selects RX2 yX2_peelOn yX2_peelOn, Cond.code yX2_peelOn cX2_peelOn 4 (some .int), Cond.methodLink RX2 39 yX2_lowestReady, Cond.instanceMethod yX2_lowestReady, Cond.selects RX2 yX2_lowestReady yX2_lowestReady, Cond.code yX2_lowestReady cX2_lowestReady 2 (some .int), Cond.constantLong RX2 47 (-1), Cond.methodLink RX2 49 yJ13_bitCount_95d88, Cond.methodLink RX2 43 yX2_peelWith, Cond.instanceMethod yX2_peelWith, Cond.selects RX2 yX2_peelWith yX2_peelWith, Cond.code yX2_peelWith cX2_peelWith 3 none, Cond.fieldLink RX2 15 "FountainCode$Peeler" "peelOrder" "[I"]
def wsX5_beginTransfer : List Cond := .code yX5_beginTransfer cX5_beginTransfer 4 (some .int) :: ((wsX5_beginTransfer_r1 ++ (wsX5_beginTransfer_r2 ++ (wsX5_beginTransfer_r3 ++ wsX5_beginTransfer_r4))) ++ wsX50 ++ wsX30 ++ wsX20 ++ wsX10)
def wsX5_init_r1 : List Cond := [Cond.methodLink RX5 3 objectInit, Cond.instanceMethod objectInit, Cond.code objectInit ⟨#[0xb1]⟩ 1 none, Cond.classLink RX5 9 RX4, Cond.instantiable RX4 1, Cond.initialized RX4, Cond.fieldLink RX5 12 "FountainCode" "weights" "LFountainCode$Weights;", Cond.classLink RX5 16 RX3, Cond.instantiable RX3 3, Cond.initialized RX3, Cond.fieldLink RX5 19 "FountainCode" "sender" "LFountainCode$Sender;", Cond.classLink RX5 23 RX2, Cond.instantiable RX2 6, Cond.initialized RX2, Cond.fieldLink RX5 26 "FountainCode" "peeler" "LFountainCode$Peeler;", Cond.classLink RX5 30 RX1, Cond.instantiable RX1 3, Cond.initialized RX1, Cond.fieldLink RX5 33 "FountainCode" "elimination" "LFountainCode$Elimination;", Cond.classLink RX5 37 RX0, Cond.instantiable RX0 4, Cond.initialized RX0, Cond.fieldLink RX5 40 "FountainCode" "scratchDrop" "LFountainCode$Drop;", Cond.instanceMethod yX4_init]
def wsX5_init_r2 : List Cond := [Cond.code yX4_init cX4_init 1 none, Cond.methodLink RX4 3 objectInit, Cond.fieldLink RX4 9 "FountainCode$Weights" "FIRST_WEIGHTS" "[I", Cond.methodLink RX4 15 ⟨"[I", "clone", "()Ljava/lang/Object;"⟩, Cond.sameMethod "[I" "java/lang/Object" "clone" "()Ljava/lang/Object;", Cond.native ⟨"java/lang/Object", "clone", "()Ljava/lang/Object;"⟩, Cond.instanceMethod ⟨"java/lang/Object", "clone", "()Ljava/lang/Object;"⟩, Cond.selects "[I" ⟨"[I", "clone", "()Ljava/lang/Object;"⟩ ⟨"java/lang/Object", "clone", "()Ljava/lang/Object;"⟩, Cond.classLink RX4 16 "[I", Cond.fieldLink RX4 20 "FountainCode$Weights" "list" "[I", Cond.instanceMethod yX3_init, Cond.code yX3_init cX3_init 1 none, Cond.methodLink RX3 3 objectInit, Cond.arrayClass .int, Cond.fieldLink RX3 9 "FountainCode$Sender" "sourceValues" "[I", Cond.instanceMethod yX2_init, Cond.code yX2_init cX2_init 1 none, Cond.methodLink RX2 3 objectInit, Cond.arrayClass .long, Cond.fieldLink RX2 9 "FountainCode$Peeler" "equationSets" "[J", Cond.fieldLink RX2 15 "FountainCode$Peeler" "peelOrder" "[I", Cond.fieldLink RX2 19 "FountainCode$Peeler" "peelEquations" "[I", Cond.instanceMethod yX1_init, Cond.code yX1_init cX1_init 1 none]
def wsX5_init_r3 : List Cond := [Cond.methodLink RX1 3 objectInit, Cond.fieldLink RX1 9 "FountainCode$Elimination" "rows" "[J", Cond.fieldLink RX1 15 "FountainCode$Elimination" "values" "[I", Cond.instanceMethod yX0_init, Cond.code yX0_init cX0_init 1 none, Cond.methodLink RX0 3 objectInit, Cond.fieldLink RX0 9 "FountainCode$Drop" "row" "[I", Cond.methodLink RX5 44 yX5_beginTransfer, Cond.instanceMethod yX5_beginTransfer, Cond.selects RX5 yX5_beginTransfer yX5_beginTransfer, Cond.initialized RX5, Cond.code yX5_beginTransfer cX5_beginTransfer 4 (some .int), Cond.methodLink RX5 167 yX3_begin, Cond.instanceMethod yX3_begin, Cond.selects RX3 yX3_begin yX3_begin, Cond.code yX3_begin cX3_begin 3 none, Cond.fieldLink RX3 15 "FountainCode$Sender" "sources" "I", Cond.fieldLink RX3 19 "FountainCode$Sender" "parities" "I", Cond.methodLink RX3 22 yJ7_fill_53178, Cond.static yJ7_fill_53178, Cond.initialized RJ7, Cond.code yJ7_fill_53178 cJ7_fill_53178 4 none, Cond.methodLink RX5 170 yX2_clear, Cond.instanceMethod yX2_clear]
def wsX5_init_r4 : List Cond := [Cond.selects RX2 yX2_clear yX2_clear, Cond.code yX2_clear cX2_clear 1 none, Cond.fieldLink RX2 22 "FountainCode$Peeler" "equationCount" "I", Cond.fieldLink RX2 26 "FountainCode$Peeler" "peeledCount" "I", Cond.fieldLink RX2 29 "FountainCode$Peeler" "peeledSet" "J", Cond.methodLink RX2 33 yJ7_fill_53178, Cond.methodLink RX5 173 yX1_clear, Cond.instanceMethod yX1_clear, Cond.selects RX1 yX1_clear yX1_clear, Cond.code yX1_clear cX1_clear 1 none, Cond.fieldLink RX1 19 "FountainCode$Elimination" "rowCount" "I", Cond.methodLink RX1 23 yJ7_fill_d0a16, Cond.static yJ7_fill_d0a16, Cond.code yJ7_fill_d0a16 cJ7_fill_d0a16 5 none, Cond.methodLink RX1 29 yJ7_fill_53178, Cond.methodLink RX5 150 yX5_setOf, Cond.static yX5_setOf, Cond.code yX5_setOf cX5_setOf 1 (some .long), Cond.methodLink RX5 174 yX3_coveredBy, Cond.instanceMethod yX3_coveredBy, Cond.selects RX3 yX3_coveredBy yX3_coveredBy, Cond.code yX3_coveredBy cX3_coveredBy 5 (some .long), Cond.methodLink RX5 177 yX5_addEquation, Cond.instanceMethod yX5_addEquation]
def wsX5_init_r5 : List Cond := [Cond.selects RX5 yX5_addEquation yX5_addEquation, Cond.code yX5_addEquation cX5_addEquation 4 none, Cond.methodLink RX5 194 yX2_addEquation, Cond.instanceMethod yX2_addEquation, Cond.selects RX2 yX2_addEquation yX2_addEquation, Cond.code yX2_addEquation cX2_addEquation 3 none, Cond.methodLink RX5 197 yX1_addEquation, Cond.instanceMethod yX1_addEquation, Cond.selects RX1 yX1_addEquation yX1_addEquation, Cond.code yX1_addEquation cX1_addEquation 9 none, Cond.methodLink RX1 36 yX1_remainder, Cond.instanceMethod yX1_remainder, Cond.selects RX1 yX1_remainder yX1_remainder, Cond.code yX1_remainder cX1_remainder 6 (some .long), Cond.static yX5_holds, Cond.code yX5_holds cX5_holds 3 (some .boolean), Cond.static yX5_lowestOf, Cond.code yX5_lowestOf cX5_lowestOf 2 (some .int), Cond.methodLink RX5 198 yJ13_bitCount_95d88, Cond.static yJ13_bitCount_95d88, Cond.initialized RJ13, Cond.code yJ13_bitCount_95d88 cJ13_bitCount_95d88 2 (some .int), Cond.constantLong RJ13 314 (6148914691236517205), Cond.constantLong RJ13 316 (3689348814741910323)]
def wsX5_init_r6 : List Cond := [Cond.constantLong RJ13 318 (1085102592571150095), Cond.methodLink RX1 40 yX1_knownValue, Cond.instanceMethod yX1_knownValue, Cond.selects RX1 yX1_knownValue yX1_knownValue, Cond.code yX1_knownValue cX1_knownValue 5 (some .int), Cond.methodLink RX5 181 yX2_peelOn, Cond.instanceMethod yX2_peelOn, Cond.selects RX2 yX2_peelOn yX2_peelOn, Cond.code yX2_peelOn cX2_peelOn 4 (some .int), Cond.methodLink RX2 39 yX2_lowestReady, Cond.instanceMethod yX2_lowestReady, Cond.selects RX2 yX2_lowestReady yX2_lowestReady, Cond.code yX2_lowestReady cX2_lowestReady 2 (some .int), Cond.constantLong RX2 47 (-1), Cond.methodLink RX2 49 yJ13_bitCount_95d88, Cond.methodLink RX2 43 yX2_peelWith, Cond.instanceMethod yX2_peelWith, Cond.selects RX2 yX2_peelWith yX2_peelWith, Cond.code yX2_peelWith cX2_peelWith 3 none]
def wsX5_init : List Cond := .code yX5_init cX5_init 1 none :: ((wsX5_init_r1 ++ (wsX5_init_r2 ++ (wsX5_init_r3 ++ (wsX5_init_r4 ++ (wsX5_init_r5 ++ wsX5_init_r6))))) ++ wsX40 ++ wsX50 ++ wsX30 ++ wsX20 ++ wsX10 ++ wsX00)
def wsX5_start_r1 : List Cond := [Cond.classLink RX5 48 "java/lang/IllegalArgumentException", Cond.initialized "java/lang/IllegalArgumentException", Cond.methodLink RX5 44 yX5_beginTransfer, Cond.instanceMethod yX5_beginTransfer, Cond.selects RX5 yX5_beginTransfer yX5_beginTransfer, Cond.initialized RX5, Cond.code yX5_beginTransfer cX5_beginTransfer 4 (some .int), Cond.fieldLink RX5 19 "FountainCode" "sender" "LFountainCode$Sender;", Cond.fieldLink RX5 26 "FountainCode" "peeler" "LFountainCode$Peeler;", Cond.fieldLink RX5 33 "FountainCode" "elimination" "LFountainCode$Elimination;", Cond.methodLink RX5 167 yX3_begin, Cond.instanceMethod yX3_begin, Cond.selects RX3 yX3_begin yX3_begin, Cond.initialized RX3, Cond.code yX3_begin cX3_begin 3 none, Cond.fieldLink RX3 15 "FountainCode$Sender" "sources" "I", Cond.fieldLink RX3 19 "FountainCode$Sender" "parities" "I", Cond.fieldLink RX3 9 "FountainCode$Sender" "sourceValues" "[I", Cond.methodLink RX3 22 yJ7_fill_53178, Cond.static yJ7_fill_53178, Cond.initialized RJ7, Cond.code yJ7_fill_53178 cJ7_fill_53178 4 none, Cond.methodLink RX5 170 yX2_clear, Cond.instanceMethod yX2_clear]
def wsX5_start_r2 : List Cond := [Cond.selects RX2 yX2_clear yX2_clear, Cond.initialized RX2, Cond.code yX2_clear cX2_clear 1 none, Cond.fieldLink RX2 22 "FountainCode$Peeler" "equationCount" "I", Cond.fieldLink RX2 26 "FountainCode$Peeler" "peeledCount" "I", Cond.fieldLink RX2 29 "FountainCode$Peeler" "peeledSet" "J", Cond.fieldLink RX2 19 "FountainCode$Peeler" "peelEquations" "[I", Cond.methodLink RX2 33 yJ7_fill_53178, Cond.methodLink RX5 173 yX1_clear, Cond.instanceMethod yX1_clear, Cond.selects RX1 yX1_clear yX1_clear, Cond.initialized RX1, Cond.code yX1_clear cX1_clear 1 none, Cond.fieldLink RX1 19 "FountainCode$Elimination" "rowCount" "I", Cond.fieldLink RX1 9 "FountainCode$Elimination" "rows" "[J", Cond.fieldLink RX1 15 "FountainCode$Elimination" "values" "[I", Cond.methodLink RX1 23 yJ7_fill_d0a16, Cond.static yJ7_fill_d0a16, Cond.code yJ7_fill_d0a16 cJ7_fill_d0a16 5 none, Cond.methodLink RX1 29 yJ7_fill_53178, Cond.methodLink RX5 150 yX5_setOf, Cond.static yX5_setOf, Cond.code yX5_setOf cX5_setOf 1 (some .long), Cond.methodLink RX5 174 yX3_coveredBy]
def wsX5_start_r3 : List Cond := [Cond.instanceMethod yX3_coveredBy, Cond.selects RX3 yX3_coveredBy yX3_coveredBy, Cond.code yX3_coveredBy cX3_coveredBy 5 (some .long), Cond.methodLink RX5 177 yX5_addEquation, Cond.instanceMethod yX5_addEquation, Cond.selects RX5 yX5_addEquation yX5_addEquation, Cond.code yX5_addEquation cX5_addEquation 4 none, Cond.methodLink RX5 194 yX2_addEquation, Cond.instanceMethod yX2_addEquation, Cond.selects RX2 yX2_addEquation yX2_addEquation, Cond.code yX2_addEquation cX2_addEquation 3 none, Cond.fieldLink RX2 9 "FountainCode$Peeler" "equationSets" "[J", Cond.methodLink RX5 197 yX1_addEquation, Cond.instanceMethod yX1_addEquation, Cond.selects RX1 yX1_addEquation yX1_addEquation, Cond.code yX1_addEquation cX1_addEquation 9 none, Cond.methodLink RX1 36 yX1_remainder, Cond.instanceMethod yX1_remainder, Cond.selects RX1 yX1_remainder yX1_remainder, Cond.code yX1_remainder cX1_remainder 6 (some .long), Cond.static yX5_holds, Cond.code yX5_holds cX5_holds 3 (some .boolean), Cond.static yX5_lowestOf, Cond.code yX5_lowestOf cX5_lowestOf 2 (some .int)]
def wsX5_start_r4 : List Cond := [Cond.methodLink RX5 198 yJ13_bitCount_95d88, Cond.static yJ13_bitCount_95d88, Cond.initialized RJ13, Cond.code yJ13_bitCount_95d88 cJ13_bitCount_95d88 2 (some .int), Cond.constantLong RJ13 314 (6148914691236517205), Cond.constantLong RJ13 316 (3689348814741910323), Cond.constantLong RJ13 318 (1085102592571150095), Cond.methodLink RX1 40 yX1_knownValue, Cond.instanceMethod yX1_knownValue, Cond.selects RX1 yX1_knownValue yX1_knownValue, Cond.code yX1_knownValue cX1_knownValue 5 (some .int), Cond.methodLink RX5 181 yX2_peelOn, Cond.instanceMethod yX2_peelOn, Cond.selects RX2 yX2_peelOn yX2_peelOn, Cond.code yX2_peelOn cX2_peelOn 4 (some .int), Cond.methodLink RX2 39 yX2_lowestReady, Cond.instanceMethod yX2_lowestReady, Cond.selects RX2 yX2_lowestReady yX2_lowestReady, Cond.code yX2_lowestReady cX2_lowestReady 2 (some .int), Cond.constantLong RX2 47 (-1), Cond.methodLink RX2 49 yJ13_bitCount_95d88, Cond.methodLink RX2 43 yX2_peelWith, Cond.instanceMethod yX2_peelWith, Cond.selects RX2 yX2_peelWith yX2_peelWith]
def wsX5_start_r5 : List Cond := [Cond.code yX2_peelWith cX2_peelWith 3 none, Cond.fieldLink RX2 15 "FountainCode$Peeler" "peelOrder" "[I"]
def wsX5_start : List Cond := .code yX5_start cX5_start 3 (some .int) :: ((wsX5_start_r1 ++ (wsX5_start_r2 ++ (wsX5_start_r3 ++ (wsX5_start_r4 ++ wsX5_start_r5)))) ++ wsX50 ++ wsX30 ++ wsX20 ++ wsX10 ++ (vx_atS RX5 52 "java/lang/IllegalArgumentException" ["java/lang/RuntimeException", "java/lang/Exception"]).filter goodWord)
def wsX5_setWeight : List Cond := .code yX5_setWeight cX5_setWeight 4 (some .int) :: ([.classLink RX5 48 "java/lang/IllegalArgumentException", .initialized "java/lang/IllegalArgumentException", .classLink RX5 65 "java/lang/IllegalStateException", .initialized "java/lang/IllegalStateException", .fieldLink RX5 12 "FountainCode" "weights" "LFountainCode$Weights;", .methodLink RX5 57 yX4_weightOf, .instanceMethod yX4_weightOf, .selects RX4 yX4_weightOf yX4_weightOf, .initialized RX4, .code yX4_weightOf cX4_weightOf 3 (some .int), .fieldLink RX4 20 "FountainCode$Weights" "list" "[I", .methodLink RX5 61 yX4_sum, .instanceMethod yX4_sum, .selects RX4 yX4_sum yX4_sum, .code yX4_sum cX4_sum 3 (some .int), .methodLink RX5 70 yX4_change, .instanceMethod yX4_change, .selects RX4 yX4_change yX4_change, .code yX4_change cX4_change 4 none] ++ wsX50 ++ wsX40 ++ (vx_atS RX5 52 "java/lang/IllegalArgumentException" ["java/lang/RuntimeException", "java/lang/Exception"]).filter goodWord ++ (vx_atS RX5 69 "java/lang/IllegalStateException" ["java/lang/RuntimeException", "java/lang/Exception"]).filter goodWord)
def wsX5_setBlock_r1 : List Cond := [Cond.classLink RX5 77 "java/lang/IndexOutOfBoundsException", Cond.initialized "java/lang/IndexOutOfBoundsException", Cond.fieldLink RX5 19 "FountainCode" "sender" "LFountainCode$Sender;", Cond.methodLink RX5 74 yX3_sourceCount, Cond.instanceMethod yX3_sourceCount, Cond.selects RX3 yX3_sourceCount yX3_sourceCount, Cond.initialized RX3, Cond.code yX3_sourceCount cX3_sourceCount 1 (some .int), Cond.fieldLink RX3 15 "FountainCode$Sender" "sources" "I", Cond.methodLink RX5 82 yX3_valueOfBlock, Cond.instanceMethod yX3_valueOfBlock, Cond.selects RX3 yX3_valueOfBlock yX3_valueOfBlock, Cond.code yX3_valueOfBlock cX3_valueOfBlock 2 (some .int), Cond.methodLink RX3 32 yX3_coveredBy, Cond.instanceMethod yX3_coveredBy, Cond.selects RX3 yX3_coveredBy yX3_coveredBy, Cond.code yX3_coveredBy cX3_coveredBy 5 (some .long), Cond.static yX5_setOf, Cond.initialized RX5, Cond.code yX5_setOf cX5_setOf 1 (some .long), Cond.methodLink RX3 35 yX3_valueOfSources, Cond.instanceMethod yX3_valueOfSources, Cond.selects RX3 yX3_valueOfSources yX3_valueOfSources, Cond.code yX3_valueOfSources cX3_valueOfSources 5 (some .int)]
def wsX5_setBlock_r2 : List Cond := [Cond.fieldLink RX3 9 "FountainCode$Sender" "sourceValues" "[I", Cond.static yX5_holds, Cond.code yX5_holds cX5_holds 3 (some .boolean), Cond.methodLink RX5 150 yX5_setOf, Cond.methodLink RX5 85 yX3_change, Cond.instanceMethod yX3_change, Cond.selects RX3 yX3_change yX3_change, Cond.code yX3_change cX3_change 3 none]
def wsX5_setBlock : List Cond := .code yX5_setBlock cX5_setBlock 4 (some .int) :: ((wsX5_setBlock_r1 ++ wsX5_setBlock_r2) ++ wsX50 ++ wsX30 ++ (vx_atS RX5 81 "java/lang/IndexOutOfBoundsException" ["java/lang/RuntimeException", "java/lang/Exception"]).filter goodWord)
def wsX5_blocks : List Cond := .code yX5_blocks cX5_blocks 1 (some .int) :: ([.fieldLink RX5 19 "FountainCode" "sender" "LFountainCode$Sender;", .methodLink RX5 86 yX3_blockCount, .instanceMethod yX3_blockCount, .selects RX3 yX3_blockCount yX3_blockCount, .initialized RX3, .code yX3_blockCount cX3_blockCount 1 (some .int), .fieldLink RX3 15 "FountainCode$Sender" "sources" "I", .fieldLink RX3 19 "FountainCode$Sender" "parities" "I"] ++ wsX50 ++ wsX30)
def wsX5_isBlock : List Cond := .code yX5_isBlock cX5_isBlock 2 (some .boolean) :: ([.fieldLink RX5 19 "FountainCode" "sender" "LFountainCode$Sender;", .methodLink RX5 86 yX3_blockCount, .instanceMethod yX3_blockCount, .selects RX3 yX3_blockCount yX3_blockCount, .initialized RX3, .code yX3_blockCount cX3_blockCount 1 (some .int), .fieldLink RX3 15 "FountainCode$Sender" "sources" "I", .fieldLink RX3 19 "FountainCode$Sender" "parities" "I"] ++ wsX50 ++ wsX30)
def wsX5_blockAt_r1 : List Cond := [Cond.classLink RX5 77 "java/lang/IndexOutOfBoundsException", Cond.initialized "java/lang/IndexOutOfBoundsException", Cond.fieldLink RX5 19 "FountainCode" "sender" "LFountainCode$Sender;", Cond.methodLink RX5 89 yX5_isBlock, Cond.instanceMethod yX5_isBlock, Cond.selects RX5 yX5_isBlock yX5_isBlock, Cond.initialized RX5, Cond.code yX5_isBlock cX5_isBlock 2 (some .boolean), Cond.methodLink RX5 86 yX3_blockCount, Cond.instanceMethod yX3_blockCount, Cond.selects RX3 yX3_blockCount yX3_blockCount, Cond.initialized RX3, Cond.code yX3_blockCount cX3_blockCount 1 (some .int), Cond.fieldLink RX3 15 "FountainCode$Sender" "sources" "I", Cond.fieldLink RX3 19 "FountainCode$Sender" "parities" "I", Cond.methodLink RX5 82 yX3_valueOfBlock, Cond.instanceMethod yX3_valueOfBlock, Cond.selects RX3 yX3_valueOfBlock yX3_valueOfBlock, Cond.code yX3_valueOfBlock cX3_valueOfBlock 2 (some .int), Cond.methodLink RX3 32 yX3_coveredBy, Cond.instanceMethod yX3_coveredBy, Cond.selects RX3 yX3_coveredBy yX3_coveredBy, Cond.code yX3_coveredBy cX3_coveredBy 5 (some .long), Cond.static yX5_setOf]
def wsX5_blockAt_r2 : List Cond := [Cond.code yX5_setOf cX5_setOf 1 (some .long), Cond.methodLink RX3 35 yX3_valueOfSources, Cond.instanceMethod yX3_valueOfSources, Cond.selects RX3 yX3_valueOfSources yX3_valueOfSources, Cond.code yX3_valueOfSources cX3_valueOfSources 5 (some .int), Cond.fieldLink RX3 9 "FountainCode$Sender" "sourceValues" "[I", Cond.static yX5_holds, Cond.code yX5_holds cX5_holds 3 (some .boolean), Cond.methodLink RX5 150 yX5_setOf]
def wsX5_blockAt : List Cond := .code yX5_blockAt cX5_blockAt 2 (some .int) :: ((wsX5_blockAt_r1 ++ wsX5_blockAt_r2) ++ wsX50 ++ wsX30 ++ (vx_atS RX5 81 "java/lang/IndexOutOfBoundsException" ["java/lang/RuntimeException", "java/lang/Exception"]).filter goodWord)
def wsX5_drawn_r1 : List Cond := [Cond.fieldLink RX5 40 "FountainCode" "scratchDrop" "LFountainCode$Drop;", Cond.fieldLink RX5 12 "FountainCode" "weights" "LFountainCode$Weights;", Cond.fieldLink RX5 19 "FountainCode" "sender" "LFountainCode$Sender;", Cond.methodLink RX5 86 yX3_blockCount, Cond.instanceMethod yX3_blockCount, Cond.selects RX3 yX3_blockCount yX3_blockCount, Cond.initialized RX3, Cond.code yX3_blockCount cX3_blockCount 1 (some .int), Cond.fieldLink RX3 15 "FountainCode$Sender" "sources" "I", Cond.fieldLink RX3 19 "FountainCode$Sender" "parities" "I", Cond.methodLink RX5 184 yX0_draw, Cond.instanceMethod yX0_draw, Cond.selects RX0 yX0_draw yX0_draw, Cond.initialized RX0, Cond.code yX0_draw cX0_draw 5 none, Cond.fieldLink RX0 15 "FountainCode$Drop" "generator" "J", Cond.methodLink RX0 32 Lib.Math.min.name, Cond.static Lib.Math.min.name, Cond.initialized "java/lang/Math", Cond.code Lib.Math.min.name Lib.Math.min.code 2 (some .int), Cond.fieldLink RX0 38 "FountainCode$Drop" "size" "I", Cond.fieldLink RX0 46 "FountainCode$Drop" "blockSet" "J", Cond.fieldLink RX0 9 "FountainCode$Drop" "row" "[I", Cond.methodLink RX0 19 yX4_sum]
def wsX5_drawn_r2 : List Cond := [Cond.instanceMethod yX4_sum, Cond.selects RX4 yX4_sum yX4_sum, Cond.initialized RX4, Cond.code yX4_sum cX4_sum 3 (some .int), Cond.fieldLink RX4 20 "FountainCode$Weights" "list" "[I", Cond.methodLink RX0 25 yX0_numberBelow, Cond.instanceMethod yX0_numberBelow, Cond.selects RX0 yX0_numberBelow yX0_numberBelow, Cond.code yX0_numberBelow cX0_numberBelow 2 (some .int), Cond.constantLong RX0 57 (6364136223846793005), Cond.constantLong RX0 59 (1442695040888963407), Cond.methodLink RX0 29 yX4_degreeFor, Cond.instanceMethod yX4_degreeFor, Cond.selects RX4 yX4_degreeFor yX4_degreeFor, Cond.code yX4_degreeFor cX4_degreeFor 4 (some .int), Cond.methodLink RX0 42 yX0_lineUp, Cond.instanceMethod yX0_lineUp, Cond.selects RX0 yX0_lineUp yX0_lineUp, Cond.code yX0_lineUp cX0_lineUp 3 none, Cond.methodLink RX0 49 yX0_swap, Cond.instanceMethod yX0_swap, Cond.selects RX0 yX0_swap yX0_swap, Cond.code yX0_swap cX0_swap 4 none, Cond.static yX5_setOf]
def wsX5_drawn_r3 : List Cond := [Cond.initialized RX5, Cond.code yX5_setOf cX5_setOf 1 (some .long)]
def wsX5_drawn : List Cond := .code yX5_drawn cX5_drawn 2 (some (.object "FountainCode$Drop")) :: ((wsX5_drawn_r1 ++ (wsX5_drawn_r2 ++ wsX5_drawn_r3)) ++ wsX50 ++ wsX30 ++ wsX00 ++ wsX40)
def wsX5_degree_r1 : List Cond := [Cond.methodLink RX5 95 yX5_drawn, Cond.instanceMethod yX5_drawn, Cond.selects RX5 yX5_drawn yX5_drawn, Cond.initialized RX5, Cond.code yX5_drawn cX5_drawn 2 (some (.object "FountainCode$Drop")), Cond.fieldLink RX5 40 "FountainCode" "scratchDrop" "LFountainCode$Drop;", Cond.fieldLink RX5 12 "FountainCode" "weights" "LFountainCode$Weights;", Cond.fieldLink RX5 19 "FountainCode" "sender" "LFountainCode$Sender;", Cond.methodLink RX5 86 yX3_blockCount, Cond.instanceMethod yX3_blockCount, Cond.selects RX3 yX3_blockCount yX3_blockCount, Cond.initialized RX3, Cond.code yX3_blockCount cX3_blockCount 1 (some .int), Cond.fieldLink RX3 15 "FountainCode$Sender" "sources" "I", Cond.fieldLink RX3 19 "FountainCode$Sender" "parities" "I", Cond.methodLink RX5 184 yX0_draw, Cond.instanceMethod yX0_draw, Cond.selects RX0 yX0_draw yX0_draw, Cond.initialized RX0, Cond.code yX0_draw cX0_draw 5 none, Cond.fieldLink RX0 15 "FountainCode$Drop" "generator" "J", Cond.methodLink RX0 32 Lib.Math.min.name, Cond.static Lib.Math.min.name, Cond.initialized "java/lang/Math"]
def wsX5_degree_r2 : List Cond := [Cond.code Lib.Math.min.name Lib.Math.min.code 2 (some .int), Cond.fieldLink RX0 38 "FountainCode$Drop" "size" "I", Cond.fieldLink RX0 46 "FountainCode$Drop" "blockSet" "J", Cond.fieldLink RX0 9 "FountainCode$Drop" "row" "[I", Cond.methodLink RX0 19 yX4_sum, Cond.instanceMethod yX4_sum, Cond.selects RX4 yX4_sum yX4_sum, Cond.initialized RX4, Cond.code yX4_sum cX4_sum 3 (some .int), Cond.fieldLink RX4 20 "FountainCode$Weights" "list" "[I", Cond.methodLink RX0 25 yX0_numberBelow, Cond.instanceMethod yX0_numberBelow, Cond.selects RX0 yX0_numberBelow yX0_numberBelow, Cond.code yX0_numberBelow cX0_numberBelow 2 (some .int), Cond.constantLong RX0 57 (6364136223846793005), Cond.constantLong RX0 59 (1442695040888963407), Cond.methodLink RX0 29 yX4_degreeFor, Cond.instanceMethod yX4_degreeFor, Cond.selects RX4 yX4_degreeFor yX4_degreeFor, Cond.code yX4_degreeFor cX4_degreeFor 4 (some .int), Cond.methodLink RX0 42 yX0_lineUp, Cond.instanceMethod yX0_lineUp, Cond.selects RX0 yX0_lineUp yX0_lineUp, Cond.code yX0_lineUp cX0_lineUp 3 none]
def wsX5_degree_r3 : List Cond := [Cond.methodLink RX0 49 yX0_swap, Cond.instanceMethod yX0_swap, Cond.selects RX0 yX0_swap yX0_swap, Cond.code yX0_swap cX0_swap 4 none, Cond.static yX5_setOf, Cond.code yX5_setOf cX5_setOf 1 (some .long), Cond.methodLink RX5 99 yX0_size, Cond.instanceMethod yX0_size, Cond.selects RX0 yX0_size yX0_size, Cond.code yX0_size cX0_size 1 (some .int)]
def wsX5_degree : List Cond := .code yX5_degree cX5_degree 2 (some .int) :: ((wsX5_degree_r1 ++ (wsX5_degree_r2 ++ wsX5_degree_r3)) ++ wsX50 ++ wsX30 ++ wsX00 ++ wsX40)
def wsX5_blockOf_r1 : List Cond := [Cond.classLink RX5 77 "java/lang/IndexOutOfBoundsException", Cond.initialized "java/lang/IndexOutOfBoundsException", Cond.methodLink RX5 95 yX5_drawn, Cond.instanceMethod yX5_drawn, Cond.selects RX5 yX5_drawn yX5_drawn, Cond.initialized RX5, Cond.code yX5_drawn cX5_drawn 2 (some (.object "FountainCode$Drop")), Cond.fieldLink RX5 40 "FountainCode" "scratchDrop" "LFountainCode$Drop;", Cond.fieldLink RX5 12 "FountainCode" "weights" "LFountainCode$Weights;", Cond.fieldLink RX5 19 "FountainCode" "sender" "LFountainCode$Sender;", Cond.methodLink RX5 86 yX3_blockCount, Cond.instanceMethod yX3_blockCount, Cond.selects RX3 yX3_blockCount yX3_blockCount, Cond.initialized RX3, Cond.code yX3_blockCount cX3_blockCount 1 (some .int), Cond.fieldLink RX3 15 "FountainCode$Sender" "sources" "I", Cond.fieldLink RX3 19 "FountainCode$Sender" "parities" "I", Cond.methodLink RX5 184 yX0_draw, Cond.instanceMethod yX0_draw, Cond.selects RX0 yX0_draw yX0_draw, Cond.initialized RX0, Cond.code yX0_draw cX0_draw 5 none, Cond.fieldLink RX0 15 "FountainCode$Drop" "generator" "J", Cond.methodLink RX0 32 Lib.Math.min.name]
def wsX5_blockOf_r2 : List Cond := [Cond.static Lib.Math.min.name, Cond.initialized "java/lang/Math", Cond.code Lib.Math.min.name Lib.Math.min.code 2 (some .int), Cond.fieldLink RX0 38 "FountainCode$Drop" "size" "I", Cond.fieldLink RX0 46 "FountainCode$Drop" "blockSet" "J", Cond.fieldLink RX0 9 "FountainCode$Drop" "row" "[I", Cond.methodLink RX0 19 yX4_sum, Cond.instanceMethod yX4_sum, Cond.selects RX4 yX4_sum yX4_sum, Cond.initialized RX4, Cond.code yX4_sum cX4_sum 3 (some .int), Cond.fieldLink RX4 20 "FountainCode$Weights" "list" "[I", Cond.methodLink RX0 25 yX0_numberBelow, Cond.instanceMethod yX0_numberBelow, Cond.selects RX0 yX0_numberBelow yX0_numberBelow, Cond.code yX0_numberBelow cX0_numberBelow 2 (some .int), Cond.constantLong RX0 57 (6364136223846793005), Cond.constantLong RX0 59 (1442695040888963407), Cond.methodLink RX0 29 yX4_degreeFor, Cond.instanceMethod yX4_degreeFor, Cond.selects RX4 yX4_degreeFor yX4_degreeFor, Cond.code yX4_degreeFor cX4_degreeFor 4 (some .int), Cond.methodLink RX0 42 yX0_lineUp, Cond.instanceMethod yX0_lineUp]
def wsX5_blockOf_r3 : List Cond := [Cond.selects RX0 yX0_lineUp yX0_lineUp, Cond.code yX0_lineUp cX0_lineUp 3 none, Cond.methodLink RX0 49 yX0_swap, Cond.instanceMethod yX0_swap, Cond.selects RX0 yX0_swap yX0_swap, Cond.code yX0_swap cX0_swap 4 none, Cond.static yX5_setOf, Cond.code yX5_setOf cX5_setOf 1 (some .long), Cond.methodLink RX5 99 yX0_size, Cond.instanceMethod yX0_size, Cond.selects RX0 yX0_size yX0_size, Cond.code yX0_size cX0_size 1 (some .int), Cond.methodLink RX5 104 yX0_blockInPlace, Cond.instanceMethod yX0_blockInPlace, Cond.selects RX0 yX0_blockInPlace yX0_blockInPlace, Cond.code yX0_blockInPlace cX0_blockInPlace 2 (some .int)]
def wsX5_blockOf : List Cond := .code yX5_blockOf cX5_blockOf 4 (some .int) :: ((wsX5_blockOf_r1 ++ (wsX5_blockOf_r2 ++ wsX5_blockOf_r3)) ++ wsX50 ++ wsX30 ++ wsX00 ++ wsX40 ++ (vx_atS RX5 81 "java/lang/IndexOutOfBoundsException" ["java/lang/RuntimeException", "java/lang/Exception"]).filter goodWord)
def wsX5_valueOf_r1 : List Cond := [Cond.fieldLink RX5 19 "FountainCode" "sender" "LFountainCode$Sender;", Cond.methodLink RX5 95 yX5_drawn, Cond.instanceMethod yX5_drawn, Cond.selects RX5 yX5_drawn yX5_drawn, Cond.initialized RX5, Cond.code yX5_drawn cX5_drawn 2 (some (.object "FountainCode$Drop")), Cond.fieldLink RX5 40 "FountainCode" "scratchDrop" "LFountainCode$Drop;", Cond.fieldLink RX5 12 "FountainCode" "weights" "LFountainCode$Weights;", Cond.methodLink RX5 86 yX3_blockCount, Cond.instanceMethod yX3_blockCount, Cond.selects RX3 yX3_blockCount yX3_blockCount, Cond.initialized RX3, Cond.code yX3_blockCount cX3_blockCount 1 (some .int), Cond.fieldLink RX3 15 "FountainCode$Sender" "sources" "I", Cond.fieldLink RX3 19 "FountainCode$Sender" "parities" "I", Cond.methodLink RX5 184 yX0_draw, Cond.instanceMethod yX0_draw, Cond.selects RX0 yX0_draw yX0_draw, Cond.initialized RX0, Cond.code yX0_draw cX0_draw 5 none, Cond.fieldLink RX0 15 "FountainCode$Drop" "generator" "J", Cond.methodLink RX0 32 Lib.Math.min.name, Cond.static Lib.Math.min.name, Cond.initialized "java/lang/Math"]
def wsX5_valueOf_r2 : List Cond := [Cond.code Lib.Math.min.name Lib.Math.min.code 2 (some .int), Cond.fieldLink RX0 38 "FountainCode$Drop" "size" "I", Cond.fieldLink RX0 46 "FountainCode$Drop" "blockSet" "J", Cond.fieldLink RX0 9 "FountainCode$Drop" "row" "[I", Cond.methodLink RX0 19 yX4_sum, Cond.instanceMethod yX4_sum, Cond.selects RX4 yX4_sum yX4_sum, Cond.initialized RX4, Cond.code yX4_sum cX4_sum 3 (some .int), Cond.fieldLink RX4 20 "FountainCode$Weights" "list" "[I", Cond.methodLink RX0 25 yX0_numberBelow, Cond.instanceMethod yX0_numberBelow, Cond.selects RX0 yX0_numberBelow yX0_numberBelow, Cond.code yX0_numberBelow cX0_numberBelow 2 (some .int), Cond.constantLong RX0 57 (6364136223846793005), Cond.constantLong RX0 59 (1442695040888963407), Cond.methodLink RX0 29 yX4_degreeFor, Cond.instanceMethod yX4_degreeFor, Cond.selects RX4 yX4_degreeFor yX4_degreeFor, Cond.code yX4_degreeFor cX4_degreeFor 4 (some .int), Cond.methodLink RX0 42 yX0_lineUp, Cond.instanceMethod yX0_lineUp, Cond.selects RX0 yX0_lineUp yX0_lineUp, Cond.code yX0_lineUp cX0_lineUp 3 none]
def wsX5_valueOf_r3 : List Cond := [Cond.methodLink RX0 49 yX0_swap, Cond.instanceMethod yX0_swap, Cond.selects RX0 yX0_swap yX0_swap, Cond.code yX0_swap cX0_swap 4 none, Cond.static yX5_setOf, Cond.code yX5_setOf cX5_setOf 1 (some .long), Cond.methodLink RX5 107 yX0_blockSet, Cond.instanceMethod yX0_blockSet, Cond.selects RX0 yX0_blockSet yX0_blockSet, Cond.code yX0_blockSet cX0_blockSet 1 (some .long), Cond.methodLink RX5 111 yX3_valueOfSet, Cond.instanceMethod yX3_valueOfSet, Cond.selects RX3 yX3_valueOfSet yX3_valueOfSet, Cond.code yX3_valueOfSet cX3_valueOfSet 5 (some .int), Cond.methodLink RX3 35 yX3_valueOfSources, Cond.instanceMethod yX3_valueOfSources, Cond.selects RX3 yX3_valueOfSources yX3_valueOfSources, Cond.code yX3_valueOfSources cX3_valueOfSources 5 (some .int), Cond.fieldLink RX3 9 "FountainCode$Sender" "sourceValues" "[I", Cond.static yX5_holds, Cond.code yX5_holds cX5_holds 3 (some .boolean), Cond.methodLink RX5 150 yX5_setOf, Cond.methodLink RX3 39 yX3_blockCount, Cond.methodLink RX3 47 yX3_valueOfBlock]
def wsX5_valueOf_r4 : List Cond := [Cond.instanceMethod yX3_valueOfBlock, Cond.selects RX3 yX3_valueOfBlock yX3_valueOfBlock, Cond.code yX3_valueOfBlock cX3_valueOfBlock 2 (some .int), Cond.methodLink RX3 32 yX3_coveredBy, Cond.instanceMethod yX3_coveredBy, Cond.selects RX3 yX3_coveredBy yX3_coveredBy, Cond.code yX3_coveredBy cX3_coveredBy 5 (some .long)]
def wsX5_valueOf : List Cond := .code yX5_valueOf cX5_valueOf 2 (some .int) :: ((wsX5_valueOf_r1 ++ (wsX5_valueOf_r2 ++ (wsX5_valueOf_r3 ++ wsX5_valueOf_r4))) ++ wsX50 ++ wsX30 ++ wsX00 ++ wsX40)
def wsX5_canTake_r1 : List Cond := [Cond.fieldLink RX5 26 "FountainCode" "peeler" "LFountainCode$Peeler;", Cond.fieldLink RX5 19 "FountainCode" "sender" "LFountainCode$Sender;", Cond.fieldLink RX5 33 "FountainCode" "elimination" "LFountainCode$Elimination;", Cond.methodLink RX5 127 yX2_equationCount, Cond.instanceMethod yX2_equationCount, Cond.selects RX2 yX2_equationCount yX2_equationCount, Cond.initialized RX2, Cond.code yX2_equationCount cX2_equationCount 1 (some .int), Cond.fieldLink RX2 22 "FountainCode$Peeler" "equationCount" "I", Cond.methodLink RX5 188 yX3_parityCount, Cond.instanceMethod yX3_parityCount, Cond.selects RX3 yX3_parityCount yX3_parityCount, Cond.initialized RX3, Cond.code yX3_parityCount cX3_parityCount 1 (some .int), Cond.fieldLink RX3 19 "FountainCode$Sender" "parities" "I", Cond.methodLink RX5 191 yX1_contradicts, Cond.instanceMethod yX1_contradicts, Cond.selects RX1 yX1_contradicts yX1_contradicts, Cond.initialized RX1, Cond.code yX1_contradicts cX1_contradicts 4 (some .boolean), Cond.methodLink RX1 36 yX1_remainder, Cond.instanceMethod yX1_remainder, Cond.selects RX1 yX1_remainder yX1_remainder, Cond.code yX1_remainder cX1_remainder 6 (some .long)]
def wsX5_canTake_r2 : List Cond := [Cond.fieldLink RX1 9 "FountainCode$Elimination" "rows" "[J", Cond.static yX5_holds, Cond.initialized RX5, Cond.code yX5_holds cX5_holds 3 (some .boolean), Cond.methodLink RX5 150 yX5_setOf, Cond.static yX5_setOf, Cond.code yX5_setOf cX5_setOf 1 (some .long), Cond.methodLink RX1 40 yX1_knownValue, Cond.instanceMethod yX1_knownValue, Cond.selects RX1 yX1_knownValue yX1_knownValue, Cond.code yX1_knownValue cX1_knownValue 5 (some .int), Cond.fieldLink RX1 15 "FountainCode$Elimination" "values" "[I"]
def wsX5_canTake : List Cond := .code yX5_canTake cX5_canTake 5 (some .boolean) :: ((wsX5_canTake_r1 ++ wsX5_canTake_r2) ++ wsX50 ++ wsX20 ++ wsX30 ++ wsX10)
def wsX5_take_r1 : List Cond := [Cond.fieldLink RX5 26 "FountainCode" "peeler" "LFountainCode$Peeler;", Cond.methodLink RX5 177 yX5_addEquation, Cond.instanceMethod yX5_addEquation, Cond.selects RX5 yX5_addEquation yX5_addEquation, Cond.initialized RX5, Cond.code yX5_addEquation cX5_addEquation 4 none, Cond.fieldLink RX5 33 "FountainCode" "elimination" "LFountainCode$Elimination;", Cond.methodLink RX5 194 yX2_addEquation, Cond.instanceMethod yX2_addEquation, Cond.selects RX2 yX2_addEquation yX2_addEquation, Cond.initialized RX2, Cond.code yX2_addEquation cX2_addEquation 3 none, Cond.fieldLink RX2 22 "FountainCode$Peeler" "equationCount" "I", Cond.fieldLink RX2 9 "FountainCode$Peeler" "equationSets" "[J", Cond.methodLink RX5 197 yX1_addEquation, Cond.instanceMethod yX1_addEquation, Cond.selects RX1 yX1_addEquation yX1_addEquation, Cond.initialized RX1, Cond.code yX1_addEquation cX1_addEquation 9 none, Cond.fieldLink RX1 9 "FountainCode$Elimination" "rows" "[J", Cond.fieldLink RX1 15 "FountainCode$Elimination" "values" "[I", Cond.fieldLink RX1 19 "FountainCode$Elimination" "rowCount" "I", Cond.methodLink RX1 36 yX1_remainder, Cond.instanceMethod yX1_remainder]
def wsX5_take_r2 : List Cond := [Cond.selects RX1 yX1_remainder yX1_remainder, Cond.code yX1_remainder cX1_remainder 6 (some .long), Cond.static yX5_holds, Cond.code yX5_holds cX5_holds 3 (some .boolean), Cond.methodLink RX5 150 yX5_setOf, Cond.static yX5_setOf, Cond.code yX5_setOf cX5_setOf 1 (some .long), Cond.static yX5_lowestOf, Cond.code yX5_lowestOf cX5_lowestOf 2 (some .int), Cond.methodLink RX5 198 yJ13_bitCount_95d88, Cond.static yJ13_bitCount_95d88, Cond.initialized RJ13, Cond.code yJ13_bitCount_95d88 cJ13_bitCount_95d88 2 (some .int), Cond.constantLong RJ13 314 (6148914691236517205), Cond.constantLong RJ13 316 (3689348814741910323), Cond.constantLong RJ13 318 (1085102592571150095), Cond.methodLink RX1 40 yX1_knownValue, Cond.instanceMethod yX1_knownValue, Cond.selects RX1 yX1_knownValue yX1_knownValue, Cond.code yX1_knownValue cX1_knownValue 5 (some .int), Cond.methodLink RX5 181 yX2_peelOn, Cond.instanceMethod yX2_peelOn, Cond.selects RX2 yX2_peelOn yX2_peelOn, Cond.code yX2_peelOn cX2_peelOn 4 (some .int)]
def wsX5_take_r3 : List Cond := [Cond.fieldLink RX2 26 "FountainCode$Peeler" "peeledCount" "I", Cond.methodLink RX2 39 yX2_lowestReady, Cond.instanceMethod yX2_lowestReady, Cond.selects RX2 yX2_lowestReady yX2_lowestReady, Cond.code yX2_lowestReady cX2_lowestReady 2 (some .int), Cond.fieldLink RX2 29 "FountainCode$Peeler" "peeledSet" "J", Cond.constantLong RX2 47 (-1), Cond.methodLink RX2 49 yJ13_bitCount_95d88, Cond.methodLink RX2 43 yX2_peelWith, Cond.instanceMethod yX2_peelWith, Cond.selects RX2 yX2_peelWith yX2_peelWith, Cond.code yX2_peelWith cX2_peelWith 3 none, Cond.fieldLink RX2 15 "FountainCode$Peeler" "peelOrder" "[I", Cond.fieldLink RX2 19 "FountainCode$Peeler" "peelEquations" "[I"]
def wsX5_take : List Cond := .code yX5_take cX5_take 4 (some .int) :: ((wsX5_take_r1 ++ (wsX5_take_r2 ++ wsX5_take_r3)) ++ wsX50 ++ wsX20 ++ wsX10)
def wsX5_receive_r1 : List Cond := [Cond.classLink RX5 65 "java/lang/IllegalStateException", Cond.initialized "java/lang/IllegalStateException", Cond.methodLink RX5 95 yX5_drawn, Cond.instanceMethod yX5_drawn, Cond.selects RX5 yX5_drawn yX5_drawn, Cond.initialized RX5, Cond.code yX5_drawn cX5_drawn 2 (some (.object "FountainCode$Drop")), Cond.fieldLink RX5 40 "FountainCode" "scratchDrop" "LFountainCode$Drop;", Cond.fieldLink RX5 12 "FountainCode" "weights" "LFountainCode$Weights;", Cond.fieldLink RX5 19 "FountainCode" "sender" "LFountainCode$Sender;", Cond.methodLink RX5 86 yX3_blockCount, Cond.instanceMethod yX3_blockCount, Cond.selects RX3 yX3_blockCount yX3_blockCount, Cond.initialized RX3, Cond.code yX3_blockCount cX3_blockCount 1 (some .int), Cond.fieldLink RX3 15 "FountainCode$Sender" "sources" "I", Cond.fieldLink RX3 19 "FountainCode$Sender" "parities" "I", Cond.methodLink RX5 184 yX0_draw, Cond.instanceMethod yX0_draw, Cond.selects RX0 yX0_draw yX0_draw, Cond.initialized RX0, Cond.code yX0_draw cX0_draw 5 none, Cond.fieldLink RX0 15 "FountainCode$Drop" "generator" "J", Cond.methodLink RX0 32 Lib.Math.min.name]
def wsX5_receive_r2 : List Cond := [Cond.static Lib.Math.min.name, Cond.initialized "java/lang/Math", Cond.code Lib.Math.min.name Lib.Math.min.code 2 (some .int), Cond.fieldLink RX0 38 "FountainCode$Drop" "size" "I", Cond.fieldLink RX0 46 "FountainCode$Drop" "blockSet" "J", Cond.fieldLink RX0 9 "FountainCode$Drop" "row" "[I", Cond.methodLink RX0 19 yX4_sum, Cond.instanceMethod yX4_sum, Cond.selects RX4 yX4_sum yX4_sum, Cond.initialized RX4, Cond.code yX4_sum cX4_sum 3 (some .int), Cond.fieldLink RX4 20 "FountainCode$Weights" "list" "[I", Cond.methodLink RX0 25 yX0_numberBelow, Cond.instanceMethod yX0_numberBelow, Cond.selects RX0 yX0_numberBelow yX0_numberBelow, Cond.code yX0_numberBelow cX0_numberBelow 2 (some .int), Cond.constantLong RX0 57 (6364136223846793005), Cond.constantLong RX0 59 (1442695040888963407), Cond.methodLink RX0 29 yX4_degreeFor, Cond.instanceMethod yX4_degreeFor, Cond.selects RX4 yX4_degreeFor yX4_degreeFor, Cond.code yX4_degreeFor cX4_degreeFor 4 (some .int), Cond.methodLink RX0 42 yX0_lineUp, Cond.instanceMethod yX0_lineUp]
def wsX5_receive_r3 : List Cond := [Cond.selects RX0 yX0_lineUp yX0_lineUp, Cond.code yX0_lineUp cX0_lineUp 3 none, Cond.methodLink RX0 49 yX0_swap, Cond.instanceMethod yX0_swap, Cond.selects RX0 yX0_swap yX0_swap, Cond.code yX0_swap cX0_swap 4 none, Cond.static yX5_setOf, Cond.code yX5_setOf cX5_setOf 1 (some .long), Cond.methodLink RX5 107 yX0_blockSet, Cond.instanceMethod yX0_blockSet, Cond.selects RX0 yX0_blockSet yX0_blockSet, Cond.code yX0_blockSet cX0_blockSet 1 (some .long), Cond.methodLink RX5 115 yX5_canTake, Cond.instanceMethod yX5_canTake, Cond.selects RX5 yX5_canTake yX5_canTake, Cond.code yX5_canTake cX5_canTake 5 (some .boolean), Cond.fieldLink RX5 26 "FountainCode" "peeler" "LFountainCode$Peeler;", Cond.fieldLink RX5 33 "FountainCode" "elimination" "LFountainCode$Elimination;", Cond.methodLink RX5 127 yX2_equationCount, Cond.instanceMethod yX2_equationCount, Cond.selects RX2 yX2_equationCount yX2_equationCount, Cond.initialized RX2, Cond.code yX2_equationCount cX2_equationCount 1 (some .int), Cond.fieldLink RX2 22 "FountainCode$Peeler" "equationCount" "I"]
def wsX5_receive_r4 : List Cond := [Cond.methodLink RX5 188 yX3_parityCount, Cond.instanceMethod yX3_parityCount, Cond.selects RX3 yX3_parityCount yX3_parityCount, Cond.code yX3_parityCount cX3_parityCount 1 (some .int), Cond.methodLink RX5 191 yX1_contradicts, Cond.instanceMethod yX1_contradicts, Cond.selects RX1 yX1_contradicts yX1_contradicts, Cond.initialized RX1, Cond.code yX1_contradicts cX1_contradicts 4 (some .boolean), Cond.methodLink RX1 36 yX1_remainder, Cond.instanceMethod yX1_remainder, Cond.selects RX1 yX1_remainder yX1_remainder, Cond.code yX1_remainder cX1_remainder 6 (some .long), Cond.fieldLink RX1 9 "FountainCode$Elimination" "rows" "[J", Cond.static yX5_holds, Cond.code yX5_holds cX5_holds 3 (some .boolean), Cond.methodLink RX5 150 yX5_setOf, Cond.methodLink RX1 40 yX1_knownValue, Cond.instanceMethod yX1_knownValue, Cond.selects RX1 yX1_knownValue yX1_knownValue, Cond.code yX1_knownValue cX1_knownValue 5 (some .int), Cond.fieldLink RX1 15 "FountainCode$Elimination" "values" "[I", Cond.methodLink RX5 121 yX5_take, Cond.instanceMethod yX5_take]
def wsX5_receive_r5 : List Cond := [Cond.selects RX5 yX5_take yX5_take, Cond.code yX5_take cX5_take 4 (some .int), Cond.methodLink RX5 177 yX5_addEquation, Cond.instanceMethod yX5_addEquation, Cond.selects RX5 yX5_addEquation yX5_addEquation, Cond.code yX5_addEquation cX5_addEquation 4 none, Cond.methodLink RX5 194 yX2_addEquation, Cond.instanceMethod yX2_addEquation, Cond.selects RX2 yX2_addEquation yX2_addEquation, Cond.code yX2_addEquation cX2_addEquation 3 none, Cond.fieldLink RX2 9 "FountainCode$Peeler" "equationSets" "[J", Cond.methodLink RX5 197 yX1_addEquation, Cond.instanceMethod yX1_addEquation, Cond.selects RX1 yX1_addEquation yX1_addEquation, Cond.code yX1_addEquation cX1_addEquation 9 none, Cond.fieldLink RX1 19 "FountainCode$Elimination" "rowCount" "I", Cond.static yX5_lowestOf, Cond.code yX5_lowestOf cX5_lowestOf 2 (some .int), Cond.methodLink RX5 198 yJ13_bitCount_95d88, Cond.static yJ13_bitCount_95d88, Cond.initialized RJ13, Cond.code yJ13_bitCount_95d88 cJ13_bitCount_95d88 2 (some .int), Cond.constantLong RJ13 314 (6148914691236517205), Cond.constantLong RJ13 316 (3689348814741910323)]
def wsX5_receive_r6 : List Cond := [Cond.constantLong RJ13 318 (1085102592571150095), Cond.methodLink RX5 181 yX2_peelOn, Cond.instanceMethod yX2_peelOn, Cond.selects RX2 yX2_peelOn yX2_peelOn, Cond.code yX2_peelOn cX2_peelOn 4 (some .int), Cond.fieldLink RX2 26 "FountainCode$Peeler" "peeledCount" "I", Cond.methodLink RX2 39 yX2_lowestReady, Cond.instanceMethod yX2_lowestReady, Cond.selects RX2 yX2_lowestReady yX2_lowestReady, Cond.code yX2_lowestReady cX2_lowestReady 2 (some .int), Cond.fieldLink RX2 29 "FountainCode$Peeler" "peeledSet" "J", Cond.constantLong RX2 47 (-1), Cond.methodLink RX2 49 yJ13_bitCount_95d88, Cond.methodLink RX2 43 yX2_peelWith, Cond.instanceMethod yX2_peelWith, Cond.selects RX2 yX2_peelWith yX2_peelWith, Cond.code yX2_peelWith cX2_peelWith 3 none, Cond.fieldLink RX2 15 "FountainCode$Peeler" "peelOrder" "[I", Cond.fieldLink RX2 19 "FountainCode$Peeler" "peelEquations" "[I"]
def wsX5_receive : List Cond := .code yX5_receive cX5_receive 5 (some .int) :: ((wsX5_receive_r1 ++ (wsX5_receive_r2 ++ (wsX5_receive_r3 ++ (wsX5_receive_r4 ++ (wsX5_receive_r5 ++ wsX5_receive_r6))))) ++ wsX50 ++ wsX30 ++ wsX00 ++ wsX40 ++ wsX20 ++ wsX10 ++ (vx_atS RX5 69 "java/lang/IllegalStateException" ["java/lang/RuntimeException", "java/lang/Exception"]).filter goodWord)
def wsX5_receiveAll_r1 : List Cond := [Cond.classLink RX5 48 "java/lang/IllegalArgumentException", Cond.initialized "java/lang/IllegalArgumentException", Cond.fieldLink RX5 19 "FountainCode" "sender" "LFountainCode$Sender;", Cond.methodLink RX5 95 yX5_drawn, Cond.instanceMethod yX5_drawn, Cond.selects RX5 yX5_drawn yX5_drawn, Cond.initialized RX5, Cond.code yX5_drawn cX5_drawn 2 (some (.object "FountainCode$Drop")), Cond.fieldLink RX5 40 "FountainCode" "scratchDrop" "LFountainCode$Drop;", Cond.fieldLink RX5 12 "FountainCode" "weights" "LFountainCode$Weights;", Cond.methodLink RX5 86 yX3_blockCount, Cond.instanceMethod yX3_blockCount, Cond.selects RX3 yX3_blockCount yX3_blockCount, Cond.initialized RX3, Cond.code yX3_blockCount cX3_blockCount 1 (some .int), Cond.fieldLink RX3 15 "FountainCode$Sender" "sources" "I", Cond.fieldLink RX3 19 "FountainCode$Sender" "parities" "I", Cond.methodLink RX5 184 yX0_draw, Cond.instanceMethod yX0_draw, Cond.selects RX0 yX0_draw yX0_draw, Cond.initialized RX0, Cond.code yX0_draw cX0_draw 5 none, Cond.fieldLink RX0 15 "FountainCode$Drop" "generator" "J", Cond.methodLink RX0 32 Lib.Math.min.name]
def wsX5_receiveAll_r2 : List Cond := [Cond.static Lib.Math.min.name, Cond.initialized "java/lang/Math", Cond.code Lib.Math.min.name Lib.Math.min.code 2 (some .int), Cond.fieldLink RX0 38 "FountainCode$Drop" "size" "I", Cond.fieldLink RX0 46 "FountainCode$Drop" "blockSet" "J", Cond.fieldLink RX0 9 "FountainCode$Drop" "row" "[I", Cond.methodLink RX0 19 yX4_sum, Cond.instanceMethod yX4_sum, Cond.selects RX4 yX4_sum yX4_sum, Cond.initialized RX4, Cond.code yX4_sum cX4_sum 3 (some .int), Cond.fieldLink RX4 20 "FountainCode$Weights" "list" "[I", Cond.methodLink RX0 25 yX0_numberBelow, Cond.instanceMethod yX0_numberBelow, Cond.selects RX0 yX0_numberBelow yX0_numberBelow, Cond.code yX0_numberBelow cX0_numberBelow 2 (some .int), Cond.constantLong RX0 57 (6364136223846793005), Cond.constantLong RX0 59 (1442695040888963407), Cond.methodLink RX0 29 yX4_degreeFor, Cond.instanceMethod yX4_degreeFor, Cond.selects RX4 yX4_degreeFor yX4_degreeFor, Cond.code yX4_degreeFor cX4_degreeFor 4 (some .int), Cond.methodLink RX0 42 yX0_lineUp, Cond.instanceMethod yX0_lineUp]
def wsX5_receiveAll_r3 : List Cond := [Cond.selects RX0 yX0_lineUp yX0_lineUp, Cond.code yX0_lineUp cX0_lineUp 3 none, Cond.methodLink RX0 49 yX0_swap, Cond.instanceMethod yX0_swap, Cond.selects RX0 yX0_swap yX0_swap, Cond.code yX0_swap cX0_swap 4 none, Cond.static yX5_setOf, Cond.code yX5_setOf cX5_setOf 1 (some .long), Cond.methodLink RX5 107 yX0_blockSet, Cond.instanceMethod yX0_blockSet, Cond.selects RX0 yX0_blockSet yX0_blockSet, Cond.code yX0_blockSet cX0_blockSet 1 (some .long), Cond.methodLink RX5 111 yX3_valueOfSet, Cond.instanceMethod yX3_valueOfSet, Cond.selects RX3 yX3_valueOfSet yX3_valueOfSet, Cond.code yX3_valueOfSet cX3_valueOfSet 5 (some .int), Cond.methodLink RX3 35 yX3_valueOfSources, Cond.instanceMethod yX3_valueOfSources, Cond.selects RX3 yX3_valueOfSources yX3_valueOfSources, Cond.code yX3_valueOfSources cX3_valueOfSources 5 (some .int), Cond.fieldLink RX3 9 "FountainCode$Sender" "sourceValues" "[I", Cond.static yX5_holds, Cond.code yX5_holds cX5_holds 3 (some .boolean), Cond.methodLink RX5 150 yX5_setOf]
def wsX5_receiveAll_r4 : List Cond := [Cond.methodLink RX3 39 yX3_blockCount, Cond.methodLink RX3 47 yX3_valueOfBlock, Cond.instanceMethod yX3_valueOfBlock, Cond.selects RX3 yX3_valueOfBlock yX3_valueOfBlock, Cond.code yX3_valueOfBlock cX3_valueOfBlock 2 (some .int), Cond.methodLink RX3 32 yX3_coveredBy, Cond.instanceMethod yX3_coveredBy, Cond.selects RX3 yX3_coveredBy yX3_coveredBy, Cond.code yX3_coveredBy cX3_coveredBy 5 (some .long), Cond.methodLink RX5 115 yX5_canTake, Cond.instanceMethod yX5_canTake, Cond.selects RX5 yX5_canTake yX5_canTake, Cond.code yX5_canTake cX5_canTake 5 (some .boolean), Cond.fieldLink RX5 26 "FountainCode" "peeler" "LFountainCode$Peeler;", Cond.fieldLink RX5 33 "FountainCode" "elimination" "LFountainCode$Elimination;", Cond.methodLink RX5 127 yX2_equationCount, Cond.instanceMethod yX2_equationCount, Cond.selects RX2 yX2_equationCount yX2_equationCount, Cond.initialized RX2, Cond.code yX2_equationCount cX2_equationCount 1 (some .int), Cond.fieldLink RX2 22 "FountainCode$Peeler" "equationCount" "I", Cond.methodLink RX5 188 yX3_parityCount, Cond.instanceMethod yX3_parityCount, Cond.selects RX3 yX3_parityCount yX3_parityCount]
def wsX5_receiveAll_r5 : List Cond := [Cond.code yX3_parityCount cX3_parityCount 1 (some .int), Cond.methodLink RX5 191 yX1_contradicts, Cond.instanceMethod yX1_contradicts, Cond.selects RX1 yX1_contradicts yX1_contradicts, Cond.initialized RX1, Cond.code yX1_contradicts cX1_contradicts 4 (some .boolean), Cond.methodLink RX1 36 yX1_remainder, Cond.instanceMethod yX1_remainder, Cond.selects RX1 yX1_remainder yX1_remainder, Cond.code yX1_remainder cX1_remainder 6 (some .long), Cond.fieldLink RX1 9 "FountainCode$Elimination" "rows" "[J", Cond.methodLink RX1 40 yX1_knownValue, Cond.instanceMethod yX1_knownValue, Cond.selects RX1 yX1_knownValue yX1_knownValue, Cond.code yX1_knownValue cX1_knownValue 5 (some .int), Cond.fieldLink RX1 15 "FountainCode$Elimination" "values" "[I", Cond.methodLink RX5 121 yX5_take, Cond.instanceMethod yX5_take, Cond.selects RX5 yX5_take yX5_take, Cond.code yX5_take cX5_take 4 (some .int), Cond.methodLink RX5 177 yX5_addEquation, Cond.instanceMethod yX5_addEquation, Cond.selects RX5 yX5_addEquation yX5_addEquation, Cond.code yX5_addEquation cX5_addEquation 4 none]
def wsX5_receiveAll_r6 : List Cond := [Cond.methodLink RX5 194 yX2_addEquation, Cond.instanceMethod yX2_addEquation, Cond.selects RX2 yX2_addEquation yX2_addEquation, Cond.code yX2_addEquation cX2_addEquation 3 none, Cond.fieldLink RX2 9 "FountainCode$Peeler" "equationSets" "[J", Cond.methodLink RX5 197 yX1_addEquation, Cond.instanceMethod yX1_addEquation, Cond.selects RX1 yX1_addEquation yX1_addEquation, Cond.code yX1_addEquation cX1_addEquation 9 none, Cond.fieldLink RX1 19 "FountainCode$Elimination" "rowCount" "I", Cond.static yX5_lowestOf, Cond.code yX5_lowestOf cX5_lowestOf 2 (some .int), Cond.methodLink RX5 198 yJ13_bitCount_95d88, Cond.static yJ13_bitCount_95d88, Cond.initialized RJ13, Cond.code yJ13_bitCount_95d88 cJ13_bitCount_95d88 2 (some .int), Cond.constantLong RJ13 314 (6148914691236517205), Cond.constantLong RJ13 316 (3689348814741910323), Cond.constantLong RJ13 318 (1085102592571150095), Cond.methodLink RX5 181 yX2_peelOn, Cond.instanceMethod yX2_peelOn, Cond.selects RX2 yX2_peelOn yX2_peelOn, Cond.code yX2_peelOn cX2_peelOn 4 (some .int), Cond.fieldLink RX2 26 "FountainCode$Peeler" "peeledCount" "I"]
def wsX5_receiveAll_r7 : List Cond := [Cond.methodLink RX2 39 yX2_lowestReady, Cond.instanceMethod yX2_lowestReady, Cond.selects RX2 yX2_lowestReady yX2_lowestReady, Cond.code yX2_lowestReady cX2_lowestReady 2 (some .int), Cond.fieldLink RX2 29 "FountainCode$Peeler" "peeledSet" "J", Cond.constantLong RX2 47 (-1), Cond.methodLink RX2 49 yJ13_bitCount_95d88, Cond.methodLink RX2 43 yX2_peelWith, Cond.instanceMethod yX2_peelWith, Cond.selects RX2 yX2_peelWith yX2_peelWith, Cond.code yX2_peelWith cX2_peelWith 3 none, Cond.fieldLink RX2 15 "FountainCode$Peeler" "peelOrder" "[I", Cond.fieldLink RX2 19 "FountainCode$Peeler" "peelEquations" "[I"]
def wsX5_receiveAll : List Cond := .code yX5_receiveAll cX5_receiveAll 7 (some .int) :: ((wsX5_receiveAll_r1 ++ (wsX5_receiveAll_r2 ++ (wsX5_receiveAll_r3 ++ (wsX5_receiveAll_r4 ++ (wsX5_receiveAll_r5 ++ (wsX5_receiveAll_r6 ++ wsX5_receiveAll_r7)))))) ++ wsX50 ++ wsX30 ++ wsX00 ++ wsX40 ++ wsX20 ++ wsX10 ++ (vx_atS RX5 52 "java/lang/IllegalArgumentException" ["java/lang/RuntimeException", "java/lang/Exception"]).filter goodWord)
def wsX5_equations : List Cond := .code yX5_equations cX5_equations 1 (some .int) :: ([.fieldLink RX5 26 "FountainCode" "peeler" "LFountainCode$Peeler;", .methodLink RX5 127 yX2_equationCount, .instanceMethod yX2_equationCount, .selects RX2 yX2_equationCount yX2_equationCount, .initialized RX2, .code yX2_equationCount cX2_equationCount 1 (some .int), .fieldLink RX2 22 "FountainCode$Peeler" "equationCount" "I"] ++ wsX50 ++ wsX20)
def wsX5_rank : List Cond := .code yX5_rank cX5_rank 1 (some .int) :: ([.fieldLink RX5 33 "FountainCode" "elimination" "LFountainCode$Elimination;", .methodLink RX5 130 yX1_rowCount, .instanceMethod yX1_rowCount, .selects RX1 yX1_rowCount yX1_rowCount, .initialized RX1, .code yX1_rowCount cX1_rowCount 1 (some .int), .fieldLink RX1 19 "FountainCode$Elimination" "rowCount" "I"] ++ wsX50 ++ wsX10)
def wsX5_peeled : List Cond := .code yX5_peeled cX5_peeled 1 (some .int) :: ([.fieldLink RX5 26 "FountainCode" "peeler" "LFountainCode$Peeler;", .methodLink RX5 133 yX2_peeledCount, .instanceMethod yX2_peeledCount, .selects RX2 yX2_peeledCount yX2_peeledCount, .initialized RX2, .code yX2_peeledCount cX2_peeledCount 1 (some .int), .fieldLink RX2 26 "FountainCode$Peeler" "peeledCount" "I"] ++ wsX50 ++ wsX20)
def wsX5_peeledAt : List Cond := .code yX5_peeledAt cX5_peeledAt 2 (some .int) :: ([.classLink RX5 77 "java/lang/IndexOutOfBoundsException", .initialized "java/lang/IndexOutOfBoundsException", .fieldLink RX5 26 "FountainCode" "peeler" "LFountainCode$Peeler;", .methodLink RX5 133 yX2_peeledCount, .instanceMethod yX2_peeledCount, .selects RX2 yX2_peeledCount yX2_peeledCount, .initialized RX2, .code yX2_peeledCount cX2_peeledCount 1 (some .int), .fieldLink RX2 26 "FountainCode$Peeler" "peeledCount" "I", .methodLink RX5 136 yX2_peeledInPlace, .instanceMethod yX2_peeledInPlace, .selects RX2 yX2_peeledInPlace yX2_peeledInPlace, .code yX2_peeledInPlace cX2_peeledInPlace 2 (some .int), .fieldLink RX2 15 "FountainCode$Peeler" "peelOrder" "[I"] ++ wsX50 ++ wsX20 ++ (vx_atS RX5 81 "java/lang/IndexOutOfBoundsException" ["java/lang/RuntimeException", "java/lang/Exception"]).filter goodWord)
def wsX5_peeledBy : List Cond := .code yX5_peeledBy cX5_peeledBy 2 (some .int) :: ([.classLink RX5 77 "java/lang/IndexOutOfBoundsException", .initialized "java/lang/IndexOutOfBoundsException", .fieldLink RX5 26 "FountainCode" "peeler" "LFountainCode$Peeler;", .methodLink RX5 89 yX5_isBlock, .instanceMethod yX5_isBlock, .selects RX5 yX5_isBlock yX5_isBlock, .initialized RX5, .code yX5_isBlock cX5_isBlock 2 (some .boolean), .fieldLink RX5 19 "FountainCode" "sender" "LFountainCode$Sender;", .methodLink RX5 86 yX3_blockCount, .instanceMethod yX3_blockCount, .selects RX3 yX3_blockCount yX3_blockCount, .initialized RX3, .code yX3_blockCount cX3_blockCount 1 (some .int), .fieldLink RX3 15 "FountainCode$Sender" "sources" "I", .fieldLink RX3 19 "FountainCode$Sender" "parities" "I", .methodLink RX5 139 yX2_equationThatPeeled, .instanceMethod yX2_equationThatPeeled, .selects RX2 yX2_equationThatPeeled yX2_equationThatPeeled, .initialized RX2, .code yX2_equationThatPeeled cX2_equationThatPeeled 2 (some .int), .fieldLink RX2 19 "FountainCode$Peeler" "peelEquations" "[I"] ++ wsX50 ++ wsX30 ++ wsX20 ++ (vx_atS RX5 81 "java/lang/IndexOutOfBoundsException" ["java/lang/RuntimeException", "java/lang/Exception"]).filter goodWord)
def wsX5_determined : List Cond := .code yX5_determined cX5_determined 1 (some .int) :: ([.fieldLink RX5 33 "FountainCode" "elimination" "LFountainCode$Elimination;", .fieldLink RX5 19 "FountainCode" "sender" "LFountainCode$Sender;", .methodLink RX5 86 yX3_blockCount, .instanceMethod yX3_blockCount, .selects RX3 yX3_blockCount yX3_blockCount, .initialized RX3, .code yX3_blockCount cX3_blockCount 1 (some .int), .fieldLink RX3 15 "FountainCode$Sender" "sources" "I", .fieldLink RX3 19 "FountainCode$Sender" "parities" "I", .methodLink RX5 142 yX1_countLeaving, .instanceMethod yX1_countLeaving, .selects RX1 yX1_countLeaving yX1_countLeaving, .initialized RX1, .code yX1_countLeaving cX1_countLeaving 6 (some .int), .methodLink RX1 44 yX1_remainderOfBlock, .instanceMethod yX1_remainderOfBlock, .selects RX1 yX1_remainderOfBlock yX1_remainderOfBlock, .code yX1_remainderOfBlock cX1_remainderOfBlock 4 (some .long), .fieldLink RX1 9 "FountainCode$Elimination" "rows" "[J", .static yX5_setOf, .initialized RX5, .code yX5_setOf cX5_setOf 1 (some .long)] ++ wsX50 ++ wsX30 ++ wsX10)
def wsX5_isDetermined_r1 : List Cond := [Cond.classLink RX5 77 "java/lang/IndexOutOfBoundsException", Cond.initialized "java/lang/IndexOutOfBoundsException", Cond.fieldLink RX5 33 "FountainCode" "elimination" "LFountainCode$Elimination;", Cond.methodLink RX5 89 yX5_isBlock, Cond.instanceMethod yX5_isBlock, Cond.selects RX5 yX5_isBlock yX5_isBlock, Cond.initialized RX5, Cond.code yX5_isBlock cX5_isBlock 2 (some .boolean), Cond.fieldLink RX5 19 "FountainCode" "sender" "LFountainCode$Sender;", Cond.methodLink RX5 86 yX3_blockCount, Cond.instanceMethod yX3_blockCount, Cond.selects RX3 yX3_blockCount yX3_blockCount, Cond.initialized RX3, Cond.code yX3_blockCount cX3_blockCount 1 (some .int), Cond.fieldLink RX3 15 "FountainCode$Sender" "sources" "I", Cond.fieldLink RX3 19 "FountainCode$Sender" "parities" "I", Cond.methodLink RX5 145 yX1_fixes, Cond.instanceMethod yX1_fixes, Cond.selects RX1 yX1_fixes yX1_fixes, Cond.initialized RX1, Cond.code yX1_fixes cX1_fixes 2 (some .boolean), Cond.methodLink RX1 44 yX1_remainderOfBlock, Cond.instanceMethod yX1_remainderOfBlock, Cond.selects RX1 yX1_remainderOfBlock yX1_remainderOfBlock]
def wsX5_isDetermined_r2 : List Cond := [Cond.code yX1_remainderOfBlock cX1_remainderOfBlock 4 (some .long), Cond.fieldLink RX1 9 "FountainCode$Elimination" "rows" "[J", Cond.static yX5_setOf, Cond.code yX5_setOf cX5_setOf 1 (some .long)]
def wsX5_isDetermined : List Cond := .code yX5_isDetermined cX5_isDetermined 2 (some .boolean) :: ((wsX5_isDetermined_r1 ++ wsX5_isDetermined_r2) ++ wsX50 ++ wsX30 ++ wsX10 ++ (vx_atS RX5 81 "java/lang/IndexOutOfBoundsException" ["java/lang/RuntimeException", "java/lang/Exception"]).filter goodWord)
def wsX5_recovered_r1 : List Cond := [Cond.classLink RX5 77 "java/lang/IndexOutOfBoundsException", Cond.initialized "java/lang/IndexOutOfBoundsException", Cond.classLink RX5 65 "java/lang/IllegalStateException", Cond.initialized "java/lang/IllegalStateException", Cond.fieldLink RX5 33 "FountainCode" "elimination" "LFountainCode$Elimination;", Cond.methodLink RX5 89 yX5_isBlock, Cond.instanceMethod yX5_isBlock, Cond.selects RX5 yX5_isBlock yX5_isBlock, Cond.initialized RX5, Cond.code yX5_isBlock cX5_isBlock 2 (some .boolean), Cond.fieldLink RX5 19 "FountainCode" "sender" "LFountainCode$Sender;", Cond.methodLink RX5 86 yX3_blockCount, Cond.instanceMethod yX3_blockCount, Cond.selects RX3 yX3_blockCount yX3_blockCount, Cond.initialized RX3, Cond.code yX3_blockCount cX3_blockCount 1 (some .int), Cond.fieldLink RX3 15 "FountainCode$Sender" "sources" "I", Cond.fieldLink RX3 19 "FountainCode$Sender" "parities" "I", Cond.methodLink RX5 145 yX1_fixes, Cond.instanceMethod yX1_fixes, Cond.selects RX1 yX1_fixes yX1_fixes, Cond.initialized RX1, Cond.code yX1_fixes cX1_fixes 2 (some .boolean), Cond.methodLink RX1 44 yX1_remainderOfBlock]
def wsX5_recovered_r2 : List Cond := [Cond.instanceMethod yX1_remainderOfBlock, Cond.selects RX1 yX1_remainderOfBlock yX1_remainderOfBlock, Cond.code yX1_remainderOfBlock cX1_remainderOfBlock 4 (some .long), Cond.fieldLink RX1 9 "FountainCode$Elimination" "rows" "[J", Cond.static yX5_setOf, Cond.code yX5_setOf cX5_setOf 1 (some .long), Cond.methodLink RX5 150 yX5_setOf, Cond.methodLink RX5 154 yX1_knownValue, Cond.instanceMethod yX1_knownValue, Cond.selects RX1 yX1_knownValue yX1_knownValue, Cond.code yX1_knownValue cX1_knownValue 5 (some .int), Cond.fieldLink RX1 15 "FountainCode$Elimination" "values" "[I", Cond.static yX5_holds, Cond.code yX5_holds cX5_holds 3 (some .boolean)]
def wsX5_recovered : List Cond := .code yX5_recovered cX5_recovered 2 (some .int) :: ((wsX5_recovered_r1 ++ wsX5_recovered_r2) ++ wsX50 ++ wsX30 ++ wsX10 ++ (vx_atS RX5 81 "java/lang/IndexOutOfBoundsException" ["java/lang/RuntimeException", "java/lang/Exception"]).filter goodWord ++ (vx_atS RX5 69 "java/lang/IllegalStateException" ["java/lang/RuntimeException", "java/lang/Exception"]).filter goodWord)
def wsX5_wouldHelp_r1 : List Cond := [Cond.fieldLink RX5 33 "FountainCode" "elimination" "LFountainCode$Elimination;", Cond.methodLink RX5 95 yX5_drawn, Cond.instanceMethod yX5_drawn, Cond.selects RX5 yX5_drawn yX5_drawn, Cond.initialized RX5, Cond.code yX5_drawn cX5_drawn 2 (some (.object "FountainCode$Drop")), Cond.fieldLink RX5 40 "FountainCode" "scratchDrop" "LFountainCode$Drop;", Cond.fieldLink RX5 12 "FountainCode" "weights" "LFountainCode$Weights;", Cond.fieldLink RX5 19 "FountainCode" "sender" "LFountainCode$Sender;", Cond.methodLink RX5 86 yX3_blockCount, Cond.instanceMethod yX3_blockCount, Cond.selects RX3 yX3_blockCount yX3_blockCount, Cond.initialized RX3, Cond.code yX3_blockCount cX3_blockCount 1 (some .int), Cond.fieldLink RX3 15 "FountainCode$Sender" "sources" "I", Cond.fieldLink RX3 19 "FountainCode$Sender" "parities" "I", Cond.methodLink RX5 184 yX0_draw, Cond.instanceMethod yX0_draw, Cond.selects RX0 yX0_draw yX0_draw, Cond.initialized RX0, Cond.code yX0_draw cX0_draw 5 none, Cond.fieldLink RX0 15 "FountainCode$Drop" "generator" "J", Cond.methodLink RX0 32 Lib.Math.min.name, Cond.static Lib.Math.min.name]
def wsX5_wouldHelp_r2 : List Cond := [Cond.initialized "java/lang/Math", Cond.code Lib.Math.min.name Lib.Math.min.code 2 (some .int), Cond.fieldLink RX0 38 "FountainCode$Drop" "size" "I", Cond.fieldLink RX0 46 "FountainCode$Drop" "blockSet" "J", Cond.fieldLink RX0 9 "FountainCode$Drop" "row" "[I", Cond.methodLink RX0 19 yX4_sum, Cond.instanceMethod yX4_sum, Cond.selects RX4 yX4_sum yX4_sum, Cond.initialized RX4, Cond.code yX4_sum cX4_sum 3 (some .int), Cond.fieldLink RX4 20 "FountainCode$Weights" "list" "[I", Cond.methodLink RX0 25 yX0_numberBelow, Cond.instanceMethod yX0_numberBelow, Cond.selects RX0 yX0_numberBelow yX0_numberBelow, Cond.code yX0_numberBelow cX0_numberBelow 2 (some .int), Cond.constantLong RX0 57 (6364136223846793005), Cond.constantLong RX0 59 (1442695040888963407), Cond.methodLink RX0 29 yX4_degreeFor, Cond.instanceMethod yX4_degreeFor, Cond.selects RX4 yX4_degreeFor yX4_degreeFor, Cond.code yX4_degreeFor cX4_degreeFor 4 (some .int), Cond.methodLink RX0 42 yX0_lineUp, Cond.instanceMethod yX0_lineUp, Cond.selects RX0 yX0_lineUp yX0_lineUp]
def wsX5_wouldHelp_r3 : List Cond := [Cond.code yX0_lineUp cX0_lineUp 3 none, Cond.methodLink RX0 49 yX0_swap, Cond.instanceMethod yX0_swap, Cond.selects RX0 yX0_swap yX0_swap, Cond.code yX0_swap cX0_swap 4 none, Cond.static yX5_setOf, Cond.code yX5_setOf cX5_setOf 1 (some .long), Cond.methodLink RX5 107 yX0_blockSet, Cond.instanceMethod yX0_blockSet, Cond.selects RX0 yX0_blockSet yX0_blockSet, Cond.code yX0_blockSet cX0_blockSet 1 (some .long), Cond.methodLink RX5 157 yX1_remainder, Cond.instanceMethod yX1_remainder, Cond.selects RX1 yX1_remainder yX1_remainder, Cond.initialized RX1, Cond.code yX1_remainder cX1_remainder 6 (some .long), Cond.fieldLink RX1 9 "FountainCode$Elimination" "rows" "[J", Cond.static yX5_holds, Cond.code yX5_holds cX5_holds 3 (some .boolean), Cond.methodLink RX5 150 yX5_setOf]
def wsX5_wouldHelp : List Cond := .code yX5_wouldHelp cX5_wouldHelp 2 (some .boolean) :: ((wsX5_wouldHelp_r1 ++ (wsX5_wouldHelp_r2 ++ wsX5_wouldHelp_r3)) ++ wsX50 ++ wsX30 ++ wsX00 ++ wsX40 ++ wsX10)
def wsX5_wouldDetermine_r1 : List Cond := [Cond.fieldLink RX5 33 "FountainCode" "elimination" "LFountainCode$Elimination;", Cond.fieldLink RX5 19 "FountainCode" "sender" "LFountainCode$Sender;", Cond.methodLink RX5 95 yX5_drawn, Cond.instanceMethod yX5_drawn, Cond.selects RX5 yX5_drawn yX5_drawn, Cond.initialized RX5, Cond.code yX5_drawn cX5_drawn 2 (some (.object "FountainCode$Drop")), Cond.fieldLink RX5 40 "FountainCode" "scratchDrop" "LFountainCode$Drop;", Cond.fieldLink RX5 12 "FountainCode" "weights" "LFountainCode$Weights;", Cond.methodLink RX5 86 yX3_blockCount, Cond.instanceMethod yX3_blockCount, Cond.selects RX3 yX3_blockCount yX3_blockCount, Cond.initialized RX3, Cond.code yX3_blockCount cX3_blockCount 1 (some .int), Cond.fieldLink RX3 15 "FountainCode$Sender" "sources" "I", Cond.fieldLink RX3 19 "FountainCode$Sender" "parities" "I", Cond.methodLink RX5 184 yX0_draw, Cond.instanceMethod yX0_draw, Cond.selects RX0 yX0_draw yX0_draw, Cond.initialized RX0, Cond.code yX0_draw cX0_draw 5 none, Cond.fieldLink RX0 15 "FountainCode$Drop" "generator" "J", Cond.methodLink RX0 32 Lib.Math.min.name, Cond.static Lib.Math.min.name]
def wsX5_wouldDetermine_r2 : List Cond := [Cond.initialized "java/lang/Math", Cond.code Lib.Math.min.name Lib.Math.min.code 2 (some .int), Cond.fieldLink RX0 38 "FountainCode$Drop" "size" "I", Cond.fieldLink RX0 46 "FountainCode$Drop" "blockSet" "J", Cond.fieldLink RX0 9 "FountainCode$Drop" "row" "[I", Cond.methodLink RX0 19 yX4_sum, Cond.instanceMethod yX4_sum, Cond.selects RX4 yX4_sum yX4_sum, Cond.initialized RX4, Cond.code yX4_sum cX4_sum 3 (some .int), Cond.fieldLink RX4 20 "FountainCode$Weights" "list" "[I", Cond.methodLink RX0 25 yX0_numberBelow, Cond.instanceMethod yX0_numberBelow, Cond.selects RX0 yX0_numberBelow yX0_numberBelow, Cond.code yX0_numberBelow cX0_numberBelow 2 (some .int), Cond.constantLong RX0 57 (6364136223846793005), Cond.constantLong RX0 59 (1442695040888963407), Cond.methodLink RX0 29 yX4_degreeFor, Cond.instanceMethod yX4_degreeFor, Cond.selects RX4 yX4_degreeFor yX4_degreeFor, Cond.code yX4_degreeFor cX4_degreeFor 4 (some .int), Cond.methodLink RX0 42 yX0_lineUp, Cond.instanceMethod yX0_lineUp, Cond.selects RX0 yX0_lineUp yX0_lineUp]
def wsX5_wouldDetermine_r3 : List Cond := [Cond.code yX0_lineUp cX0_lineUp 3 none, Cond.methodLink RX0 49 yX0_swap, Cond.instanceMethod yX0_swap, Cond.selects RX0 yX0_swap yX0_swap, Cond.code yX0_swap cX0_swap 4 none, Cond.static yX5_setOf, Cond.code yX5_setOf cX5_setOf 1 (some .long), Cond.methodLink RX5 107 yX0_blockSet, Cond.instanceMethod yX0_blockSet, Cond.selects RX0 yX0_blockSet yX0_blockSet, Cond.code yX0_blockSet cX0_blockSet 1 (some .long), Cond.methodLink RX5 157 yX1_remainder, Cond.instanceMethod yX1_remainder, Cond.selects RX1 yX1_remainder yX1_remainder, Cond.initialized RX1, Cond.code yX1_remainder cX1_remainder 6 (some .long), Cond.fieldLink RX1 9 "FountainCode$Elimination" "rows" "[J", Cond.static yX5_holds, Cond.code yX5_holds cX5_holds 3 (some .boolean), Cond.methodLink RX5 150 yX5_setOf, Cond.methodLink RX5 142 yX1_countLeaving, Cond.instanceMethod yX1_countLeaving, Cond.selects RX1 yX1_countLeaving yX1_countLeaving, Cond.code yX1_countLeaving cX1_countLeaving 6 (some .int)]
def wsX5_wouldDetermine_r4 : List Cond := [Cond.methodLink RX1 44 yX1_remainderOfBlock, Cond.instanceMethod yX1_remainderOfBlock, Cond.selects RX1 yX1_remainderOfBlock yX1_remainderOfBlock, Cond.code yX1_remainderOfBlock cX1_remainderOfBlock 4 (some .long)]
def wsX5_wouldDetermine : List Cond := .code yX5_wouldDetermine cX5_wouldDetermine 4 (some .int) :: ((wsX5_wouldDetermine_r1 ++ (wsX5_wouldDetermine_r2 ++ (wsX5_wouldDetermine_r3 ++ wsX5_wouldDetermine_r4))) ++ wsX50 ++ wsX30 ++ wsX00 ++ wsX40 ++ wsX10)
def wsX5_missing : List Cond := .code yX5_missing cX5_missing 1 (some .int) :: ([.fieldLink RX5 19 "FountainCode" "sender" "LFountainCode$Sender;", .fieldLink RX5 33 "FountainCode" "elimination" "LFountainCode$Elimination;", .methodLink RX5 86 yX3_blockCount, .instanceMethod yX3_blockCount, .selects RX3 yX3_blockCount yX3_blockCount, .initialized RX3, .code yX3_blockCount cX3_blockCount 1 (some .int), .fieldLink RX3 15 "FountainCode$Sender" "sources" "I", .fieldLink RX3 19 "FountainCode$Sender" "parities" "I", .methodLink RX5 130 yX1_rowCount, .instanceMethod yX1_rowCount, .selects RX1 yX1_rowCount yX1_rowCount, .initialized RX1, .code yX1_rowCount cX1_rowCount 1 (some .int), .fieldLink RX1 19 "FountainCode$Elimination" "rowCount" "I"] ++ wsX50 ++ wsX30 ++ wsX10)
def wsX5_nextHelpful_r1 : List Cond := [Cond.methodLink RX5 161 yX5_missing, Cond.instanceMethod yX5_missing, Cond.selects RX5 yX5_missing yX5_missing, Cond.initialized RX5, Cond.code yX5_missing cX5_missing 1 (some .int), Cond.fieldLink RX5 19 "FountainCode" "sender" "LFountainCode$Sender;", Cond.fieldLink RX5 33 "FountainCode" "elimination" "LFountainCode$Elimination;", Cond.methodLink RX5 86 yX3_blockCount, Cond.instanceMethod yX3_blockCount, Cond.selects RX3 yX3_blockCount yX3_blockCount, Cond.initialized RX3, Cond.code yX3_blockCount cX3_blockCount 1 (some .int), Cond.fieldLink RX3 15 "FountainCode$Sender" "sources" "I", Cond.fieldLink RX3 19 "FountainCode$Sender" "parities" "I", Cond.methodLink RX5 130 yX1_rowCount, Cond.instanceMethod yX1_rowCount, Cond.selects RX1 yX1_rowCount yX1_rowCount, Cond.initialized RX1, Cond.code yX1_rowCount cX1_rowCount 1 (some .int), Cond.fieldLink RX1 19 "FountainCode$Elimination" "rowCount" "I", Cond.methodLink RX5 164 yX5_wouldHelp, Cond.instanceMethod yX5_wouldHelp, Cond.selects RX5 yX5_wouldHelp yX5_wouldHelp, Cond.code yX5_wouldHelp cX5_wouldHelp 2 (some .boolean)]
def wsX5_nextHelpful_r2 : List Cond := [Cond.methodLink RX5 95 yX5_drawn, Cond.instanceMethod yX5_drawn, Cond.selects RX5 yX5_drawn yX5_drawn, Cond.code yX5_drawn cX5_drawn 2 (some (.object "FountainCode$Drop")), Cond.fieldLink RX5 40 "FountainCode" "scratchDrop" "LFountainCode$Drop;", Cond.fieldLink RX5 12 "FountainCode" "weights" "LFountainCode$Weights;", Cond.methodLink RX5 184 yX0_draw, Cond.instanceMethod yX0_draw, Cond.selects RX0 yX0_draw yX0_draw, Cond.initialized RX0, Cond.code yX0_draw cX0_draw 5 none, Cond.fieldLink RX0 15 "FountainCode$Drop" "generator" "J", Cond.methodLink RX0 32 Lib.Math.min.name, Cond.static Lib.Math.min.name, Cond.initialized "java/lang/Math", Cond.code Lib.Math.min.name Lib.Math.min.code 2 (some .int), Cond.fieldLink RX0 38 "FountainCode$Drop" "size" "I", Cond.fieldLink RX0 46 "FountainCode$Drop" "blockSet" "J", Cond.fieldLink RX0 9 "FountainCode$Drop" "row" "[I", Cond.methodLink RX0 19 yX4_sum, Cond.instanceMethod yX4_sum, Cond.selects RX4 yX4_sum yX4_sum, Cond.initialized RX4, Cond.code yX4_sum cX4_sum 3 (some .int)]
def wsX5_nextHelpful_r3 : List Cond := [Cond.fieldLink RX4 20 "FountainCode$Weights" "list" "[I", Cond.methodLink RX0 25 yX0_numberBelow, Cond.instanceMethod yX0_numberBelow, Cond.selects RX0 yX0_numberBelow yX0_numberBelow, Cond.code yX0_numberBelow cX0_numberBelow 2 (some .int), Cond.constantLong RX0 57 (6364136223846793005), Cond.constantLong RX0 59 (1442695040888963407), Cond.methodLink RX0 29 yX4_degreeFor, Cond.instanceMethod yX4_degreeFor, Cond.selects RX4 yX4_degreeFor yX4_degreeFor, Cond.code yX4_degreeFor cX4_degreeFor 4 (some .int), Cond.methodLink RX0 42 yX0_lineUp, Cond.instanceMethod yX0_lineUp, Cond.selects RX0 yX0_lineUp yX0_lineUp, Cond.code yX0_lineUp cX0_lineUp 3 none, Cond.methodLink RX0 49 yX0_swap, Cond.instanceMethod yX0_swap, Cond.selects RX0 yX0_swap yX0_swap, Cond.code yX0_swap cX0_swap 4 none, Cond.static yX5_setOf, Cond.code yX5_setOf cX5_setOf 1 (some .long), Cond.methodLink RX5 107 yX0_blockSet, Cond.instanceMethod yX0_blockSet, Cond.selects RX0 yX0_blockSet yX0_blockSet]
def wsX5_nextHelpful_r4 : List Cond := [Cond.code yX0_blockSet cX0_blockSet 1 (some .long), Cond.methodLink RX5 157 yX1_remainder, Cond.instanceMethod yX1_remainder, Cond.selects RX1 yX1_remainder yX1_remainder, Cond.code yX1_remainder cX1_remainder 6 (some .long), Cond.fieldLink RX1 9 "FountainCode$Elimination" "rows" "[J", Cond.static yX5_holds, Cond.code yX5_holds cX5_holds 3 (some .boolean), Cond.methodLink RX5 150 yX5_setOf]
def wsX5_nextHelpful : List Cond := .code yX5_nextHelpful cX5_nextHelpful 3 (some .int) :: ((wsX5_nextHelpful_r1 ++ (wsX5_nextHelpful_r2 ++ (wsX5_nextHelpful_r3 ++ wsX5_nextHelpful_r4))) ++ wsX50 ++ wsX30 ++ wsX10 ++ wsX00 ++ wsX40)
def wsX6_clear : List Cond := .code yX6_clear cX6_clear 2 none :: ([.fieldLink RX6 68 "FountainCodeModel" "many" "I", .fieldLink RX6 71 "FountainCodeModel" "drops" "I", .fieldLink RX6 74 "FountainCodeModel" "peeled" "I", .fieldLink RX6 77 "FountainCodeModel" "peeledMask" "J", .fieldLink RX6 33 "FountainCodeModel" "by" "[I", .fieldLink RX6 36 "FountainCodeModel" "rows" "[J", .fieldLink RX6 39 "FountainCodeModel" "rowNumbers" "[I"] ++ wsX60)
def wsX6_init_r1 : List Cond := [Cond.methodLink RX6 1 objectInit, Cond.instanceMethod objectInit, Cond.code objectInit ⟨#[0xb1]⟩ 1 none, Cond.arrayClass .int, Cond.fieldLink RX6 7 "FountainCodeModel" "weights" "[I", Cond.fieldLink RX6 13 "FountainCodeModel" "sources" "I", Cond.fieldLink RX6 17 "FountainCodeModel" "blocks" "I", Cond.fieldLink RX6 20 "FountainCodeModel" "values" "[I", Cond.arrayClass .long, Cond.fieldLink RX6 23 "FountainCodeModel" "masks" "[J", Cond.fieldLink RX6 27 "FountainCodeModel" "numbers" "[I", Cond.fieldLink RX6 30 "FountainCodeModel" "order" "[I", Cond.fieldLink RX6 33 "FountainCodeModel" "by" "[I", Cond.fieldLink RX6 36 "FountainCodeModel" "rows" "[J", Cond.fieldLink RX6 39 "FountainCodeModel" "rowNumbers" "[I", Cond.fieldLink RX6 42 "FountainCodeModel" "rowsKept" "[J", Cond.fieldLink RX6 45 "FountainCodeModel" "rowNumbersKept" "[I", Cond.fieldLink RX6 48 "FountainCodeModel" "drawn" "[I", Cond.methodLink RX6 51 yX6_clear, Cond.instanceMethod yX6_clear, Cond.selects RX6 yX6_clear yX6_clear, Cond.initialized RX6, Cond.code yX6_clear cX6_clear 2 none, Cond.fieldLink RX6 68 "FountainCodeModel" "many" "I"]
def wsX6_init_r2 : List Cond := [Cond.fieldLink RX6 71 "FountainCodeModel" "drops" "I", Cond.fieldLink RX6 74 "FountainCodeModel" "peeled" "I", Cond.fieldLink RX6 77 "FountainCodeModel" "peeledMask" "J"]
def wsX6_init : List Cond := .code yX6_init cX6_init 2 none :: ((wsX6_init_r1 ++ wsX6_init_r2) ++ wsX60)
def wsX6_thrown : List Cond := .code yX6_thrown cX6_thrown 1 (some .int) :: ([.fieldLink RX6 54 "FountainCodeModel" "refusal" "I"] ++ wsX60)
def wsX6_refused : List Cond := .code yX6_refused cX6_refused 2 (some .boolean) :: ([.fieldLink RX6 54 "FountainCodeModel" "refusal" "I"] ++ wsX60)
def wsX6_told : List Cond := .code yX6_told cX6_told 2 (some .int) :: ([.fieldLink RX6 54 "FountainCodeModel" "refusal" "I"] ++ wsX60)
def wsX6_within : List Cond := .code yX6_within cX6_within 3 (some .boolean) :: ([])
def wsX6_isBlock : List Cond := .code yX6_isBlock cX6_isBlock 2 (some .boolean) :: ([.fieldLink RX6 17 "FountainCodeModel" "blocks" "I", .methodLink RX6 57 yX6_within, .static yX6_within, .initialized RX6, .code yX6_within cX6_within 3 (some .boolean)] ++ wsX60)
def wsX6_noBlock : List Cond := .code yX6_noBlock cX6_noBlock 2 (some .boolean) :: ([.methodLink RX6 61 yX6_isBlock, .instanceMethod yX6_isBlock, .selects RX6 yX6_isBlock yX6_isBlock, .initialized RX6, .code yX6_isBlock cX6_isBlock 2 (some .boolean), .fieldLink RX6 17 "FountainCodeModel" "blocks" "I", .methodLink RX6 57 yX6_within, .static yX6_within, .code yX6_within cX6_within 3 (some .boolean), .methodLink RX6 65 yX6_refused, .instanceMethod yX6_refused, .selects RX6 yX6_refused yX6_refused, .code yX6_refused cX6_refused 2 (some .boolean), .fieldLink RX6 54 "FountainCodeModel" "refusal" "I"] ++ wsX60)
def wsX6_covers : List Cond := .code yX6_covers cX6_covers 2 (some .boolean) :: ([])
def wsX6_valueAt : List Cond := .code yX6_valueAt cX6_valueAt 4 (some .int) :: ([.fieldLink RX6 13 "FountainCodeModel" "sources" "I", .fieldLink RX6 20 "FountainCodeModel" "values" "[I", .methodLink RX6 81 yX6_covers, .static yX6_covers, .initialized RX6, .code yX6_covers cX6_covers 2 (some .boolean)] ++ wsX60)
def wsX6_draw : List Cond := .code yX6_draw cX6_draw 2 (some .int) :: ([.fieldLink RX6 85 "FountainCodeModel" "generator" "J", .constantLong RX6 88 (6364136223846793005), .constantLong RX6 90 (1442695040888963407)] ++ wsX60)
def wsX6_drawDrop : List Cond := .code yX6_drawDrop cX6_drawDrop 9 none :: ([.fieldLink RX6 85 "FountainCodeModel" "generator" "J", .fieldLink RX6 7 "FountainCodeModel" "weights" "[I", .fieldLink RX6 17 "FountainCodeModel" "blocks" "I", .fieldLink RX6 96 "FountainCodeModel" "drawnMany" "I", .fieldLink RX6 48 "FountainCodeModel" "drawn" "[I", .methodLink RX6 92 yX6_draw, .instanceMethod yX6_draw, .selects RX6 yX6_draw yX6_draw, .initialized RX6, .code yX6_draw cX6_draw 2 (some .int), .constantLong RX6 88 (6364136223846793005), .constantLong RX6 90 (1442695040888963407)] ++ wsX60)
def wsX6_maskOf : List Cond := .code yX6_maskOf cX6_maskOf 5 (some .long) :: ([.fieldLink RX6 96 "FountainCodeModel" "drawnMany" "I", .fieldLink RX6 48 "FountainCodeModel" "drawn" "[I", .methodLink RX6 99 yX6_drawDrop, .instanceMethod yX6_drawDrop, .selects RX6 yX6_drawDrop yX6_drawDrop, .initialized RX6, .code yX6_drawDrop cX6_drawDrop 9 none, .fieldLink RX6 85 "FountainCodeModel" "generator" "J", .fieldLink RX6 7 "FountainCodeModel" "weights" "[I", .fieldLink RX6 17 "FountainCodeModel" "blocks" "I", .methodLink RX6 92 yX6_draw, .instanceMethod yX6_draw, .selects RX6 yX6_draw yX6_draw, .code yX6_draw cX6_draw 2 (some .int), .constantLong RX6 88 (6364136223846793005), .constantLong RX6 90 (1442695040888963407)] ++ wsX60)
def wsX6_numberOf_r1 : List Cond := [Cond.fieldLink RX6 96 "FountainCodeModel" "drawnMany" "I", Cond.fieldLink RX6 48 "FountainCodeModel" "drawn" "[I", Cond.methodLink RX6 99 yX6_drawDrop, Cond.instanceMethod yX6_drawDrop, Cond.selects RX6 yX6_drawDrop yX6_drawDrop, Cond.initialized RX6, Cond.code yX6_drawDrop cX6_drawDrop 9 none, Cond.fieldLink RX6 85 "FountainCodeModel" "generator" "J", Cond.fieldLink RX6 7 "FountainCodeModel" "weights" "[I", Cond.fieldLink RX6 17 "FountainCodeModel" "blocks" "I", Cond.methodLink RX6 92 yX6_draw, Cond.instanceMethod yX6_draw, Cond.selects RX6 yX6_draw yX6_draw, Cond.code yX6_draw cX6_draw 2 (some .int), Cond.constantLong RX6 88 (6364136223846793005), Cond.constantLong RX6 90 (1442695040888963407), Cond.methodLink RX6 103 yX6_valueAt, Cond.instanceMethod yX6_valueAt, Cond.selects RX6 yX6_valueAt yX6_valueAt, Cond.code yX6_valueAt cX6_valueAt 4 (some .int), Cond.fieldLink RX6 13 "FountainCodeModel" "sources" "I", Cond.fieldLink RX6 20 "FountainCodeModel" "values" "[I", Cond.methodLink RX6 81 yX6_covers, Cond.static yX6_covers]
def wsX6_numberOf_r2 : List Cond := [Cond.code yX6_covers cX6_covers 2 (some .boolean)]
def wsX6_numberOf : List Cond := .code yX6_numberOf cX6_numberOf 4 (some .int) :: ((wsX6_numberOf_r1 ++ wsX6_numberOf_r2) ++ wsX60)
def wsX6_reduce : List Cond := .code yX6_reduce cX6_reduce 5 none :: ([.fieldLink RX6 106 "FountainCodeModel" "reduced" "J", .fieldLink RX6 109 "FountainCodeModel" "reducedNumber" "I", .fieldLink RX6 17 "FountainCodeModel" "blocks" "I", .fieldLink RX6 36 "FountainCodeModel" "rows" "[J", .fieldLink RX6 39 "FountainCodeModel" "rowNumbers" "[I"] ++ wsX60)
def wsX6_layRow : List Cond := .code yX6_layRow cX6_layRow 3 none :: ([.fieldLink RX6 106 "FountainCodeModel" "reduced" "J", .fieldLink RX6 17 "FountainCodeModel" "blocks" "I", .fieldLink RX6 36 "FountainCodeModel" "rows" "[J", .fieldLink RX6 39 "FountainCodeModel" "rowNumbers" "[I", .fieldLink RX6 109 "FountainCodeModel" "reducedNumber" "I"] ++ wsX60)
def wsX6_addEquation : List Cond := .code yX6_addEquation cX6_addEquation 4 none :: ([.fieldLink RX6 23 "FountainCodeModel" "masks" "[J", .fieldLink RX6 68 "FountainCodeModel" "many" "I", .fieldLink RX6 27 "FountainCodeModel" "numbers" "[I", .methodLink RX6 112 yX6_reduce, .instanceMethod yX6_reduce, .selects RX6 yX6_reduce yX6_reduce, .initialized RX6, .code yX6_reduce cX6_reduce 5 none, .fieldLink RX6 106 "FountainCodeModel" "reduced" "J", .fieldLink RX6 109 "FountainCodeModel" "reducedNumber" "I", .fieldLink RX6 17 "FountainCodeModel" "blocks" "I", .fieldLink RX6 36 "FountainCodeModel" "rows" "[J", .fieldLink RX6 39 "FountainCodeModel" "rowNumbers" "[I", .methodLink RX6 116 yX6_layRow, .instanceMethod yX6_layRow, .selects RX6 yX6_layRow yX6_layRow, .code yX6_layRow cX6_layRow 3 none] ++ wsX60)
def wsX6_peel : List Cond := .code yX6_peel cX6_peel 7 (some .int) :: ([.fieldLink RX6 74 "FountainCodeModel" "peeled" "I", .fieldLink RX6 68 "FountainCodeModel" "many" "I", .fieldLink RX6 23 "FountainCodeModel" "masks" "[J", .fieldLink RX6 77 "FountainCodeModel" "peeledMask" "J", .constantLong RX6 119 (-1), .fieldLink RX6 30 "FountainCodeModel" "order" "[I", .fieldLink RX6 33 "FountainCodeModel" "by" "[I"] ++ wsX60)
def wsX6_rankOf : List Cond := .code yX6_rankOf cX6_rankOf 3 (some .int) :: ([.fieldLink RX6 17 "FountainCodeModel" "blocks" "I", .fieldLink RX6 36 "FountainCodeModel" "rows" "[J"] ++ wsX60)
def wsX6_determinedMany : List Cond := .code yX6_determinedMany cX6_determinedMany 3 (some .int) :: ([.fieldLink RX6 17 "FountainCodeModel" "blocks" "I", .fieldLink RX6 36 "FountainCodeModel" "rows" "[J"] ++ wsX60)
def wsX6_start_r1 : List Cond := [Cond.fieldLink RX6 13 "FountainCodeModel" "sources" "I", Cond.fieldLink RX6 17 "FountainCodeModel" "blocks" "I", Cond.fieldLink RX6 20 "FountainCodeModel" "values" "[I", Cond.methodLink RX6 57 yX6_within, Cond.static yX6_within, Cond.initialized RX6, Cond.code yX6_within cX6_within 3 (some .boolean), Cond.methodLink RX6 65 yX6_refused, Cond.instanceMethod yX6_refused, Cond.selects RX6 yX6_refused yX6_refused, Cond.code yX6_refused cX6_refused 2 (some .boolean), Cond.fieldLink RX6 54 "FountainCodeModel" "refusal" "I", Cond.methodLink RX6 51 yX6_clear, Cond.instanceMethod yX6_clear, Cond.selects RX6 yX6_clear yX6_clear, Cond.code yX6_clear cX6_clear 2 none, Cond.fieldLink RX6 68 "FountainCodeModel" "many" "I", Cond.fieldLink RX6 71 "FountainCodeModel" "drops" "I", Cond.fieldLink RX6 74 "FountainCodeModel" "peeled" "I", Cond.fieldLink RX6 77 "FountainCodeModel" "peeledMask" "J", Cond.fieldLink RX6 33 "FountainCodeModel" "by" "[I", Cond.fieldLink RX6 36 "FountainCodeModel" "rows" "[J", Cond.fieldLink RX6 39 "FountainCodeModel" "rowNumbers" "[I", Cond.methodLink RX6 81 yX6_covers]
def wsX6_start_r2 : List Cond := [Cond.static yX6_covers, Cond.code yX6_covers cX6_covers 2 (some .boolean), Cond.methodLink RX6 121 yX6_addEquation, Cond.instanceMethod yX6_addEquation, Cond.selects RX6 yX6_addEquation yX6_addEquation, Cond.code yX6_addEquation cX6_addEquation 4 none, Cond.fieldLink RX6 23 "FountainCodeModel" "masks" "[J", Cond.fieldLink RX6 27 "FountainCodeModel" "numbers" "[I", Cond.methodLink RX6 112 yX6_reduce, Cond.instanceMethod yX6_reduce, Cond.selects RX6 yX6_reduce yX6_reduce, Cond.code yX6_reduce cX6_reduce 5 none, Cond.fieldLink RX6 106 "FountainCodeModel" "reduced" "J", Cond.fieldLink RX6 109 "FountainCodeModel" "reducedNumber" "I", Cond.methodLink RX6 116 yX6_layRow, Cond.instanceMethod yX6_layRow, Cond.selects RX6 yX6_layRow yX6_layRow, Cond.code yX6_layRow cX6_layRow 3 none, Cond.methodLink RX6 124 yX6_peel, Cond.instanceMethod yX6_peel, Cond.selects RX6 yX6_peel yX6_peel, Cond.code yX6_peel cX6_peel 7 (some .int), Cond.constantLong RX6 119 (-1), Cond.fieldLink RX6 30 "FountainCodeModel" "order" "[I"]
def wsX6_start : List Cond := .code yX6_start cX6_start 7 (some .int) :: ((wsX6_start_r1 ++ wsX6_start_r2) ++ wsX60)
def wsX6_setWeight : List Cond := .code yX6_setWeight cX6_setWeight 6 (some .int) :: ([.fieldLink RX6 7 "FountainCodeModel" "weights" "[I", .methodLink RX6 57 yX6_within, .static yX6_within, .initialized RX6, .code yX6_within cX6_within 3 (some .boolean), .methodLink RX6 65 yX6_refused, .instanceMethod yX6_refused, .selects RX6 yX6_refused yX6_refused, .code yX6_refused cX6_refused 2 (some .boolean), .fieldLink RX6 54 "FountainCodeModel" "refusal" "I"] ++ wsX60)
def wsX6_setBlock : List Cond := .code yX6_setBlock cX6_setBlock 4 (some .int) :: ([.fieldLink RX6 13 "FountainCodeModel" "sources" "I", .fieldLink RX6 20 "FountainCodeModel" "values" "[I", .methodLink RX6 57 yX6_within, .static yX6_within, .initialized RX6, .code yX6_within cX6_within 3 (some .boolean), .methodLink RX6 65 yX6_refused, .instanceMethod yX6_refused, .selects RX6 yX6_refused yX6_refused, .code yX6_refused cX6_refused 2 (some .boolean), .fieldLink RX6 54 "FountainCodeModel" "refusal" "I"] ++ wsX60)
def wsX6_blocks : List Cond := .code yX6_blocks cX6_blocks 1 (some .int) :: ([.fieldLink RX6 17 "FountainCodeModel" "blocks" "I", .methodLink RX6 128 yX6_told, .instanceMethod yX6_told, .selects RX6 yX6_told yX6_told, .initialized RX6, .code yX6_told cX6_told 2 (some .int), .fieldLink RX6 54 "FountainCodeModel" "refusal" "I"] ++ wsX60)
def wsX6_blockAt_r1 : List Cond := [Cond.methodLink RX6 131 yX6_noBlock, Cond.instanceMethod yX6_noBlock, Cond.selects RX6 yX6_noBlock yX6_noBlock, Cond.initialized RX6, Cond.code yX6_noBlock cX6_noBlock 2 (some .boolean), Cond.methodLink RX6 61 yX6_isBlock, Cond.instanceMethod yX6_isBlock, Cond.selects RX6 yX6_isBlock yX6_isBlock, Cond.code yX6_isBlock cX6_isBlock 2 (some .boolean), Cond.fieldLink RX6 17 "FountainCodeModel" "blocks" "I", Cond.methodLink RX6 57 yX6_within, Cond.static yX6_within, Cond.code yX6_within cX6_within 3 (some .boolean), Cond.methodLink RX6 65 yX6_refused, Cond.instanceMethod yX6_refused, Cond.selects RX6 yX6_refused yX6_refused, Cond.code yX6_refused cX6_refused 2 (some .boolean), Cond.fieldLink RX6 54 "FountainCodeModel" "refusal" "I", Cond.methodLink RX6 103 yX6_valueAt, Cond.instanceMethod yX6_valueAt, Cond.selects RX6 yX6_valueAt yX6_valueAt, Cond.code yX6_valueAt cX6_valueAt 4 (some .int), Cond.fieldLink RX6 13 "FountainCodeModel" "sources" "I", Cond.fieldLink RX6 20 "FountainCodeModel" "values" "[I"]
def wsX6_blockAt_r2 : List Cond := [Cond.methodLink RX6 81 yX6_covers, Cond.static yX6_covers, Cond.code yX6_covers cX6_covers 2 (some .boolean)]
def wsX6_blockAt : List Cond := .code yX6_blockAt cX6_blockAt 2 (some .int) :: ((wsX6_blockAt_r1 ++ wsX6_blockAt_r2) ++ wsX60)
def wsX6_degree : List Cond := .code yX6_degree cX6_degree 2 (some .int) :: ([.fieldLink RX6 96 "FountainCodeModel" "drawnMany" "I", .methodLink RX6 99 yX6_drawDrop, .instanceMethod yX6_drawDrop, .selects RX6 yX6_drawDrop yX6_drawDrop, .initialized RX6, .code yX6_drawDrop cX6_drawDrop 9 none, .fieldLink RX6 85 "FountainCodeModel" "generator" "J", .fieldLink RX6 7 "FountainCodeModel" "weights" "[I", .fieldLink RX6 17 "FountainCodeModel" "blocks" "I", .fieldLink RX6 48 "FountainCodeModel" "drawn" "[I", .methodLink RX6 92 yX6_draw, .instanceMethod yX6_draw, .selects RX6 yX6_draw yX6_draw, .code yX6_draw cX6_draw 2 (some .int), .constantLong RX6 88 (6364136223846793005), .constantLong RX6 90 (1442695040888963407), .methodLink RX6 128 yX6_told, .instanceMethod yX6_told, .selects RX6 yX6_told yX6_told, .code yX6_told cX6_told 2 (some .int), .fieldLink RX6 54 "FountainCodeModel" "refusal" "I"] ++ wsX60)
def wsX6_blockOf : List Cond := .code yX6_blockOf cX6_blockOf 3 (some .int) :: ([.fieldLink RX6 96 "FountainCodeModel" "drawnMany" "I", .fieldLink RX6 48 "FountainCodeModel" "drawn" "[I", .methodLink RX6 99 yX6_drawDrop, .instanceMethod yX6_drawDrop, .selects RX6 yX6_drawDrop yX6_drawDrop, .initialized RX6, .code yX6_drawDrop cX6_drawDrop 9 none, .fieldLink RX6 85 "FountainCodeModel" "generator" "J", .fieldLink RX6 7 "FountainCodeModel" "weights" "[I", .fieldLink RX6 17 "FountainCodeModel" "blocks" "I", .methodLink RX6 92 yX6_draw, .instanceMethod yX6_draw, .selects RX6 yX6_draw yX6_draw, .code yX6_draw cX6_draw 2 (some .int), .constantLong RX6 88 (6364136223846793005), .constantLong RX6 90 (1442695040888963407), .methodLink RX6 57 yX6_within, .static yX6_within, .code yX6_within cX6_within 3 (some .boolean), .methodLink RX6 65 yX6_refused, .instanceMethod yX6_refused, .selects RX6 yX6_refused yX6_refused, .code yX6_refused cX6_refused 2 (some .boolean), .fieldLink RX6 54 "FountainCodeModel" "refusal" "I"] ++ wsX60)
def wsX6_valueOf_r1 : List Cond := [Cond.methodLink RX6 134 yX6_numberOf, Cond.instanceMethod yX6_numberOf, Cond.selects RX6 yX6_numberOf yX6_numberOf, Cond.initialized RX6, Cond.code yX6_numberOf cX6_numberOf 4 (some .int), Cond.fieldLink RX6 96 "FountainCodeModel" "drawnMany" "I", Cond.fieldLink RX6 48 "FountainCodeModel" "drawn" "[I", Cond.methodLink RX6 99 yX6_drawDrop, Cond.instanceMethod yX6_drawDrop, Cond.selects RX6 yX6_drawDrop yX6_drawDrop, Cond.code yX6_drawDrop cX6_drawDrop 9 none, Cond.fieldLink RX6 85 "FountainCodeModel" "generator" "J", Cond.fieldLink RX6 7 "FountainCodeModel" "weights" "[I", Cond.fieldLink RX6 17 "FountainCodeModel" "blocks" "I", Cond.methodLink RX6 92 yX6_draw, Cond.instanceMethod yX6_draw, Cond.selects RX6 yX6_draw yX6_draw, Cond.code yX6_draw cX6_draw 2 (some .int), Cond.constantLong RX6 88 (6364136223846793005), Cond.constantLong RX6 90 (1442695040888963407), Cond.methodLink RX6 103 yX6_valueAt, Cond.instanceMethod yX6_valueAt, Cond.selects RX6 yX6_valueAt yX6_valueAt, Cond.code yX6_valueAt cX6_valueAt 4 (some .int)]
def wsX6_valueOf_r2 : List Cond := [Cond.fieldLink RX6 13 "FountainCodeModel" "sources" "I", Cond.fieldLink RX6 20 "FountainCodeModel" "values" "[I", Cond.methodLink RX6 81 yX6_covers, Cond.static yX6_covers, Cond.code yX6_covers cX6_covers 2 (some .boolean), Cond.methodLink RX6 128 yX6_told, Cond.instanceMethod yX6_told, Cond.selects RX6 yX6_told yX6_told, Cond.code yX6_told cX6_told 2 (some .int), Cond.fieldLink RX6 54 "FountainCodeModel" "refusal" "I"]
def wsX6_valueOf : List Cond := .code yX6_valueOf cX6_valueOf 2 (some .int) :: ((wsX6_valueOf_r1 ++ wsX6_valueOf_r2) ++ wsX60)
def wsX6_isRefused_r1 : List Cond := [Cond.fieldLink RX6 71 "FountainCodeModel" "drops" "I", Cond.fieldLink RX6 106 "FountainCodeModel" "reduced" "J", Cond.fieldLink RX6 109 "FountainCodeModel" "reducedNumber" "I", Cond.methodLink RX6 137 yX6_maskOf, Cond.instanceMethod yX6_maskOf, Cond.selects RX6 yX6_maskOf yX6_maskOf, Cond.initialized RX6, Cond.code yX6_maskOf cX6_maskOf 5 (some .long), Cond.fieldLink RX6 96 "FountainCodeModel" "drawnMany" "I", Cond.fieldLink RX6 48 "FountainCodeModel" "drawn" "[I", Cond.methodLink RX6 99 yX6_drawDrop, Cond.instanceMethod yX6_drawDrop, Cond.selects RX6 yX6_drawDrop yX6_drawDrop, Cond.code yX6_drawDrop cX6_drawDrop 9 none, Cond.fieldLink RX6 85 "FountainCodeModel" "generator" "J", Cond.fieldLink RX6 7 "FountainCodeModel" "weights" "[I", Cond.fieldLink RX6 17 "FountainCodeModel" "blocks" "I", Cond.methodLink RX6 92 yX6_draw, Cond.instanceMethod yX6_draw, Cond.selects RX6 yX6_draw yX6_draw, Cond.code yX6_draw cX6_draw 2 (some .int), Cond.constantLong RX6 88 (6364136223846793005), Cond.constantLong RX6 90 (1442695040888963407), Cond.methodLink RX6 112 yX6_reduce]
def wsX6_isRefused_r2 : List Cond := [Cond.instanceMethod yX6_reduce, Cond.selects RX6 yX6_reduce yX6_reduce, Cond.code yX6_reduce cX6_reduce 5 none, Cond.fieldLink RX6 36 "FountainCodeModel" "rows" "[J", Cond.fieldLink RX6 39 "FountainCodeModel" "rowNumbers" "[I"]
def wsX6_isRefused : List Cond := .code yX6_isRefused cX6_isRefused 3 (some .boolean) :: ((wsX6_isRefused_r1 ++ wsX6_isRefused_r2) ++ wsX60)
def wsX6_take_r1 : List Cond := [Cond.fieldLink RX6 71 "FountainCodeModel" "drops" "I", Cond.methodLink RX6 137 yX6_maskOf, Cond.instanceMethod yX6_maskOf, Cond.selects RX6 yX6_maskOf yX6_maskOf, Cond.initialized RX6, Cond.code yX6_maskOf cX6_maskOf 5 (some .long), Cond.fieldLink RX6 96 "FountainCodeModel" "drawnMany" "I", Cond.fieldLink RX6 48 "FountainCodeModel" "drawn" "[I", Cond.methodLink RX6 99 yX6_drawDrop, Cond.instanceMethod yX6_drawDrop, Cond.selects RX6 yX6_drawDrop yX6_drawDrop, Cond.code yX6_drawDrop cX6_drawDrop 9 none, Cond.fieldLink RX6 85 "FountainCodeModel" "generator" "J", Cond.fieldLink RX6 7 "FountainCodeModel" "weights" "[I", Cond.fieldLink RX6 17 "FountainCodeModel" "blocks" "I", Cond.methodLink RX6 92 yX6_draw, Cond.instanceMethod yX6_draw, Cond.selects RX6 yX6_draw yX6_draw, Cond.code yX6_draw cX6_draw 2 (some .int), Cond.constantLong RX6 88 (6364136223846793005), Cond.constantLong RX6 90 (1442695040888963407), Cond.methodLink RX6 121 yX6_addEquation, Cond.instanceMethod yX6_addEquation, Cond.selects RX6 yX6_addEquation yX6_addEquation]
def wsX6_take_r2 : List Cond := [Cond.code yX6_addEquation cX6_addEquation 4 none, Cond.fieldLink RX6 23 "FountainCodeModel" "masks" "[J", Cond.fieldLink RX6 68 "FountainCodeModel" "many" "I", Cond.fieldLink RX6 27 "FountainCodeModel" "numbers" "[I", Cond.methodLink RX6 112 yX6_reduce, Cond.instanceMethod yX6_reduce, Cond.selects RX6 yX6_reduce yX6_reduce, Cond.code yX6_reduce cX6_reduce 5 none, Cond.fieldLink RX6 106 "FountainCodeModel" "reduced" "J", Cond.fieldLink RX6 109 "FountainCodeModel" "reducedNumber" "I", Cond.fieldLink RX6 36 "FountainCodeModel" "rows" "[J", Cond.fieldLink RX6 39 "FountainCodeModel" "rowNumbers" "[I", Cond.methodLink RX6 116 yX6_layRow, Cond.instanceMethod yX6_layRow, Cond.selects RX6 yX6_layRow yX6_layRow, Cond.code yX6_layRow cX6_layRow 3 none, Cond.methodLink RX6 124 yX6_peel, Cond.instanceMethod yX6_peel, Cond.selects RX6 yX6_peel yX6_peel, Cond.code yX6_peel cX6_peel 7 (some .int), Cond.fieldLink RX6 74 "FountainCodeModel" "peeled" "I", Cond.fieldLink RX6 77 "FountainCodeModel" "peeledMask" "J", Cond.constantLong RX6 119 (-1), Cond.fieldLink RX6 30 "FountainCodeModel" "order" "[I"]
def wsX6_take_r3 : List Cond := [Cond.fieldLink RX6 33 "FountainCodeModel" "by" "[I"]
def wsX6_take : List Cond := .code yX6_take cX6_take 3 (some .int) :: ((wsX6_take_r1 ++ (wsX6_take_r2 ++ wsX6_take_r3)) ++ wsX60)
def wsX6_receive_r1 : List Cond := [Cond.methodLink RX6 141 yX6_isRefused, Cond.instanceMethod yX6_isRefused, Cond.selects RX6 yX6_isRefused yX6_isRefused, Cond.initialized RX6, Cond.code yX6_isRefused cX6_isRefused 3 (some .boolean), Cond.fieldLink RX6 71 "FountainCodeModel" "drops" "I", Cond.fieldLink RX6 106 "FountainCodeModel" "reduced" "J", Cond.fieldLink RX6 109 "FountainCodeModel" "reducedNumber" "I", Cond.methodLink RX6 137 yX6_maskOf, Cond.instanceMethod yX6_maskOf, Cond.selects RX6 yX6_maskOf yX6_maskOf, Cond.code yX6_maskOf cX6_maskOf 5 (some .long), Cond.fieldLink RX6 96 "FountainCodeModel" "drawnMany" "I", Cond.fieldLink RX6 48 "FountainCodeModel" "drawn" "[I", Cond.methodLink RX6 99 yX6_drawDrop, Cond.instanceMethod yX6_drawDrop, Cond.selects RX6 yX6_drawDrop yX6_drawDrop, Cond.code yX6_drawDrop cX6_drawDrop 9 none, Cond.fieldLink RX6 85 "FountainCodeModel" "generator" "J", Cond.fieldLink RX6 7 "FountainCodeModel" "weights" "[I", Cond.fieldLink RX6 17 "FountainCodeModel" "blocks" "I", Cond.methodLink RX6 92 yX6_draw, Cond.instanceMethod yX6_draw, Cond.selects RX6 yX6_draw yX6_draw]
def wsX6_receive_r2 : List Cond := [Cond.code yX6_draw cX6_draw 2 (some .int), Cond.constantLong RX6 88 (6364136223846793005), Cond.constantLong RX6 90 (1442695040888963407), Cond.methodLink RX6 112 yX6_reduce, Cond.instanceMethod yX6_reduce, Cond.selects RX6 yX6_reduce yX6_reduce, Cond.code yX6_reduce cX6_reduce 5 none, Cond.fieldLink RX6 36 "FountainCodeModel" "rows" "[J", Cond.fieldLink RX6 39 "FountainCodeModel" "rowNumbers" "[I", Cond.methodLink RX6 65 yX6_refused, Cond.instanceMethod yX6_refused, Cond.selects RX6 yX6_refused yX6_refused, Cond.code yX6_refused cX6_refused 2 (some .boolean), Cond.fieldLink RX6 54 "FountainCodeModel" "refusal" "I", Cond.methodLink RX6 144 yX6_take, Cond.instanceMethod yX6_take, Cond.selects RX6 yX6_take yX6_take, Cond.code yX6_take cX6_take 3 (some .int), Cond.methodLink RX6 121 yX6_addEquation, Cond.instanceMethod yX6_addEquation, Cond.selects RX6 yX6_addEquation yX6_addEquation, Cond.code yX6_addEquation cX6_addEquation 4 none, Cond.fieldLink RX6 23 "FountainCodeModel" "masks" "[J", Cond.fieldLink RX6 68 "FountainCodeModel" "many" "I"]
def wsX6_receive_r3 : List Cond := [Cond.fieldLink RX6 27 "FountainCodeModel" "numbers" "[I", Cond.methodLink RX6 116 yX6_layRow, Cond.instanceMethod yX6_layRow, Cond.selects RX6 yX6_layRow yX6_layRow, Cond.code yX6_layRow cX6_layRow 3 none, Cond.methodLink RX6 124 yX6_peel, Cond.instanceMethod yX6_peel, Cond.selects RX6 yX6_peel yX6_peel, Cond.code yX6_peel cX6_peel 7 (some .int), Cond.fieldLink RX6 74 "FountainCodeModel" "peeled" "I", Cond.fieldLink RX6 77 "FountainCodeModel" "peeledMask" "J", Cond.constantLong RX6 119 (-1), Cond.fieldLink RX6 30 "FountainCodeModel" "order" "[I", Cond.fieldLink RX6 33 "FountainCodeModel" "by" "[I"]
def wsX6_receive : List Cond := .code yX6_receive cX6_receive 3 (some .int) :: ((wsX6_receive_r1 ++ (wsX6_receive_r2 ++ wsX6_receive_r3)) ++ wsX60)
def wsX6_receiveAll_r1 : List Cond := [Cond.methodLink RX6 57 yX6_within, Cond.static yX6_within, Cond.initialized RX6, Cond.code yX6_within cX6_within 3 (some .boolean), Cond.methodLink RX6 65 yX6_refused, Cond.instanceMethod yX6_refused, Cond.selects RX6 yX6_refused yX6_refused, Cond.code yX6_refused cX6_refused 2 (some .boolean), Cond.fieldLink RX6 54 "FountainCodeModel" "refusal" "I", Cond.methodLink RX6 134 yX6_numberOf, Cond.instanceMethod yX6_numberOf, Cond.selects RX6 yX6_numberOf yX6_numberOf, Cond.code yX6_numberOf cX6_numberOf 4 (some .int), Cond.fieldLink RX6 96 "FountainCodeModel" "drawnMany" "I", Cond.fieldLink RX6 48 "FountainCodeModel" "drawn" "[I", Cond.methodLink RX6 99 yX6_drawDrop, Cond.instanceMethod yX6_drawDrop, Cond.selects RX6 yX6_drawDrop yX6_drawDrop, Cond.code yX6_drawDrop cX6_drawDrop 9 none, Cond.fieldLink RX6 85 "FountainCodeModel" "generator" "J", Cond.fieldLink RX6 7 "FountainCodeModel" "weights" "[I", Cond.fieldLink RX6 17 "FountainCodeModel" "blocks" "I", Cond.methodLink RX6 92 yX6_draw, Cond.instanceMethod yX6_draw]
def wsX6_receiveAll_r2 : List Cond := [Cond.selects RX6 yX6_draw yX6_draw, Cond.code yX6_draw cX6_draw 2 (some .int), Cond.constantLong RX6 88 (6364136223846793005), Cond.constantLong RX6 90 (1442695040888963407), Cond.methodLink RX6 103 yX6_valueAt, Cond.instanceMethod yX6_valueAt, Cond.selects RX6 yX6_valueAt yX6_valueAt, Cond.code yX6_valueAt cX6_valueAt 4 (some .int), Cond.fieldLink RX6 13 "FountainCodeModel" "sources" "I", Cond.fieldLink RX6 20 "FountainCodeModel" "values" "[I", Cond.methodLink RX6 81 yX6_covers, Cond.static yX6_covers, Cond.code yX6_covers cX6_covers 2 (some .boolean), Cond.methodLink RX6 141 yX6_isRefused, Cond.instanceMethod yX6_isRefused, Cond.selects RX6 yX6_isRefused yX6_isRefused, Cond.code yX6_isRefused cX6_isRefused 3 (some .boolean), Cond.fieldLink RX6 71 "FountainCodeModel" "drops" "I", Cond.fieldLink RX6 106 "FountainCodeModel" "reduced" "J", Cond.fieldLink RX6 109 "FountainCodeModel" "reducedNumber" "I", Cond.methodLink RX6 137 yX6_maskOf, Cond.instanceMethod yX6_maskOf, Cond.selects RX6 yX6_maskOf yX6_maskOf, Cond.code yX6_maskOf cX6_maskOf 5 (some .long)]
def wsX6_receiveAll_r3 : List Cond := [Cond.methodLink RX6 112 yX6_reduce, Cond.instanceMethod yX6_reduce, Cond.selects RX6 yX6_reduce yX6_reduce, Cond.code yX6_reduce cX6_reduce 5 none, Cond.fieldLink RX6 36 "FountainCodeModel" "rows" "[J", Cond.fieldLink RX6 39 "FountainCodeModel" "rowNumbers" "[I", Cond.methodLink RX6 144 yX6_take, Cond.instanceMethod yX6_take, Cond.selects RX6 yX6_take yX6_take, Cond.code yX6_take cX6_take 3 (some .int), Cond.methodLink RX6 121 yX6_addEquation, Cond.instanceMethod yX6_addEquation, Cond.selects RX6 yX6_addEquation yX6_addEquation, Cond.code yX6_addEquation cX6_addEquation 4 none, Cond.fieldLink RX6 23 "FountainCodeModel" "masks" "[J", Cond.fieldLink RX6 68 "FountainCodeModel" "many" "I", Cond.fieldLink RX6 27 "FountainCodeModel" "numbers" "[I", Cond.methodLink RX6 116 yX6_layRow, Cond.instanceMethod yX6_layRow, Cond.selects RX6 yX6_layRow yX6_layRow, Cond.code yX6_layRow cX6_layRow 3 none, Cond.methodLink RX6 124 yX6_peel, Cond.instanceMethod yX6_peel, Cond.selects RX6 yX6_peel yX6_peel]
def wsX6_receiveAll_r4 : List Cond := [Cond.code yX6_peel cX6_peel 7 (some .int), Cond.fieldLink RX6 74 "FountainCodeModel" "peeled" "I", Cond.fieldLink RX6 77 "FountainCodeModel" "peeledMask" "J", Cond.constantLong RX6 119 (-1), Cond.fieldLink RX6 30 "FountainCodeModel" "order" "[I", Cond.fieldLink RX6 33 "FountainCodeModel" "by" "[I"]
def wsX6_receiveAll : List Cond := .code yX6_receiveAll cX6_receiveAll 5 (some .int) :: ((wsX6_receiveAll_r1 ++ (wsX6_receiveAll_r2 ++ (wsX6_receiveAll_r3 ++ wsX6_receiveAll_r4))) ++ wsX60)
def wsX6_equations : List Cond := .code yX6_equations cX6_equations 1 (some .int) :: ([.fieldLink RX6 68 "FountainCodeModel" "many" "I", .methodLink RX6 128 yX6_told, .instanceMethod yX6_told, .selects RX6 yX6_told yX6_told, .initialized RX6, .code yX6_told cX6_told 2 (some .int), .fieldLink RX6 54 "FountainCodeModel" "refusal" "I"] ++ wsX60)
def wsX6_rank : List Cond := .code yX6_rank cX6_rank 1 (some .int) :: ([.methodLink RX6 148 yX6_rankOf, .instanceMethod yX6_rankOf, .selects RX6 yX6_rankOf yX6_rankOf, .initialized RX6, .code yX6_rankOf cX6_rankOf 3 (some .int), .fieldLink RX6 17 "FountainCodeModel" "blocks" "I", .fieldLink RX6 36 "FountainCodeModel" "rows" "[J", .methodLink RX6 128 yX6_told, .instanceMethod yX6_told, .selects RX6 yX6_told yX6_told, .code yX6_told cX6_told 2 (some .int), .fieldLink RX6 54 "FountainCodeModel" "refusal" "I"] ++ wsX60)
def wsX6_peeled : List Cond := .code yX6_peeled cX6_peeled 1 (some .int) :: ([.fieldLink RX6 74 "FountainCodeModel" "peeled" "I", .methodLink RX6 128 yX6_told, .instanceMethod yX6_told, .selects RX6 yX6_told yX6_told, .initialized RX6, .code yX6_told cX6_told 2 (some .int), .fieldLink RX6 54 "FountainCodeModel" "refusal" "I"] ++ wsX60)
def wsX6_peeledAt : List Cond := .code yX6_peeledAt cX6_peeledAt 2 (some .int) :: ([.fieldLink RX6 74 "FountainCodeModel" "peeled" "I", .fieldLink RX6 30 "FountainCodeModel" "order" "[I", .methodLink RX6 57 yX6_within, .static yX6_within, .initialized RX6, .code yX6_within cX6_within 3 (some .boolean), .methodLink RX6 65 yX6_refused, .instanceMethod yX6_refused, .selects RX6 yX6_refused yX6_refused, .code yX6_refused cX6_refused 2 (some .boolean), .fieldLink RX6 54 "FountainCodeModel" "refusal" "I"] ++ wsX60)
def wsX6_peeledBy : List Cond := .code yX6_peeledBy cX6_peeledBy 2 (some .int) :: ([.fieldLink RX6 33 "FountainCodeModel" "by" "[I", .methodLink RX6 131 yX6_noBlock, .instanceMethod yX6_noBlock, .selects RX6 yX6_noBlock yX6_noBlock, .initialized RX6, .code yX6_noBlock cX6_noBlock 2 (some .boolean), .methodLink RX6 61 yX6_isBlock, .instanceMethod yX6_isBlock, .selects RX6 yX6_isBlock yX6_isBlock, .code yX6_isBlock cX6_isBlock 2 (some .boolean), .fieldLink RX6 17 "FountainCodeModel" "blocks" "I", .methodLink RX6 57 yX6_within, .static yX6_within, .code yX6_within cX6_within 3 (some .boolean), .methodLink RX6 65 yX6_refused, .instanceMethod yX6_refused, .selects RX6 yX6_refused yX6_refused, .code yX6_refused cX6_refused 2 (some .boolean), .fieldLink RX6 54 "FountainCodeModel" "refusal" "I"] ++ wsX60)
def wsX6_determined : List Cond := .code yX6_determined cX6_determined 1 (some .int) :: ([.methodLink RX6 151 yX6_determinedMany, .instanceMethod yX6_determinedMany, .selects RX6 yX6_determinedMany yX6_determinedMany, .initialized RX6, .code yX6_determinedMany cX6_determinedMany 3 (some .int), .fieldLink RX6 17 "FountainCodeModel" "blocks" "I", .fieldLink RX6 36 "FountainCodeModel" "rows" "[J", .methodLink RX6 128 yX6_told, .instanceMethod yX6_told, .selects RX6 yX6_told yX6_told, .code yX6_told cX6_told 2 (some .int), .fieldLink RX6 54 "FountainCodeModel" "refusal" "I"] ++ wsX60)
def wsX6_isKnown : List Cond := .code yX6_isKnown cX6_isKnown 2 (some .boolean) :: ([.fieldLink RX6 36 "FountainCodeModel" "rows" "[J"] ++ wsX60)
def wsX6_isDetermined : List Cond := .code yX6_isDetermined cX6_isDetermined 2 (some .boolean) :: ([.methodLink RX6 131 yX6_noBlock, .instanceMethod yX6_noBlock, .selects RX6 yX6_noBlock yX6_noBlock, .initialized RX6, .code yX6_noBlock cX6_noBlock 2 (some .boolean), .methodLink RX6 61 yX6_isBlock, .instanceMethod yX6_isBlock, .selects RX6 yX6_isBlock yX6_isBlock, .code yX6_isBlock cX6_isBlock 2 (some .boolean), .fieldLink RX6 17 "FountainCodeModel" "blocks" "I", .methodLink RX6 57 yX6_within, .static yX6_within, .code yX6_within cX6_within 3 (some .boolean), .methodLink RX6 65 yX6_refused, .instanceMethod yX6_refused, .selects RX6 yX6_refused yX6_refused, .code yX6_refused cX6_refused 2 (some .boolean), .fieldLink RX6 54 "FountainCodeModel" "refusal" "I", .methodLink RX6 154 yX6_isKnown, .instanceMethod yX6_isKnown, .selects RX6 yX6_isKnown yX6_isKnown, .code yX6_isKnown cX6_isKnown 2 (some .boolean), .fieldLink RX6 36 "FountainCodeModel" "rows" "[J"] ++ wsX60)
def wsX6_recovered : List Cond := .code yX6_recovered cX6_recovered 2 (some .int) :: ([.fieldLink RX6 39 "FountainCodeModel" "rowNumbers" "[I", .methodLink RX6 61 yX6_isBlock, .instanceMethod yX6_isBlock, .selects RX6 yX6_isBlock yX6_isBlock, .initialized RX6, .code yX6_isBlock cX6_isBlock 2 (some .boolean), .fieldLink RX6 17 "FountainCodeModel" "blocks" "I", .methodLink RX6 57 yX6_within, .static yX6_within, .code yX6_within cX6_within 3 (some .boolean), .methodLink RX6 154 yX6_isKnown, .instanceMethod yX6_isKnown, .selects RX6 yX6_isKnown yX6_isKnown, .code yX6_isKnown cX6_isKnown 2 (some .boolean), .fieldLink RX6 36 "FountainCodeModel" "rows" "[J", .methodLink RX6 65 yX6_refused, .instanceMethod yX6_refused, .selects RX6 yX6_refused yX6_refused, .code yX6_refused cX6_refused 2 (some .boolean), .fieldLink RX6 54 "FountainCodeModel" "refusal" "I"] ++ wsX60)
def wsX6_helps_r1 : List Cond := [Cond.fieldLink RX6 106 "FountainCodeModel" "reduced" "J", Cond.methodLink RX6 137 yX6_maskOf, Cond.instanceMethod yX6_maskOf, Cond.selects RX6 yX6_maskOf yX6_maskOf, Cond.initialized RX6, Cond.code yX6_maskOf cX6_maskOf 5 (some .long), Cond.fieldLink RX6 96 "FountainCodeModel" "drawnMany" "I", Cond.fieldLink RX6 48 "FountainCodeModel" "drawn" "[I", Cond.methodLink RX6 99 yX6_drawDrop, Cond.instanceMethod yX6_drawDrop, Cond.selects RX6 yX6_drawDrop yX6_drawDrop, Cond.code yX6_drawDrop cX6_drawDrop 9 none, Cond.fieldLink RX6 85 "FountainCodeModel" "generator" "J", Cond.fieldLink RX6 7 "FountainCodeModel" "weights" "[I", Cond.fieldLink RX6 17 "FountainCodeModel" "blocks" "I", Cond.methodLink RX6 92 yX6_draw, Cond.instanceMethod yX6_draw, Cond.selects RX6 yX6_draw yX6_draw, Cond.code yX6_draw cX6_draw 2 (some .int), Cond.constantLong RX6 88 (6364136223846793005), Cond.constantLong RX6 90 (1442695040888963407), Cond.methodLink RX6 112 yX6_reduce, Cond.instanceMethod yX6_reduce, Cond.selects RX6 yX6_reduce yX6_reduce]
def wsX6_helps_r2 : List Cond := [Cond.code yX6_reduce cX6_reduce 5 none, Cond.fieldLink RX6 109 "FountainCodeModel" "reducedNumber" "I", Cond.fieldLink RX6 36 "FountainCodeModel" "rows" "[J", Cond.fieldLink RX6 39 "FountainCodeModel" "rowNumbers" "[I"]
def wsX6_helps : List Cond := .code yX6_helps cX6_helps 2 (some .boolean) :: ((wsX6_helps_r1 ++ wsX6_helps_r2) ++ wsX60)
def wsX6_wouldHelp_r1 : List Cond := [Cond.fieldLink RX6 54 "FountainCodeModel" "refusal" "I", Cond.methodLink RX6 157 yX6_helps, Cond.instanceMethod yX6_helps, Cond.selects RX6 yX6_helps yX6_helps, Cond.initialized RX6, Cond.code yX6_helps cX6_helps 2 (some .boolean), Cond.fieldLink RX6 106 "FountainCodeModel" "reduced" "J", Cond.methodLink RX6 137 yX6_maskOf, Cond.instanceMethod yX6_maskOf, Cond.selects RX6 yX6_maskOf yX6_maskOf, Cond.code yX6_maskOf cX6_maskOf 5 (some .long), Cond.fieldLink RX6 96 "FountainCodeModel" "drawnMany" "I", Cond.fieldLink RX6 48 "FountainCodeModel" "drawn" "[I", Cond.methodLink RX6 99 yX6_drawDrop, Cond.instanceMethod yX6_drawDrop, Cond.selects RX6 yX6_drawDrop yX6_drawDrop, Cond.code yX6_drawDrop cX6_drawDrop 9 none, Cond.fieldLink RX6 85 "FountainCodeModel" "generator" "J", Cond.fieldLink RX6 7 "FountainCodeModel" "weights" "[I", Cond.fieldLink RX6 17 "FountainCodeModel" "blocks" "I", Cond.methodLink RX6 92 yX6_draw, Cond.instanceMethod yX6_draw, Cond.selects RX6 yX6_draw yX6_draw, Cond.code yX6_draw cX6_draw 2 (some .int)]
def wsX6_wouldHelp_r2 : List Cond := [Cond.constantLong RX6 88 (6364136223846793005), Cond.constantLong RX6 90 (1442695040888963407), Cond.methodLink RX6 112 yX6_reduce, Cond.instanceMethod yX6_reduce, Cond.selects RX6 yX6_reduce yX6_reduce, Cond.code yX6_reduce cX6_reduce 5 none, Cond.fieldLink RX6 109 "FountainCodeModel" "reducedNumber" "I", Cond.fieldLink RX6 36 "FountainCodeModel" "rows" "[J", Cond.fieldLink RX6 39 "FountainCodeModel" "rowNumbers" "[I"]
def wsX6_wouldHelp : List Cond := .code yX6_wouldHelp cX6_wouldHelp 2 (some .boolean) :: ((wsX6_wouldHelp_r1 ++ wsX6_wouldHelp_r2) ++ wsX60)
def wsX6_wouldDetermine_r1 : List Cond := [Cond.fieldLink RX6 54 "FountainCodeModel" "refusal" "I", Cond.fieldLink RX6 42 "FountainCodeModel" "rowsKept" "[J", Cond.fieldLink RX6 36 "FountainCodeModel" "rows" "[J", Cond.fieldLink RX6 45 "FountainCodeModel" "rowNumbersKept" "[I", Cond.fieldLink RX6 39 "FountainCodeModel" "rowNumbers" "[I", Cond.methodLink RX6 151 yX6_determinedMany, Cond.instanceMethod yX6_determinedMany, Cond.selects RX6 yX6_determinedMany yX6_determinedMany, Cond.initialized RX6, Cond.code yX6_determinedMany cX6_determinedMany 3 (some .int), Cond.fieldLink RX6 17 "FountainCodeModel" "blocks" "I", Cond.methodLink RX6 137 yX6_maskOf, Cond.instanceMethod yX6_maskOf, Cond.selects RX6 yX6_maskOf yX6_maskOf, Cond.code yX6_maskOf cX6_maskOf 5 (some .long), Cond.fieldLink RX6 96 "FountainCodeModel" "drawnMany" "I", Cond.fieldLink RX6 48 "FountainCodeModel" "drawn" "[I", Cond.methodLink RX6 99 yX6_drawDrop, Cond.instanceMethod yX6_drawDrop, Cond.selects RX6 yX6_drawDrop yX6_drawDrop, Cond.code yX6_drawDrop cX6_drawDrop 9 none, Cond.fieldLink RX6 85 "FountainCodeModel" "generator" "J", Cond.fieldLink RX6 7 "FountainCodeModel" "weights" "[I", Cond.methodLink RX6 92 yX6_draw]
def wsX6_wouldDetermine_r2 : List Cond := [Cond.instanceMethod yX6_draw, Cond.selects RX6 yX6_draw yX6_draw, Cond.code yX6_draw cX6_draw 2 (some .int), Cond.constantLong RX6 88 (6364136223846793005), Cond.constantLong RX6 90 (1442695040888963407), Cond.methodLink RX6 112 yX6_reduce, Cond.instanceMethod yX6_reduce, Cond.selects RX6 yX6_reduce yX6_reduce, Cond.code yX6_reduce cX6_reduce 5 none, Cond.fieldLink RX6 106 "FountainCodeModel" "reduced" "J", Cond.fieldLink RX6 109 "FountainCodeModel" "reducedNumber" "I", Cond.methodLink RX6 116 yX6_layRow, Cond.instanceMethod yX6_layRow, Cond.selects RX6 yX6_layRow yX6_layRow, Cond.code yX6_layRow cX6_layRow 3 none]
def wsX6_wouldDetermine : List Cond := .code yX6_wouldDetermine cX6_wouldDetermine 5 (some .int) :: ((wsX6_wouldDetermine_r1 ++ wsX6_wouldDetermine_r2) ++ wsX60)
def wsX6_nextHelpful_r1 : List Cond := [Cond.fieldLink RX6 54 "FountainCodeModel" "refusal" "I", Cond.methodLink RX6 157 yX6_helps, Cond.instanceMethod yX6_helps, Cond.selects RX6 yX6_helps yX6_helps, Cond.initialized RX6, Cond.code yX6_helps cX6_helps 2 (some .boolean), Cond.fieldLink RX6 106 "FountainCodeModel" "reduced" "J", Cond.methodLink RX6 137 yX6_maskOf, Cond.instanceMethod yX6_maskOf, Cond.selects RX6 yX6_maskOf yX6_maskOf, Cond.code yX6_maskOf cX6_maskOf 5 (some .long), Cond.fieldLink RX6 96 "FountainCodeModel" "drawnMany" "I", Cond.fieldLink RX6 48 "FountainCodeModel" "drawn" "[I", Cond.methodLink RX6 99 yX6_drawDrop, Cond.instanceMethod yX6_drawDrop, Cond.selects RX6 yX6_drawDrop yX6_drawDrop, Cond.code yX6_drawDrop cX6_drawDrop 9 none, Cond.fieldLink RX6 85 "FountainCodeModel" "generator" "J", Cond.fieldLink RX6 7 "FountainCodeModel" "weights" "[I", Cond.fieldLink RX6 17 "FountainCodeModel" "blocks" "I", Cond.methodLink RX6 92 yX6_draw, Cond.instanceMethod yX6_draw, Cond.selects RX6 yX6_draw yX6_draw, Cond.code yX6_draw cX6_draw 2 (some .int)]
def wsX6_nextHelpful_r2 : List Cond := [Cond.constantLong RX6 88 (6364136223846793005), Cond.constantLong RX6 90 (1442695040888963407), Cond.methodLink RX6 112 yX6_reduce, Cond.instanceMethod yX6_reduce, Cond.selects RX6 yX6_reduce yX6_reduce, Cond.code yX6_reduce cX6_reduce 5 none, Cond.fieldLink RX6 109 "FountainCodeModel" "reducedNumber" "I", Cond.fieldLink RX6 36 "FountainCodeModel" "rows" "[J", Cond.fieldLink RX6 39 "FountainCodeModel" "rowNumbers" "[I"]
def wsX6_nextHelpful : List Cond := .code yX6_nextHelpful cX6_nextHelpful 3 (some .int) :: ((wsX6_nextHelpful_r1 ++ wsX6_nextHelpful_r2) ++ wsX60)
def wsX6_missing : List Cond := .code yX6_missing cX6_missing 1 (some .int) :: ([.fieldLink RX6 17 "FountainCodeModel" "blocks" "I", .methodLink RX6 148 yX6_rankOf, .instanceMethod yX6_rankOf, .selects RX6 yX6_rankOf yX6_rankOf, .initialized RX6, .code yX6_rankOf cX6_rankOf 3 (some .int), .fieldLink RX6 36 "FountainCodeModel" "rows" "[J", .methodLink RX6 128 yX6_told, .instanceMethod yX6_told, .selects RX6 yX6_told yX6_told, .code yX6_told cX6_told 2 (some .int), .fieldLink RX6 54 "FountainCodeModel" "refusal" "I"] ++ wsX60)
def wsJ9_min_7cf53 : List Cond := .code yJ9_min_7cf53 cJ9_min_7cf53 2 (some .int) :: ([])
def wsL_start_r1 : List Cond := [Cond.classLink RL 13 "java/lang/IllegalArgumentException", Cond.methodLink RL 7 yX5_start, Cond.instanceMethod yX5_start, Cond.selects RX5 yX5_start yX5_start, Cond.initialized RX5, Cond.code yX5_start cX5_start 3 (some .int), Cond.classLink RX5 48 "java/lang/IllegalArgumentException", Cond.initialized "java/lang/IllegalArgumentException", Cond.methodLink RX5 44 yX5_beginTransfer, Cond.instanceMethod yX5_beginTransfer, Cond.selects RX5 yX5_beginTransfer yX5_beginTransfer, Cond.code yX5_beginTransfer cX5_beginTransfer 4 (some .int), Cond.fieldLink RX5 19 "FountainCode" "sender" "LFountainCode$Sender;", Cond.fieldLink RX5 26 "FountainCode" "peeler" "LFountainCode$Peeler;", Cond.fieldLink RX5 33 "FountainCode" "elimination" "LFountainCode$Elimination;", Cond.methodLink RX5 167 yX3_begin, Cond.instanceMethod yX3_begin, Cond.selects RX3 yX3_begin yX3_begin, Cond.initialized RX3, Cond.code yX3_begin cX3_begin 3 none, Cond.fieldLink RX3 15 "FountainCode$Sender" "sources" "I", Cond.fieldLink RX3 19 "FountainCode$Sender" "parities" "I", Cond.fieldLink RX3 9 "FountainCode$Sender" "sourceValues" "[I", Cond.methodLink RX3 22 yJ7_fill_53178]
def wsL_start_r2 : List Cond := [Cond.static yJ7_fill_53178, Cond.initialized RJ7, Cond.code yJ7_fill_53178 cJ7_fill_53178 4 none, Cond.methodLink RX5 170 yX2_clear, Cond.instanceMethod yX2_clear, Cond.selects RX2 yX2_clear yX2_clear, Cond.initialized RX2, Cond.code yX2_clear cX2_clear 1 none, Cond.fieldLink RX2 22 "FountainCode$Peeler" "equationCount" "I", Cond.fieldLink RX2 26 "FountainCode$Peeler" "peeledCount" "I", Cond.fieldLink RX2 29 "FountainCode$Peeler" "peeledSet" "J", Cond.fieldLink RX2 19 "FountainCode$Peeler" "peelEquations" "[I", Cond.methodLink RX2 33 yJ7_fill_53178, Cond.methodLink RX5 173 yX1_clear, Cond.instanceMethod yX1_clear, Cond.selects RX1 yX1_clear yX1_clear, Cond.initialized RX1, Cond.code yX1_clear cX1_clear 1 none, Cond.fieldLink RX1 19 "FountainCode$Elimination" "rowCount" "I", Cond.fieldLink RX1 9 "FountainCode$Elimination" "rows" "[J", Cond.fieldLink RX1 15 "FountainCode$Elimination" "values" "[I", Cond.methodLink RX1 23 yJ7_fill_d0a16, Cond.static yJ7_fill_d0a16, Cond.code yJ7_fill_d0a16 cJ7_fill_d0a16 5 none]
def wsL_start_r3 : List Cond := [Cond.methodLink RX1 29 yJ7_fill_53178, Cond.methodLink RX5 150 yX5_setOf, Cond.static yX5_setOf, Cond.code yX5_setOf cX5_setOf 1 (some .long), Cond.methodLink RX5 174 yX3_coveredBy, Cond.instanceMethod yX3_coveredBy, Cond.selects RX3 yX3_coveredBy yX3_coveredBy, Cond.code yX3_coveredBy cX3_coveredBy 5 (some .long), Cond.methodLink RX5 177 yX5_addEquation, Cond.instanceMethod yX5_addEquation, Cond.selects RX5 yX5_addEquation yX5_addEquation, Cond.code yX5_addEquation cX5_addEquation 4 none, Cond.methodLink RX5 194 yX2_addEquation, Cond.instanceMethod yX2_addEquation, Cond.selects RX2 yX2_addEquation yX2_addEquation, Cond.code yX2_addEquation cX2_addEquation 3 none, Cond.fieldLink RX2 9 "FountainCode$Peeler" "equationSets" "[J", Cond.methodLink RX5 197 yX1_addEquation, Cond.instanceMethod yX1_addEquation, Cond.selects RX1 yX1_addEquation yX1_addEquation, Cond.code yX1_addEquation cX1_addEquation 9 none, Cond.methodLink RX1 36 yX1_remainder, Cond.instanceMethod yX1_remainder, Cond.selects RX1 yX1_remainder yX1_remainder]
def wsL_start_r4 : List Cond := [Cond.code yX1_remainder cX1_remainder 6 (some .long), Cond.static yX5_holds, Cond.code yX5_holds cX5_holds 3 (some .boolean), Cond.static yX5_lowestOf, Cond.code yX5_lowestOf cX5_lowestOf 2 (some .int), Cond.methodLink RX5 198 yJ13_bitCount_95d88, Cond.static yJ13_bitCount_95d88, Cond.initialized RJ13, Cond.code yJ13_bitCount_95d88 cJ13_bitCount_95d88 2 (some .int), Cond.constantLong RJ13 314 (6148914691236517205), Cond.constantLong RJ13 316 (3689348814741910323), Cond.constantLong RJ13 318 (1085102592571150095), Cond.methodLink RX1 40 yX1_knownValue, Cond.instanceMethod yX1_knownValue, Cond.selects RX1 yX1_knownValue yX1_knownValue, Cond.code yX1_knownValue cX1_knownValue 5 (some .int), Cond.methodLink RX5 181 yX2_peelOn, Cond.instanceMethod yX2_peelOn, Cond.selects RX2 yX2_peelOn yX2_peelOn, Cond.code yX2_peelOn cX2_peelOn 4 (some .int), Cond.methodLink RX2 39 yX2_lowestReady, Cond.instanceMethod yX2_lowestReady, Cond.selects RX2 yX2_lowestReady yX2_lowestReady, Cond.code yX2_lowestReady cX2_lowestReady 2 (some .int)]
def wsL_start_r5 : List Cond := [Cond.constantLong RX2 47 (-1), Cond.methodLink RX2 49 yJ13_bitCount_95d88, Cond.methodLink RX2 43 yX2_peelWith, Cond.instanceMethod yX2_peelWith, Cond.selects RX2 yX2_peelWith yX2_peelWith, Cond.code yX2_peelWith cX2_peelWith 3 none, Cond.fieldLink RX2 15 "FountainCode$Peeler" "peelOrder" "[I"]
def wsL_start : List Cond := .codeWith yL_start cL_start 5 (some .int) [(0, 10, 13, 13)] :: ((wsL_start_r1 ++ (wsL_start_r2 ++ (wsL_start_r3 ++ (wsL_start_r4 ++ wsL_start_r5)))) ++ wsX50 ++ wsX30 ++ wsX20 ++ wsX10 ++ (vx_atS RX5 52 "java/lang/IllegalArgumentException" ["java/lang/RuntimeException", "java/lang/Exception"]).filter goodWord)
def wsL_setWeight_r1 : List Cond := [Cond.classLink RL 13 "java/lang/IllegalArgumentException", Cond.classLink RL 18 "java/lang/IllegalStateException", Cond.methodLink RL 15 yX5_setWeight, Cond.instanceMethod yX5_setWeight, Cond.selects RX5 yX5_setWeight yX5_setWeight, Cond.initialized RX5, Cond.code yX5_setWeight cX5_setWeight 4 (some .int), Cond.classLink RX5 48 "java/lang/IllegalArgumentException", Cond.initialized "java/lang/IllegalArgumentException", Cond.classLink RX5 65 "java/lang/IllegalStateException", Cond.initialized "java/lang/IllegalStateException", Cond.fieldLink RX5 12 "FountainCode" "weights" "LFountainCode$Weights;", Cond.methodLink RX5 57 yX4_weightOf, Cond.instanceMethod yX4_weightOf, Cond.selects RX4 yX4_weightOf yX4_weightOf, Cond.initialized RX4, Cond.code yX4_weightOf cX4_weightOf 3 (some .int), Cond.fieldLink RX4 20 "FountainCode$Weights" "list" "[I", Cond.methodLink RX5 61 yX4_sum, Cond.instanceMethod yX4_sum, Cond.selects RX4 yX4_sum yX4_sum, Cond.code yX4_sum cX4_sum 3 (some .int), Cond.methodLink RX5 70 yX4_change, Cond.instanceMethod yX4_change]
def wsL_setWeight_r2 : List Cond := [Cond.selects RX4 yX4_change yX4_change, Cond.code yX4_change cX4_change 4 none]
def wsL_setWeight : List Cond := .codeWith yL_setWeight cL_setWeight 5 (some .int) [(0, 10, 13, 13), (0, 10, 17, 18)] :: ((wsL_setWeight_r1 ++ wsL_setWeight_r2) ++ wsX50 ++ wsX40 ++ (vx_atS RX5 52 "java/lang/IllegalArgumentException" ["java/lang/RuntimeException", "java/lang/Exception"]).filter goodWord ++ (vx_atS RX5 69 "java/lang/IllegalStateException" ["java/lang/RuntimeException", "java/lang/Exception"]).filter goodWord)
def wsL_setBlock_r1 : List Cond := [Cond.classLink RL 23 "java/lang/IndexOutOfBoundsException", Cond.methodLink RL 20 yX5_setBlock, Cond.instanceMethod yX5_setBlock, Cond.selects RX5 yX5_setBlock yX5_setBlock, Cond.initialized RX5, Cond.code yX5_setBlock cX5_setBlock 4 (some .int), Cond.classLink RX5 77 "java/lang/IndexOutOfBoundsException", Cond.initialized "java/lang/IndexOutOfBoundsException", Cond.fieldLink RX5 19 "FountainCode" "sender" "LFountainCode$Sender;", Cond.methodLink RX5 74 yX3_sourceCount, Cond.instanceMethod yX3_sourceCount, Cond.selects RX3 yX3_sourceCount yX3_sourceCount, Cond.initialized RX3, Cond.code yX3_sourceCount cX3_sourceCount 1 (some .int), Cond.fieldLink RX3 15 "FountainCode$Sender" "sources" "I", Cond.methodLink RX5 82 yX3_valueOfBlock, Cond.instanceMethod yX3_valueOfBlock, Cond.selects RX3 yX3_valueOfBlock yX3_valueOfBlock, Cond.code yX3_valueOfBlock cX3_valueOfBlock 2 (some .int), Cond.methodLink RX3 32 yX3_coveredBy, Cond.instanceMethod yX3_coveredBy, Cond.selects RX3 yX3_coveredBy yX3_coveredBy, Cond.code yX3_coveredBy cX3_coveredBy 5 (some .long), Cond.static yX5_setOf]
def wsL_setBlock_r2 : List Cond := [Cond.code yX5_setOf cX5_setOf 1 (some .long), Cond.methodLink RX3 35 yX3_valueOfSources, Cond.instanceMethod yX3_valueOfSources, Cond.selects RX3 yX3_valueOfSources yX3_valueOfSources, Cond.code yX3_valueOfSources cX3_valueOfSources 5 (some .int), Cond.fieldLink RX3 9 "FountainCode$Sender" "sourceValues" "[I", Cond.static yX5_holds, Cond.code yX5_holds cX5_holds 3 (some .boolean), Cond.methodLink RX5 150 yX5_setOf, Cond.methodLink RX5 85 yX3_change, Cond.instanceMethod yX3_change, Cond.selects RX3 yX3_change yX3_change, Cond.code yX3_change cX3_change 3 none]
def wsL_setBlock : List Cond := .codeWith yL_setBlock cL_setBlock 5 (some .int) [(0, 10, 13, 23)] :: ((wsL_setBlock_r1 ++ wsL_setBlock_r2) ++ wsX50 ++ wsX30 ++ (vx_atS RX5 81 "java/lang/IndexOutOfBoundsException" ["java/lang/RuntimeException", "java/lang/Exception"]).filter goodWord)
def wsL_blockAt_r1 : List Cond := [Cond.classLink RL 23 "java/lang/IndexOutOfBoundsException", Cond.methodLink RL 25 yX5_blockAt, Cond.instanceMethod yX5_blockAt, Cond.selects RX5 yX5_blockAt yX5_blockAt, Cond.initialized RX5, Cond.code yX5_blockAt cX5_blockAt 2 (some .int), Cond.classLink RX5 77 "java/lang/IndexOutOfBoundsException", Cond.initialized "java/lang/IndexOutOfBoundsException", Cond.fieldLink RX5 19 "FountainCode" "sender" "LFountainCode$Sender;", Cond.methodLink RX5 89 yX5_isBlock, Cond.instanceMethod yX5_isBlock, Cond.selects RX5 yX5_isBlock yX5_isBlock, Cond.code yX5_isBlock cX5_isBlock 2 (some .boolean), Cond.methodLink RX5 86 yX3_blockCount, Cond.instanceMethod yX3_blockCount, Cond.selects RX3 yX3_blockCount yX3_blockCount, Cond.initialized RX3, Cond.code yX3_blockCount cX3_blockCount 1 (some .int), Cond.fieldLink RX3 15 "FountainCode$Sender" "sources" "I", Cond.fieldLink RX3 19 "FountainCode$Sender" "parities" "I", Cond.methodLink RX5 82 yX3_valueOfBlock, Cond.instanceMethod yX3_valueOfBlock, Cond.selects RX3 yX3_valueOfBlock yX3_valueOfBlock, Cond.code yX3_valueOfBlock cX3_valueOfBlock 2 (some .int)]
def wsL_blockAt_r2 : List Cond := [Cond.methodLink RX3 32 yX3_coveredBy, Cond.instanceMethod yX3_coveredBy, Cond.selects RX3 yX3_coveredBy yX3_coveredBy, Cond.code yX3_coveredBy cX3_coveredBy 5 (some .long), Cond.static yX5_setOf, Cond.code yX5_setOf cX5_setOf 1 (some .long), Cond.methodLink RX3 35 yX3_valueOfSources, Cond.instanceMethod yX3_valueOfSources, Cond.selects RX3 yX3_valueOfSources yX3_valueOfSources, Cond.code yX3_valueOfSources cX3_valueOfSources 5 (some .int), Cond.fieldLink RX3 9 "FountainCode$Sender" "sourceValues" "[I", Cond.static yX5_holds, Cond.code yX5_holds cX5_holds 3 (some .boolean), Cond.methodLink RX5 150 yX5_setOf]
def wsL_blockAt : List Cond := .codeWith yL_blockAt cL_blockAt 4 (some .int) [(0, 9, 12, 23)] :: ((wsL_blockAt_r1 ++ wsL_blockAt_r2) ++ wsX50 ++ wsX30 ++ (vx_atS RX5 81 "java/lang/IndexOutOfBoundsException" ["java/lang/RuntimeException", "java/lang/Exception"]).filter goodWord)
def wsL_blockOf_r1 : List Cond := [Cond.classLink RL 23 "java/lang/IndexOutOfBoundsException", Cond.methodLink RL 29 yX5_blockOf, Cond.instanceMethod yX5_blockOf, Cond.selects RX5 yX5_blockOf yX5_blockOf, Cond.initialized RX5, Cond.code yX5_blockOf cX5_blockOf 4 (some .int), Cond.classLink RX5 77 "java/lang/IndexOutOfBoundsException", Cond.initialized "java/lang/IndexOutOfBoundsException", Cond.methodLink RX5 95 yX5_drawn, Cond.instanceMethod yX5_drawn, Cond.selects RX5 yX5_drawn yX5_drawn, Cond.code yX5_drawn cX5_drawn 2 (some (.object "FountainCode$Drop")), Cond.fieldLink RX5 40 "FountainCode" "scratchDrop" "LFountainCode$Drop;", Cond.fieldLink RX5 12 "FountainCode" "weights" "LFountainCode$Weights;", Cond.fieldLink RX5 19 "FountainCode" "sender" "LFountainCode$Sender;", Cond.methodLink RX5 86 yX3_blockCount, Cond.instanceMethod yX3_blockCount, Cond.selects RX3 yX3_blockCount yX3_blockCount, Cond.initialized RX3, Cond.code yX3_blockCount cX3_blockCount 1 (some .int), Cond.fieldLink RX3 15 "FountainCode$Sender" "sources" "I", Cond.fieldLink RX3 19 "FountainCode$Sender" "parities" "I", Cond.methodLink RX5 184 yX0_draw, Cond.instanceMethod yX0_draw]
def wsL_blockOf_r2 : List Cond := [Cond.selects RX0 yX0_draw yX0_draw, Cond.initialized RX0, Cond.code yX0_draw cX0_draw 5 none, Cond.fieldLink RX0 15 "FountainCode$Drop" "generator" "J", Cond.methodLink RX0 32 Lib.Math.min.name, Cond.static Lib.Math.min.name, Cond.initialized "java/lang/Math", Cond.code Lib.Math.min.name Lib.Math.min.code 2 (some .int), Cond.fieldLink RX0 38 "FountainCode$Drop" "size" "I", Cond.fieldLink RX0 46 "FountainCode$Drop" "blockSet" "J", Cond.fieldLink RX0 9 "FountainCode$Drop" "row" "[I", Cond.methodLink RX0 19 yX4_sum, Cond.instanceMethod yX4_sum, Cond.selects RX4 yX4_sum yX4_sum, Cond.initialized RX4, Cond.code yX4_sum cX4_sum 3 (some .int), Cond.fieldLink RX4 20 "FountainCode$Weights" "list" "[I", Cond.methodLink RX0 25 yX0_numberBelow, Cond.instanceMethod yX0_numberBelow, Cond.selects RX0 yX0_numberBelow yX0_numberBelow, Cond.code yX0_numberBelow cX0_numberBelow 2 (some .int), Cond.constantLong RX0 57 (6364136223846793005), Cond.constantLong RX0 59 (1442695040888963407), Cond.methodLink RX0 29 yX4_degreeFor]
def wsL_blockOf_r3 : List Cond := [Cond.instanceMethod yX4_degreeFor, Cond.selects RX4 yX4_degreeFor yX4_degreeFor, Cond.code yX4_degreeFor cX4_degreeFor 4 (some .int), Cond.methodLink RX0 42 yX0_lineUp, Cond.instanceMethod yX0_lineUp, Cond.selects RX0 yX0_lineUp yX0_lineUp, Cond.code yX0_lineUp cX0_lineUp 3 none, Cond.methodLink RX0 49 yX0_swap, Cond.instanceMethod yX0_swap, Cond.selects RX0 yX0_swap yX0_swap, Cond.code yX0_swap cX0_swap 4 none, Cond.static yX5_setOf, Cond.code yX5_setOf cX5_setOf 1 (some .long), Cond.methodLink RX5 99 yX0_size, Cond.instanceMethod yX0_size, Cond.selects RX0 yX0_size yX0_size, Cond.code yX0_size cX0_size 1 (some .int), Cond.methodLink RX5 104 yX0_blockInPlace, Cond.instanceMethod yX0_blockInPlace, Cond.selects RX0 yX0_blockInPlace yX0_blockInPlace, Cond.code yX0_blockInPlace cX0_blockInPlace 2 (some .int)]
def wsL_blockOf : List Cond := .codeWith yL_blockOf cL_blockOf 5 (some .int) [(0, 10, 13, 23)] :: ((wsL_blockOf_r1 ++ (wsL_blockOf_r2 ++ wsL_blockOf_r3)) ++ wsX50 ++ wsX30 ++ wsX00 ++ wsX40 ++ (vx_atS RX5 81 "java/lang/IndexOutOfBoundsException" ["java/lang/RuntimeException", "java/lang/Exception"]).filter goodWord)
def wsL_receive_r1 : List Cond := [Cond.classLink RL 18 "java/lang/IllegalStateException", Cond.methodLink RL 32 yX5_receive, Cond.instanceMethod yX5_receive, Cond.selects RX5 yX5_receive yX5_receive, Cond.initialized RX5, Cond.code yX5_receive cX5_receive 5 (some .int), Cond.classLink RX5 65 "java/lang/IllegalStateException", Cond.initialized "java/lang/IllegalStateException", Cond.methodLink RX5 95 yX5_drawn, Cond.instanceMethod yX5_drawn, Cond.selects RX5 yX5_drawn yX5_drawn, Cond.code yX5_drawn cX5_drawn 2 (some (.object "FountainCode$Drop")), Cond.fieldLink RX5 40 "FountainCode" "scratchDrop" "LFountainCode$Drop;", Cond.fieldLink RX5 12 "FountainCode" "weights" "LFountainCode$Weights;", Cond.fieldLink RX5 19 "FountainCode" "sender" "LFountainCode$Sender;", Cond.methodLink RX5 86 yX3_blockCount, Cond.instanceMethod yX3_blockCount, Cond.selects RX3 yX3_blockCount yX3_blockCount, Cond.initialized RX3, Cond.code yX3_blockCount cX3_blockCount 1 (some .int), Cond.fieldLink RX3 15 "FountainCode$Sender" "sources" "I", Cond.fieldLink RX3 19 "FountainCode$Sender" "parities" "I", Cond.methodLink RX5 184 yX0_draw, Cond.instanceMethod yX0_draw]
def wsL_receive_r2 : List Cond := [Cond.selects RX0 yX0_draw yX0_draw, Cond.initialized RX0, Cond.code yX0_draw cX0_draw 5 none, Cond.fieldLink RX0 15 "FountainCode$Drop" "generator" "J", Cond.methodLink RX0 32 Lib.Math.min.name, Cond.static Lib.Math.min.name, Cond.initialized "java/lang/Math", Cond.code Lib.Math.min.name Lib.Math.min.code 2 (some .int), Cond.fieldLink RX0 38 "FountainCode$Drop" "size" "I", Cond.fieldLink RX0 46 "FountainCode$Drop" "blockSet" "J", Cond.fieldLink RX0 9 "FountainCode$Drop" "row" "[I", Cond.methodLink RX0 19 yX4_sum, Cond.instanceMethod yX4_sum, Cond.selects RX4 yX4_sum yX4_sum, Cond.initialized RX4, Cond.code yX4_sum cX4_sum 3 (some .int), Cond.fieldLink RX4 20 "FountainCode$Weights" "list" "[I", Cond.methodLink RX0 25 yX0_numberBelow, Cond.instanceMethod yX0_numberBelow, Cond.selects RX0 yX0_numberBelow yX0_numberBelow, Cond.code yX0_numberBelow cX0_numberBelow 2 (some .int), Cond.constantLong RX0 57 (6364136223846793005), Cond.constantLong RX0 59 (1442695040888963407), Cond.methodLink RX0 29 yX4_degreeFor]
def wsL_receive_r3 : List Cond := [Cond.instanceMethod yX4_degreeFor, Cond.selects RX4 yX4_degreeFor yX4_degreeFor, Cond.code yX4_degreeFor cX4_degreeFor 4 (some .int), Cond.methodLink RX0 42 yX0_lineUp, Cond.instanceMethod yX0_lineUp, Cond.selects RX0 yX0_lineUp yX0_lineUp, Cond.code yX0_lineUp cX0_lineUp 3 none, Cond.methodLink RX0 49 yX0_swap, Cond.instanceMethod yX0_swap, Cond.selects RX0 yX0_swap yX0_swap, Cond.code yX0_swap cX0_swap 4 none, Cond.static yX5_setOf, Cond.code yX5_setOf cX5_setOf 1 (some .long), Cond.methodLink RX5 107 yX0_blockSet, Cond.instanceMethod yX0_blockSet, Cond.selects RX0 yX0_blockSet yX0_blockSet, Cond.code yX0_blockSet cX0_blockSet 1 (some .long), Cond.methodLink RX5 115 yX5_canTake, Cond.instanceMethod yX5_canTake, Cond.selects RX5 yX5_canTake yX5_canTake, Cond.code yX5_canTake cX5_canTake 5 (some .boolean), Cond.fieldLink RX5 26 "FountainCode" "peeler" "LFountainCode$Peeler;", Cond.fieldLink RX5 33 "FountainCode" "elimination" "LFountainCode$Elimination;", Cond.methodLink RX5 127 yX2_equationCount]
def wsL_receive_r4 : List Cond := [Cond.instanceMethod yX2_equationCount, Cond.selects RX2 yX2_equationCount yX2_equationCount, Cond.initialized RX2, Cond.code yX2_equationCount cX2_equationCount 1 (some .int), Cond.fieldLink RX2 22 "FountainCode$Peeler" "equationCount" "I", Cond.methodLink RX5 188 yX3_parityCount, Cond.instanceMethod yX3_parityCount, Cond.selects RX3 yX3_parityCount yX3_parityCount, Cond.code yX3_parityCount cX3_parityCount 1 (some .int), Cond.methodLink RX5 191 yX1_contradicts, Cond.instanceMethod yX1_contradicts, Cond.selects RX1 yX1_contradicts yX1_contradicts, Cond.initialized RX1, Cond.code yX1_contradicts cX1_contradicts 4 (some .boolean), Cond.methodLink RX1 36 yX1_remainder, Cond.instanceMethod yX1_remainder, Cond.selects RX1 yX1_remainder yX1_remainder, Cond.code yX1_remainder cX1_remainder 6 (some .long), Cond.fieldLink RX1 9 "FountainCode$Elimination" "rows" "[J", Cond.static yX5_holds, Cond.code yX5_holds cX5_holds 3 (some .boolean), Cond.methodLink RX5 150 yX5_setOf, Cond.methodLink RX1 40 yX1_knownValue, Cond.instanceMethod yX1_knownValue]
def wsL_receive_r5 : List Cond := [Cond.selects RX1 yX1_knownValue yX1_knownValue, Cond.code yX1_knownValue cX1_knownValue 5 (some .int), Cond.fieldLink RX1 15 "FountainCode$Elimination" "values" "[I", Cond.methodLink RX5 121 yX5_take, Cond.instanceMethod yX5_take, Cond.selects RX5 yX5_take yX5_take, Cond.code yX5_take cX5_take 4 (some .int), Cond.methodLink RX5 177 yX5_addEquation, Cond.instanceMethod yX5_addEquation, Cond.selects RX5 yX5_addEquation yX5_addEquation, Cond.code yX5_addEquation cX5_addEquation 4 none, Cond.methodLink RX5 194 yX2_addEquation, Cond.instanceMethod yX2_addEquation, Cond.selects RX2 yX2_addEquation yX2_addEquation, Cond.code yX2_addEquation cX2_addEquation 3 none, Cond.fieldLink RX2 9 "FountainCode$Peeler" "equationSets" "[J", Cond.methodLink RX5 197 yX1_addEquation, Cond.instanceMethod yX1_addEquation, Cond.selects RX1 yX1_addEquation yX1_addEquation, Cond.code yX1_addEquation cX1_addEquation 9 none, Cond.fieldLink RX1 19 "FountainCode$Elimination" "rowCount" "I", Cond.static yX5_lowestOf, Cond.code yX5_lowestOf cX5_lowestOf 2 (some .int), Cond.methodLink RX5 198 yJ13_bitCount_95d88]
def wsL_receive_r6 : List Cond := [Cond.static yJ13_bitCount_95d88, Cond.initialized RJ13, Cond.code yJ13_bitCount_95d88 cJ13_bitCount_95d88 2 (some .int), Cond.constantLong RJ13 314 (6148914691236517205), Cond.constantLong RJ13 316 (3689348814741910323), Cond.constantLong RJ13 318 (1085102592571150095), Cond.methodLink RX5 181 yX2_peelOn, Cond.instanceMethod yX2_peelOn, Cond.selects RX2 yX2_peelOn yX2_peelOn, Cond.code yX2_peelOn cX2_peelOn 4 (some .int), Cond.fieldLink RX2 26 "FountainCode$Peeler" "peeledCount" "I", Cond.methodLink RX2 39 yX2_lowestReady, Cond.instanceMethod yX2_lowestReady, Cond.selects RX2 yX2_lowestReady yX2_lowestReady, Cond.code yX2_lowestReady cX2_lowestReady 2 (some .int), Cond.fieldLink RX2 29 "FountainCode$Peeler" "peeledSet" "J", Cond.constantLong RX2 47 (-1), Cond.methodLink RX2 49 yJ13_bitCount_95d88, Cond.methodLink RX2 43 yX2_peelWith, Cond.instanceMethod yX2_peelWith, Cond.selects RX2 yX2_peelWith yX2_peelWith, Cond.code yX2_peelWith cX2_peelWith 3 none, Cond.fieldLink RX2 15 "FountainCode$Peeler" "peelOrder" "[I", Cond.fieldLink RX2 19 "FountainCode$Peeler" "peelEquations" "[I"]
def wsL_receive : List Cond := .codeWith yL_receive cL_receive 5 (some .int) [(0, 10, 13, 18)] :: ((wsL_receive_r1 ++ (wsL_receive_r2 ++ (wsL_receive_r3 ++ (wsL_receive_r4 ++ (wsL_receive_r5 ++ wsL_receive_r6))))) ++ wsX50 ++ wsX30 ++ wsX00 ++ wsX40 ++ wsX20 ++ wsX10 ++ (vx_atS RX5 69 "java/lang/IllegalStateException" ["java/lang/RuntimeException", "java/lang/Exception"]).filter goodWord)
def wsL_receiveAll_r1 : List Cond := [Cond.classLink RL 13 "java/lang/IllegalArgumentException", Cond.methodLink RL 35 yX5_receiveAll, Cond.instanceMethod yX5_receiveAll, Cond.selects RX5 yX5_receiveAll yX5_receiveAll, Cond.initialized RX5, Cond.code yX5_receiveAll cX5_receiveAll 7 (some .int), Cond.classLink RX5 48 "java/lang/IllegalArgumentException", Cond.initialized "java/lang/IllegalArgumentException", Cond.fieldLink RX5 19 "FountainCode" "sender" "LFountainCode$Sender;", Cond.methodLink RX5 95 yX5_drawn, Cond.instanceMethod yX5_drawn, Cond.selects RX5 yX5_drawn yX5_drawn, Cond.code yX5_drawn cX5_drawn 2 (some (.object "FountainCode$Drop")), Cond.fieldLink RX5 40 "FountainCode" "scratchDrop" "LFountainCode$Drop;", Cond.fieldLink RX5 12 "FountainCode" "weights" "LFountainCode$Weights;", Cond.methodLink RX5 86 yX3_blockCount, Cond.instanceMethod yX3_blockCount, Cond.selects RX3 yX3_blockCount yX3_blockCount, Cond.initialized RX3, Cond.code yX3_blockCount cX3_blockCount 1 (some .int), Cond.fieldLink RX3 15 "FountainCode$Sender" "sources" "I", Cond.fieldLink RX3 19 "FountainCode$Sender" "parities" "I", Cond.methodLink RX5 184 yX0_draw, Cond.instanceMethod yX0_draw]
def wsL_receiveAll_r2 : List Cond := [Cond.selects RX0 yX0_draw yX0_draw, Cond.initialized RX0, Cond.code yX0_draw cX0_draw 5 none, Cond.fieldLink RX0 15 "FountainCode$Drop" "generator" "J", Cond.methodLink RX0 32 Lib.Math.min.name, Cond.static Lib.Math.min.name, Cond.initialized "java/lang/Math", Cond.code Lib.Math.min.name Lib.Math.min.code 2 (some .int), Cond.fieldLink RX0 38 "FountainCode$Drop" "size" "I", Cond.fieldLink RX0 46 "FountainCode$Drop" "blockSet" "J", Cond.fieldLink RX0 9 "FountainCode$Drop" "row" "[I", Cond.methodLink RX0 19 yX4_sum, Cond.instanceMethod yX4_sum, Cond.selects RX4 yX4_sum yX4_sum, Cond.initialized RX4, Cond.code yX4_sum cX4_sum 3 (some .int), Cond.fieldLink RX4 20 "FountainCode$Weights" "list" "[I", Cond.methodLink RX0 25 yX0_numberBelow, Cond.instanceMethod yX0_numberBelow, Cond.selects RX0 yX0_numberBelow yX0_numberBelow, Cond.code yX0_numberBelow cX0_numberBelow 2 (some .int), Cond.constantLong RX0 57 (6364136223846793005), Cond.constantLong RX0 59 (1442695040888963407), Cond.methodLink RX0 29 yX4_degreeFor]
def wsL_receiveAll_r3 : List Cond := [Cond.instanceMethod yX4_degreeFor, Cond.selects RX4 yX4_degreeFor yX4_degreeFor, Cond.code yX4_degreeFor cX4_degreeFor 4 (some .int), Cond.methodLink RX0 42 yX0_lineUp, Cond.instanceMethod yX0_lineUp, Cond.selects RX0 yX0_lineUp yX0_lineUp, Cond.code yX0_lineUp cX0_lineUp 3 none, Cond.methodLink RX0 49 yX0_swap, Cond.instanceMethod yX0_swap, Cond.selects RX0 yX0_swap yX0_swap, Cond.code yX0_swap cX0_swap 4 none, Cond.static yX5_setOf, Cond.code yX5_setOf cX5_setOf 1 (some .long), Cond.methodLink RX5 107 yX0_blockSet, Cond.instanceMethod yX0_blockSet, Cond.selects RX0 yX0_blockSet yX0_blockSet, Cond.code yX0_blockSet cX0_blockSet 1 (some .long), Cond.methodLink RX5 111 yX3_valueOfSet, Cond.instanceMethod yX3_valueOfSet, Cond.selects RX3 yX3_valueOfSet yX3_valueOfSet, Cond.code yX3_valueOfSet cX3_valueOfSet 5 (some .int), Cond.methodLink RX3 35 yX3_valueOfSources, Cond.instanceMethod yX3_valueOfSources, Cond.selects RX3 yX3_valueOfSources yX3_valueOfSources]
def wsL_receiveAll_r4 : List Cond := [Cond.code yX3_valueOfSources cX3_valueOfSources 5 (some .int), Cond.fieldLink RX3 9 "FountainCode$Sender" "sourceValues" "[I", Cond.static yX5_holds, Cond.code yX5_holds cX5_holds 3 (some .boolean), Cond.methodLink RX5 150 yX5_setOf, Cond.methodLink RX3 39 yX3_blockCount, Cond.methodLink RX3 47 yX3_valueOfBlock, Cond.instanceMethod yX3_valueOfBlock, Cond.selects RX3 yX3_valueOfBlock yX3_valueOfBlock, Cond.code yX3_valueOfBlock cX3_valueOfBlock 2 (some .int), Cond.methodLink RX3 32 yX3_coveredBy, Cond.instanceMethod yX3_coveredBy, Cond.selects RX3 yX3_coveredBy yX3_coveredBy, Cond.code yX3_coveredBy cX3_coveredBy 5 (some .long), Cond.methodLink RX5 115 yX5_canTake, Cond.instanceMethod yX5_canTake, Cond.selects RX5 yX5_canTake yX5_canTake, Cond.code yX5_canTake cX5_canTake 5 (some .boolean), Cond.fieldLink RX5 26 "FountainCode" "peeler" "LFountainCode$Peeler;", Cond.fieldLink RX5 33 "FountainCode" "elimination" "LFountainCode$Elimination;", Cond.methodLink RX5 127 yX2_equationCount, Cond.instanceMethod yX2_equationCount, Cond.selects RX2 yX2_equationCount yX2_equationCount, Cond.initialized RX2]
def wsL_receiveAll_r5 : List Cond := [Cond.code yX2_equationCount cX2_equationCount 1 (some .int), Cond.fieldLink RX2 22 "FountainCode$Peeler" "equationCount" "I", Cond.methodLink RX5 188 yX3_parityCount, Cond.instanceMethod yX3_parityCount, Cond.selects RX3 yX3_parityCount yX3_parityCount, Cond.code yX3_parityCount cX3_parityCount 1 (some .int), Cond.methodLink RX5 191 yX1_contradicts, Cond.instanceMethod yX1_contradicts, Cond.selects RX1 yX1_contradicts yX1_contradicts, Cond.initialized RX1, Cond.code yX1_contradicts cX1_contradicts 4 (some .boolean), Cond.methodLink RX1 36 yX1_remainder, Cond.instanceMethod yX1_remainder, Cond.selects RX1 yX1_remainder yX1_remainder, Cond.code yX1_remainder cX1_remainder 6 (some .long), Cond.fieldLink RX1 9 "FountainCode$Elimination" "rows" "[J", Cond.methodLink RX1 40 yX1_knownValue, Cond.instanceMethod yX1_knownValue, Cond.selects RX1 yX1_knownValue yX1_knownValue, Cond.code yX1_knownValue cX1_knownValue 5 (some .int), Cond.fieldLink RX1 15 "FountainCode$Elimination" "values" "[I", Cond.methodLink RX5 121 yX5_take, Cond.instanceMethod yX5_take, Cond.selects RX5 yX5_take yX5_take]
def wsL_receiveAll_r6 : List Cond := [Cond.code yX5_take cX5_take 4 (some .int), Cond.methodLink RX5 177 yX5_addEquation, Cond.instanceMethod yX5_addEquation, Cond.selects RX5 yX5_addEquation yX5_addEquation, Cond.code yX5_addEquation cX5_addEquation 4 none, Cond.methodLink RX5 194 yX2_addEquation, Cond.instanceMethod yX2_addEquation, Cond.selects RX2 yX2_addEquation yX2_addEquation, Cond.code yX2_addEquation cX2_addEquation 3 none, Cond.fieldLink RX2 9 "FountainCode$Peeler" "equationSets" "[J", Cond.methodLink RX5 197 yX1_addEquation, Cond.instanceMethod yX1_addEquation, Cond.selects RX1 yX1_addEquation yX1_addEquation, Cond.code yX1_addEquation cX1_addEquation 9 none, Cond.fieldLink RX1 19 "FountainCode$Elimination" "rowCount" "I", Cond.static yX5_lowestOf, Cond.code yX5_lowestOf cX5_lowestOf 2 (some .int), Cond.methodLink RX5 198 yJ13_bitCount_95d88, Cond.static yJ13_bitCount_95d88, Cond.initialized RJ13, Cond.code yJ13_bitCount_95d88 cJ13_bitCount_95d88 2 (some .int), Cond.constantLong RJ13 314 (6148914691236517205), Cond.constantLong RJ13 316 (3689348814741910323), Cond.constantLong RJ13 318 (1085102592571150095)]
def wsL_receiveAll_r7 : List Cond := [Cond.methodLink RX5 181 yX2_peelOn, Cond.instanceMethod yX2_peelOn, Cond.selects RX2 yX2_peelOn yX2_peelOn, Cond.code yX2_peelOn cX2_peelOn 4 (some .int), Cond.fieldLink RX2 26 "FountainCode$Peeler" "peeledCount" "I", Cond.methodLink RX2 39 yX2_lowestReady, Cond.instanceMethod yX2_lowestReady, Cond.selects RX2 yX2_lowestReady yX2_lowestReady, Cond.code yX2_lowestReady cX2_lowestReady 2 (some .int), Cond.fieldLink RX2 29 "FountainCode$Peeler" "peeledSet" "J", Cond.constantLong RX2 47 (-1), Cond.methodLink RX2 49 yJ13_bitCount_95d88, Cond.methodLink RX2 43 yX2_peelWith, Cond.instanceMethod yX2_peelWith, Cond.selects RX2 yX2_peelWith yX2_peelWith, Cond.code yX2_peelWith cX2_peelWith 3 none, Cond.fieldLink RX2 15 "FountainCode$Peeler" "peelOrder" "[I", Cond.fieldLink RX2 19 "FountainCode$Peeler" "peelEquations" "[I"]
def wsL_receiveAll : List Cond := .codeWith yL_receiveAll cL_receiveAll 5 (some .int) [(0, 10, 13, 13)] :: ((wsL_receiveAll_r1 ++ (wsL_receiveAll_r2 ++ (wsL_receiveAll_r3 ++ (wsL_receiveAll_r4 ++ (wsL_receiveAll_r5 ++ (wsL_receiveAll_r6 ++ wsL_receiveAll_r7)))))) ++ wsX50 ++ wsX30 ++ wsX00 ++ wsX40 ++ wsX20 ++ wsX10 ++ (vx_atS RX5 52 "java/lang/IllegalArgumentException" ["java/lang/RuntimeException", "java/lang/Exception"]).filter goodWord)
def wsL_peeledAt : List Cond := .codeWith yL_peeledAt cL_peeledAt 4 (some .int) [(0, 9, 12, 23)] :: ([.classLink RL 23 "java/lang/IndexOutOfBoundsException", .methodLink RL 38 yX5_peeledAt, .instanceMethod yX5_peeledAt, .selects RX5 yX5_peeledAt yX5_peeledAt, .initialized RX5, .code yX5_peeledAt cX5_peeledAt 2 (some .int), .classLink RX5 77 "java/lang/IndexOutOfBoundsException", .initialized "java/lang/IndexOutOfBoundsException", .fieldLink RX5 26 "FountainCode" "peeler" "LFountainCode$Peeler;", .methodLink RX5 133 yX2_peeledCount, .instanceMethod yX2_peeledCount, .selects RX2 yX2_peeledCount yX2_peeledCount, .initialized RX2, .code yX2_peeledCount cX2_peeledCount 1 (some .int), .fieldLink RX2 26 "FountainCode$Peeler" "peeledCount" "I", .methodLink RX5 136 yX2_peeledInPlace, .instanceMethod yX2_peeledInPlace, .selects RX2 yX2_peeledInPlace yX2_peeledInPlace, .code yX2_peeledInPlace cX2_peeledInPlace 2 (some .int), .fieldLink RX2 15 "FountainCode$Peeler" "peelOrder" "[I"] ++ wsX50 ++ wsX20 ++ (vx_atS RX5 81 "java/lang/IndexOutOfBoundsException" ["java/lang/RuntimeException", "java/lang/Exception"]).filter goodWord)
def wsL_peeledBy_r1 : List Cond := [Cond.classLink RL 23 "java/lang/IndexOutOfBoundsException", Cond.methodLink RL 41 yX5_peeledBy, Cond.instanceMethod yX5_peeledBy, Cond.selects RX5 yX5_peeledBy yX5_peeledBy, Cond.initialized RX5, Cond.code yX5_peeledBy cX5_peeledBy 2 (some .int), Cond.classLink RX5 77 "java/lang/IndexOutOfBoundsException", Cond.initialized "java/lang/IndexOutOfBoundsException", Cond.fieldLink RX5 26 "FountainCode" "peeler" "LFountainCode$Peeler;", Cond.methodLink RX5 89 yX5_isBlock, Cond.instanceMethod yX5_isBlock, Cond.selects RX5 yX5_isBlock yX5_isBlock, Cond.code yX5_isBlock cX5_isBlock 2 (some .boolean), Cond.fieldLink RX5 19 "FountainCode" "sender" "LFountainCode$Sender;", Cond.methodLink RX5 86 yX3_blockCount, Cond.instanceMethod yX3_blockCount, Cond.selects RX3 yX3_blockCount yX3_blockCount, Cond.initialized RX3, Cond.code yX3_blockCount cX3_blockCount 1 (some .int), Cond.fieldLink RX3 15 "FountainCode$Sender" "sources" "I", Cond.fieldLink RX3 19 "FountainCode$Sender" "parities" "I", Cond.methodLink RX5 139 yX2_equationThatPeeled, Cond.instanceMethod yX2_equationThatPeeled, Cond.selects RX2 yX2_equationThatPeeled yX2_equationThatPeeled]
def wsL_peeledBy_r2 : List Cond := [Cond.initialized RX2, Cond.code yX2_equationThatPeeled cX2_equationThatPeeled 2 (some .int), Cond.fieldLink RX2 19 "FountainCode$Peeler" "peelEquations" "[I"]
def wsL_peeledBy : List Cond := .codeWith yL_peeledBy cL_peeledBy 4 (some .int) [(0, 9, 12, 23)] :: ((wsL_peeledBy_r1 ++ wsL_peeledBy_r2) ++ wsX50 ++ wsX30 ++ wsX20 ++ (vx_atS RX5 81 "java/lang/IndexOutOfBoundsException" ["java/lang/RuntimeException", "java/lang/Exception"]).filter goodWord)
def wsL_isDetermined_r1 : List Cond := [Cond.classLink RL 23 "java/lang/IndexOutOfBoundsException", Cond.methodLink RL 44 yX5_isDetermined, Cond.instanceMethod yX5_isDetermined, Cond.selects RX5 yX5_isDetermined yX5_isDetermined, Cond.initialized RX5, Cond.code yX5_isDetermined cX5_isDetermined 2 (some .boolean), Cond.classLink RX5 77 "java/lang/IndexOutOfBoundsException", Cond.initialized "java/lang/IndexOutOfBoundsException", Cond.fieldLink RX5 33 "FountainCode" "elimination" "LFountainCode$Elimination;", Cond.methodLink RX5 89 yX5_isBlock, Cond.instanceMethod yX5_isBlock, Cond.selects RX5 yX5_isBlock yX5_isBlock, Cond.code yX5_isBlock cX5_isBlock 2 (some .boolean), Cond.fieldLink RX5 19 "FountainCode" "sender" "LFountainCode$Sender;", Cond.methodLink RX5 86 yX3_blockCount, Cond.instanceMethod yX3_blockCount, Cond.selects RX3 yX3_blockCount yX3_blockCount, Cond.initialized RX3, Cond.code yX3_blockCount cX3_blockCount 1 (some .int), Cond.fieldLink RX3 15 "FountainCode$Sender" "sources" "I", Cond.fieldLink RX3 19 "FountainCode$Sender" "parities" "I", Cond.methodLink RX5 145 yX1_fixes, Cond.instanceMethod yX1_fixes, Cond.selects RX1 yX1_fixes yX1_fixes]
def wsL_isDetermined_r2 : List Cond := [Cond.initialized RX1, Cond.code yX1_fixes cX1_fixes 2 (some .boolean), Cond.methodLink RX1 44 yX1_remainderOfBlock, Cond.instanceMethod yX1_remainderOfBlock, Cond.selects RX1 yX1_remainderOfBlock yX1_remainderOfBlock, Cond.code yX1_remainderOfBlock cX1_remainderOfBlock 4 (some .long), Cond.fieldLink RX1 9 "FountainCode$Elimination" "rows" "[J", Cond.static yX5_setOf, Cond.code yX5_setOf cX5_setOf 1 (some .long)]
def wsL_isDetermined : List Cond := .codeWith yL_isDetermined cL_isDetermined 4 (some .int) [(0, 16, 19, 23)] :: ((wsL_isDetermined_r1 ++ wsL_isDetermined_r2) ++ wsX50 ++ wsX30 ++ wsX10 ++ (vx_atS RX5 81 "java/lang/IndexOutOfBoundsException" ["java/lang/RuntimeException", "java/lang/Exception"]).filter goodWord)
def wsL_recovered_r1 : List Cond := [Cond.classLink RL 23 "java/lang/IndexOutOfBoundsException", Cond.classLink RL 18 "java/lang/IllegalStateException", Cond.methodLink RL 48 yX5_recovered, Cond.instanceMethod yX5_recovered, Cond.selects RX5 yX5_recovered yX5_recovered, Cond.initialized RX5, Cond.code yX5_recovered cX5_recovered 2 (some .int), Cond.classLink RX5 77 "java/lang/IndexOutOfBoundsException", Cond.initialized "java/lang/IndexOutOfBoundsException", Cond.classLink RX5 65 "java/lang/IllegalStateException", Cond.initialized "java/lang/IllegalStateException", Cond.fieldLink RX5 33 "FountainCode" "elimination" "LFountainCode$Elimination;", Cond.methodLink RX5 89 yX5_isBlock, Cond.instanceMethod yX5_isBlock, Cond.selects RX5 yX5_isBlock yX5_isBlock, Cond.code yX5_isBlock cX5_isBlock 2 (some .boolean), Cond.fieldLink RX5 19 "FountainCode" "sender" "LFountainCode$Sender;", Cond.methodLink RX5 86 yX3_blockCount, Cond.instanceMethod yX3_blockCount, Cond.selects RX3 yX3_blockCount yX3_blockCount, Cond.initialized RX3, Cond.code yX3_blockCount cX3_blockCount 1 (some .int), Cond.fieldLink RX3 15 "FountainCode$Sender" "sources" "I", Cond.fieldLink RX3 19 "FountainCode$Sender" "parities" "I"]
def wsL_recovered_r2 : List Cond := [Cond.methodLink RX5 145 yX1_fixes, Cond.instanceMethod yX1_fixes, Cond.selects RX1 yX1_fixes yX1_fixes, Cond.initialized RX1, Cond.code yX1_fixes cX1_fixes 2 (some .boolean), Cond.methodLink RX1 44 yX1_remainderOfBlock, Cond.instanceMethod yX1_remainderOfBlock, Cond.selects RX1 yX1_remainderOfBlock yX1_remainderOfBlock, Cond.code yX1_remainderOfBlock cX1_remainderOfBlock 4 (some .long), Cond.fieldLink RX1 9 "FountainCode$Elimination" "rows" "[J", Cond.static yX5_setOf, Cond.code yX5_setOf cX5_setOf 1 (some .long), Cond.methodLink RX5 150 yX5_setOf, Cond.methodLink RX5 154 yX1_knownValue, Cond.instanceMethod yX1_knownValue, Cond.selects RX1 yX1_knownValue yX1_knownValue, Cond.code yX1_knownValue cX1_knownValue 5 (some .int), Cond.fieldLink RX1 15 "FountainCode$Elimination" "values" "[I", Cond.static yX5_holds, Cond.code yX5_holds cX5_holds 3 (some .boolean)]
def wsL_recovered : List Cond := .codeWith yL_recovered cL_recovered 4 (some .int) [(0, 9, 12, 23), (0, 9, 15, 18)] :: ((wsL_recovered_r1 ++ wsL_recovered_r2) ++ wsX50 ++ wsX30 ++ wsX10 ++ (vx_atS RX5 81 "java/lang/IndexOutOfBoundsException" ["java/lang/RuntimeException", "java/lang/Exception"]).filter goodWord ++ (vx_atS RX5 69 "java/lang/IllegalStateException" ["java/lang/RuntimeException", "java/lang/Exception"]).filter goodWord)
def wsL_law0_r1 : List Cond := [Cond.classLink RL 8 RX5, Cond.instantiable RX5 5, Cond.initialized RX5, Cond.classLink RL 52 RX6, Cond.instantiable RX6 22, Cond.initialized RX6, Cond.arrayClass .long, Cond.methodLink RL 51 yX5_init, Cond.instanceMethod yX5_init, Cond.code yX5_init cX5_init 1 none, Cond.methodLink RX5 3 objectInit, Cond.instanceMethod objectInit, Cond.code objectInit ⟨#[0xb1]⟩ 1 none, Cond.classLink RX5 9 RX4, Cond.instantiable RX4 1, Cond.initialized RX4, Cond.fieldLink RX5 12 "FountainCode" "weights" "LFountainCode$Weights;", Cond.classLink RX5 16 RX3, Cond.instantiable RX3 3, Cond.initialized RX3, Cond.fieldLink RX5 19 "FountainCode" "sender" "LFountainCode$Sender;", Cond.classLink RX5 23 RX2, Cond.instantiable RX2 6, Cond.initialized RX2]
def wsL_law0_r2 : List Cond := [Cond.fieldLink RX5 26 "FountainCode" "peeler" "LFountainCode$Peeler;", Cond.classLink RX5 30 RX1, Cond.instantiable RX1 3, Cond.initialized RX1, Cond.fieldLink RX5 33 "FountainCode" "elimination" "LFountainCode$Elimination;", Cond.classLink RX5 37 RX0, Cond.instantiable RX0 4, Cond.initialized RX0, Cond.fieldLink RX5 40 "FountainCode" "scratchDrop" "LFountainCode$Drop;", Cond.instanceMethod yX4_init, Cond.code yX4_init cX4_init 1 none, Cond.methodLink RX4 3 objectInit, Cond.fieldLink RX4 9 "FountainCode$Weights" "FIRST_WEIGHTS" "[I", Cond.methodLink RX4 15 ⟨"[I", "clone", "()Ljava/lang/Object;"⟩, Cond.sameMethod "[I" "java/lang/Object" "clone" "()Ljava/lang/Object;", Cond.native ⟨"java/lang/Object", "clone", "()Ljava/lang/Object;"⟩, Cond.instanceMethod ⟨"java/lang/Object", "clone", "()Ljava/lang/Object;"⟩, Cond.selects "[I" ⟨"[I", "clone", "()Ljava/lang/Object;"⟩ ⟨"java/lang/Object", "clone", "()Ljava/lang/Object;"⟩, Cond.classLink RX4 16 "[I", Cond.fieldLink RX4 20 "FountainCode$Weights" "list" "[I", Cond.instanceMethod yX3_init, Cond.code yX3_init cX3_init 1 none, Cond.methodLink RX3 3 objectInit, Cond.arrayClass .int]
def wsL_law0_r3 : List Cond := [Cond.fieldLink RX3 9 "FountainCode$Sender" "sourceValues" "[I", Cond.instanceMethod yX2_init, Cond.code yX2_init cX2_init 1 none, Cond.methodLink RX2 3 objectInit, Cond.fieldLink RX2 9 "FountainCode$Peeler" "equationSets" "[J", Cond.fieldLink RX2 15 "FountainCode$Peeler" "peelOrder" "[I", Cond.fieldLink RX2 19 "FountainCode$Peeler" "peelEquations" "[I", Cond.instanceMethod yX1_init, Cond.code yX1_init cX1_init 1 none, Cond.methodLink RX1 3 objectInit, Cond.fieldLink RX1 9 "FountainCode$Elimination" "rows" "[J", Cond.fieldLink RX1 15 "FountainCode$Elimination" "values" "[I", Cond.instanceMethod yX0_init, Cond.code yX0_init cX0_init 1 none, Cond.methodLink RX0 3 objectInit, Cond.fieldLink RX0 9 "FountainCode$Drop" "row" "[I", Cond.methodLink RX5 44 yX5_beginTransfer, Cond.instanceMethod yX5_beginTransfer, Cond.selects RX5 yX5_beginTransfer yX5_beginTransfer, Cond.code yX5_beginTransfer cX5_beginTransfer 4 (some .int), Cond.methodLink RX5 167 yX3_begin, Cond.instanceMethod yX3_begin, Cond.selects RX3 yX3_begin yX3_begin, Cond.code yX3_begin cX3_begin 3 none]
def wsL_law0_r4 : List Cond := [Cond.fieldLink RX3 15 "FountainCode$Sender" "sources" "I", Cond.fieldLink RX3 19 "FountainCode$Sender" "parities" "I", Cond.methodLink RX3 22 yJ7_fill_53178, Cond.static yJ7_fill_53178, Cond.initialized RJ7, Cond.code yJ7_fill_53178 cJ7_fill_53178 4 none, Cond.methodLink RX5 170 yX2_clear, Cond.instanceMethod yX2_clear, Cond.selects RX2 yX2_clear yX2_clear, Cond.code yX2_clear cX2_clear 1 none, Cond.fieldLink RX2 22 "FountainCode$Peeler" "equationCount" "I", Cond.fieldLink RX2 26 "FountainCode$Peeler" "peeledCount" "I", Cond.fieldLink RX2 29 "FountainCode$Peeler" "peeledSet" "J", Cond.methodLink RX2 33 yJ7_fill_53178, Cond.methodLink RX5 173 yX1_clear, Cond.instanceMethod yX1_clear, Cond.selects RX1 yX1_clear yX1_clear, Cond.code yX1_clear cX1_clear 1 none, Cond.fieldLink RX1 19 "FountainCode$Elimination" "rowCount" "I", Cond.methodLink RX1 23 yJ7_fill_d0a16, Cond.static yJ7_fill_d0a16, Cond.code yJ7_fill_d0a16 cJ7_fill_d0a16 5 none, Cond.methodLink RX1 29 yJ7_fill_53178, Cond.methodLink RX5 150 yX5_setOf]
def wsL_law0_r5 : List Cond := [Cond.static yX5_setOf, Cond.code yX5_setOf cX5_setOf 1 (some .long), Cond.methodLink RX5 174 yX3_coveredBy, Cond.instanceMethod yX3_coveredBy, Cond.selects RX3 yX3_coveredBy yX3_coveredBy, Cond.code yX3_coveredBy cX3_coveredBy 5 (some .long), Cond.methodLink RX5 177 yX5_addEquation, Cond.instanceMethod yX5_addEquation, Cond.selects RX5 yX5_addEquation yX5_addEquation, Cond.code yX5_addEquation cX5_addEquation 4 none, Cond.methodLink RX5 194 yX2_addEquation, Cond.instanceMethod yX2_addEquation, Cond.selects RX2 yX2_addEquation yX2_addEquation, Cond.code yX2_addEquation cX2_addEquation 3 none, Cond.methodLink RX5 197 yX1_addEquation, Cond.instanceMethod yX1_addEquation, Cond.selects RX1 yX1_addEquation yX1_addEquation, Cond.code yX1_addEquation cX1_addEquation 9 none, Cond.methodLink RX1 36 yX1_remainder, Cond.instanceMethod yX1_remainder, Cond.selects RX1 yX1_remainder yX1_remainder, Cond.code yX1_remainder cX1_remainder 6 (some .long), Cond.static yX5_holds, Cond.code yX5_holds cX5_holds 3 (some .boolean)]
def wsL_law0_r6 : List Cond := [Cond.static yX5_lowestOf, Cond.code yX5_lowestOf cX5_lowestOf 2 (some .int), Cond.methodLink RX5 198 yJ13_bitCount_95d88, Cond.static yJ13_bitCount_95d88, Cond.initialized RJ13, Cond.code yJ13_bitCount_95d88 cJ13_bitCount_95d88 2 (some .int), Cond.constantLong RJ13 314 (6148914691236517205), Cond.constantLong RJ13 316 (3689348814741910323), Cond.constantLong RJ13 318 (1085102592571150095), Cond.methodLink RX1 40 yX1_knownValue, Cond.instanceMethod yX1_knownValue, Cond.selects RX1 yX1_knownValue yX1_knownValue, Cond.code yX1_knownValue cX1_knownValue 5 (some .int), Cond.methodLink RX5 181 yX2_peelOn, Cond.instanceMethod yX2_peelOn, Cond.selects RX2 yX2_peelOn yX2_peelOn, Cond.code yX2_peelOn cX2_peelOn 4 (some .int), Cond.methodLink RX2 39 yX2_lowestReady, Cond.instanceMethod yX2_lowestReady, Cond.selects RX2 yX2_lowestReady yX2_lowestReady, Cond.code yX2_lowestReady cX2_lowestReady 2 (some .int), Cond.constantLong RX2 47 (-1), Cond.methodLink RX2 49 yJ13_bitCount_95d88, Cond.methodLink RX2 43 yX2_peelWith]
def wsL_law0_r7 : List Cond := [Cond.instanceMethod yX2_peelWith, Cond.selects RX2 yX2_peelWith yX2_peelWith, Cond.code yX2_peelWith cX2_peelWith 3 none, Cond.methodLink RL 54 yX6_init, Cond.instanceMethod yX6_init, Cond.code yX6_init cX6_init 2 none, Cond.methodLink RX6 1 objectInit, Cond.fieldLink RX6 7 "FountainCodeModel" "weights" "[I", Cond.fieldLink RX6 13 "FountainCodeModel" "sources" "I", Cond.fieldLink RX6 17 "FountainCodeModel" "blocks" "I", Cond.fieldLink RX6 20 "FountainCodeModel" "values" "[I", Cond.fieldLink RX6 23 "FountainCodeModel" "masks" "[J", Cond.fieldLink RX6 27 "FountainCodeModel" "numbers" "[I", Cond.fieldLink RX6 30 "FountainCodeModel" "order" "[I", Cond.fieldLink RX6 33 "FountainCodeModel" "by" "[I", Cond.fieldLink RX6 36 "FountainCodeModel" "rows" "[J", Cond.fieldLink RX6 39 "FountainCodeModel" "rowNumbers" "[I", Cond.fieldLink RX6 42 "FountainCodeModel" "rowsKept" "[J", Cond.fieldLink RX6 45 "FountainCodeModel" "rowNumbersKept" "[I", Cond.fieldLink RX6 48 "FountainCodeModel" "drawn" "[I", Cond.methodLink RX6 51 yX6_clear, Cond.instanceMethod yX6_clear, Cond.selects RX6 yX6_clear yX6_clear, Cond.code yX6_clear cX6_clear 2 none]
def wsL_law0_r8 : List Cond := [Cond.fieldLink RX6 68 "FountainCodeModel" "many" "I", Cond.fieldLink RX6 71 "FountainCodeModel" "drops" "I", Cond.fieldLink RX6 74 "FountainCodeModel" "peeled" "I", Cond.fieldLink RX6 77 "FountainCodeModel" "peeledMask" "J", Cond.methodLink RL 55 yL_start, Cond.static yL_start, Cond.initialized RL, Cond.codeWith yL_start cL_start 5 (some .int) [(0, 10, 13, 13)], Cond.classLink RL 13 "java/lang/IllegalArgumentException", Cond.methodLink RL 7 yX5_start, Cond.instanceMethod yX5_start, Cond.selects RX5 yX5_start yX5_start, Cond.code yX5_start cX5_start 3 (some .int), Cond.classLink RX5 48 "java/lang/IllegalArgumentException", Cond.initialized "java/lang/IllegalArgumentException", Cond.methodLink RL 60 yX6_start, Cond.instanceMethod yX6_start, Cond.selects RX6 yX6_start yX6_start, Cond.code yX6_start cX6_start 7 (some .int), Cond.methodLink RX6 57 yX6_within, Cond.static yX6_within, Cond.code yX6_within cX6_within 3 (some .boolean), Cond.methodLink RX6 65 yX6_refused, Cond.instanceMethod yX6_refused]
def wsL_law0_r9 : List Cond := [Cond.selects RX6 yX6_refused yX6_refused, Cond.code yX6_refused cX6_refused 2 (some .boolean), Cond.fieldLink RX6 54 "FountainCodeModel" "refusal" "I", Cond.methodLink RX6 81 yX6_covers, Cond.static yX6_covers, Cond.code yX6_covers cX6_covers 2 (some .boolean), Cond.methodLink RX6 121 yX6_addEquation, Cond.instanceMethod yX6_addEquation, Cond.selects RX6 yX6_addEquation yX6_addEquation, Cond.code yX6_addEquation cX6_addEquation 4 none, Cond.methodLink RX6 112 yX6_reduce, Cond.instanceMethod yX6_reduce, Cond.selects RX6 yX6_reduce yX6_reduce, Cond.code yX6_reduce cX6_reduce 5 none, Cond.fieldLink RX6 106 "FountainCodeModel" "reduced" "J", Cond.fieldLink RX6 109 "FountainCodeModel" "reducedNumber" "I", Cond.methodLink RX6 116 yX6_layRow, Cond.instanceMethod yX6_layRow, Cond.selects RX6 yX6_layRow yX6_layRow, Cond.code yX6_layRow cX6_layRow 3 none, Cond.methodLink RX6 124 yX6_peel, Cond.instanceMethod yX6_peel, Cond.selects RX6 yX6_peel yX6_peel, Cond.code yX6_peel cX6_peel 7 (some .int)]
def wsL_law0_r10 : List Cond := [Cond.constantLong RX6 119 (-1), Cond.methodLink RL 61 yX6_thrown, Cond.instanceMethod yX6_thrown, Cond.selects RX6 yX6_thrown yX6_thrown, Cond.code yX6_thrown cX6_thrown 1 (some .int), Cond.methodLink RL 65 yL_setWeight, Cond.static yL_setWeight, Cond.codeWith yL_setWeight cL_setWeight 5 (some .int) [(0, 10, 13, 13), (0, 10, 17, 18)], Cond.classLink RL 18 "java/lang/IllegalStateException", Cond.methodLink RL 15 yX5_setWeight, Cond.instanceMethod yX5_setWeight, Cond.selects RX5 yX5_setWeight yX5_setWeight, Cond.code yX5_setWeight cX5_setWeight 4 (some .int), Cond.classLink RX5 65 "java/lang/IllegalStateException", Cond.initialized "java/lang/IllegalStateException", Cond.methodLink RX5 57 yX4_weightOf, Cond.instanceMethod yX4_weightOf, Cond.selects RX4 yX4_weightOf yX4_weightOf, Cond.code yX4_weightOf cX4_weightOf 3 (some .int), Cond.methodLink RX5 61 yX4_sum, Cond.instanceMethod yX4_sum, Cond.selects RX4 yX4_sum yX4_sum, Cond.code yX4_sum cX4_sum 3 (some .int), Cond.methodLink RX5 70 yX4_change]
def wsL_law0_r11 : List Cond := [Cond.instanceMethod yX4_change, Cond.selects RX4 yX4_change yX4_change, Cond.code yX4_change cX4_change 4 none, Cond.methodLink RL 67 yX6_setWeight, Cond.instanceMethod yX6_setWeight, Cond.selects RX6 yX6_setWeight yX6_setWeight, Cond.code yX6_setWeight cX6_setWeight 6 (some .int), Cond.methodLink RL 68 yL_setBlock, Cond.static yL_setBlock, Cond.codeWith yL_setBlock cL_setBlock 5 (some .int) [(0, 10, 13, 23)], Cond.classLink RL 23 "java/lang/IndexOutOfBoundsException", Cond.methodLink RL 20 yX5_setBlock, Cond.instanceMethod yX5_setBlock, Cond.selects RX5 yX5_setBlock yX5_setBlock, Cond.code yX5_setBlock cX5_setBlock 4 (some .int), Cond.classLink RX5 77 "java/lang/IndexOutOfBoundsException", Cond.initialized "java/lang/IndexOutOfBoundsException", Cond.methodLink RX5 74 yX3_sourceCount, Cond.instanceMethod yX3_sourceCount, Cond.selects RX3 yX3_sourceCount yX3_sourceCount, Cond.code yX3_sourceCount cX3_sourceCount 1 (some .int), Cond.methodLink RX5 82 yX3_valueOfBlock, Cond.instanceMethod yX3_valueOfBlock, Cond.selects RX3 yX3_valueOfBlock yX3_valueOfBlock]
def wsL_law0_r12 : List Cond := [Cond.code yX3_valueOfBlock cX3_valueOfBlock 2 (some .int), Cond.methodLink RX3 32 yX3_coveredBy, Cond.methodLink RX3 35 yX3_valueOfSources, Cond.instanceMethod yX3_valueOfSources, Cond.selects RX3 yX3_valueOfSources yX3_valueOfSources, Cond.code yX3_valueOfSources cX3_valueOfSources 5 (some .int), Cond.methodLink RX5 85 yX3_change, Cond.instanceMethod yX3_change, Cond.selects RX3 yX3_change yX3_change, Cond.code yX3_change cX3_change 3 none, Cond.methodLink RL 70 yX6_setBlock, Cond.instanceMethod yX6_setBlock, Cond.selects RX6 yX6_setBlock yX6_setBlock, Cond.code yX6_setBlock cX6_setBlock 4 (some .int), Cond.methodLink RL 71 yX5_blocks, Cond.instanceMethod yX5_blocks, Cond.selects RX5 yX5_blocks yX5_blocks, Cond.code yX5_blocks cX5_blocks 1 (some .int), Cond.methodLink RX5 86 yX3_blockCount, Cond.instanceMethod yX3_blockCount, Cond.selects RX3 yX3_blockCount yX3_blockCount, Cond.code yX3_blockCount cX3_blockCount 1 (some .int), Cond.methodLink RL 74 yX6_blocks, Cond.instanceMethod yX6_blocks]
def wsL_law0_r13 : List Cond := [Cond.selects RX6 yX6_blocks yX6_blocks, Cond.code yX6_blocks cX6_blocks 1 (some .int), Cond.methodLink RX6 128 yX6_told, Cond.instanceMethod yX6_told, Cond.selects RX6 yX6_told yX6_told, Cond.code yX6_told cX6_told 2 (some .int), Cond.methodLink RL 75 yL_blockAt, Cond.static yL_blockAt, Cond.codeWith yL_blockAt cL_blockAt 4 (some .int) [(0, 9, 12, 23)], Cond.methodLink RL 25 yX5_blockAt, Cond.instanceMethod yX5_blockAt, Cond.selects RX5 yX5_blockAt yX5_blockAt, Cond.code yX5_blockAt cX5_blockAt 2 (some .int), Cond.methodLink RX5 89 yX5_isBlock, Cond.instanceMethod yX5_isBlock, Cond.selects RX5 yX5_isBlock yX5_isBlock, Cond.code yX5_isBlock cX5_isBlock 2 (some .boolean), Cond.methodLink RL 78 yX6_blockAt, Cond.instanceMethod yX6_blockAt, Cond.selects RX6 yX6_blockAt yX6_blockAt, Cond.code yX6_blockAt cX6_blockAt 2 (some .int), Cond.methodLink RX6 131 yX6_noBlock, Cond.instanceMethod yX6_noBlock, Cond.selects RX6 yX6_noBlock yX6_noBlock]
def wsL_law0_r14 : List Cond := [Cond.code yX6_noBlock cX6_noBlock 2 (some .boolean), Cond.methodLink RX6 61 yX6_isBlock, Cond.instanceMethod yX6_isBlock, Cond.selects RX6 yX6_isBlock yX6_isBlock, Cond.code yX6_isBlock cX6_isBlock 2 (some .boolean), Cond.methodLink RX6 103 yX6_valueAt, Cond.instanceMethod yX6_valueAt, Cond.selects RX6 yX6_valueAt yX6_valueAt, Cond.code yX6_valueAt cX6_valueAt 4 (some .int), Cond.methodLink RL 79 yX5_degree, Cond.instanceMethod yX5_degree, Cond.selects RX5 yX5_degree yX5_degree, Cond.code yX5_degree cX5_degree 2 (some .int), Cond.methodLink RX5 95 yX5_drawn, Cond.instanceMethod yX5_drawn, Cond.selects RX5 yX5_drawn yX5_drawn, Cond.code yX5_drawn cX5_drawn 2 (some (.object "FountainCode$Drop")), Cond.methodLink RX5 184 yX0_draw, Cond.instanceMethod yX0_draw, Cond.selects RX0 yX0_draw yX0_draw, Cond.code yX0_draw cX0_draw 5 none, Cond.fieldLink RX0 15 "FountainCode$Drop" "generator" "J", Cond.methodLink RX0 32 Lib.Math.min.name, Cond.static Lib.Math.min.name]
def wsL_law0_r15 : List Cond := [Cond.initialized "java/lang/Math", Cond.code Lib.Math.min.name Lib.Math.min.code 2 (some .int), Cond.fieldLink RX0 38 "FountainCode$Drop" "size" "I", Cond.fieldLink RX0 46 "FountainCode$Drop" "blockSet" "J", Cond.methodLink RX0 19 yX4_sum, Cond.methodLink RX0 25 yX0_numberBelow, Cond.instanceMethod yX0_numberBelow, Cond.selects RX0 yX0_numberBelow yX0_numberBelow, Cond.code yX0_numberBelow cX0_numberBelow 2 (some .int), Cond.constantLong RX0 57 (6364136223846793005), Cond.constantLong RX0 59 (1442695040888963407), Cond.methodLink RX0 29 yX4_degreeFor, Cond.instanceMethod yX4_degreeFor, Cond.selects RX4 yX4_degreeFor yX4_degreeFor, Cond.code yX4_degreeFor cX4_degreeFor 4 (some .int), Cond.methodLink RX0 42 yX0_lineUp, Cond.instanceMethod yX0_lineUp, Cond.selects RX0 yX0_lineUp yX0_lineUp, Cond.code yX0_lineUp cX0_lineUp 3 none, Cond.methodLink RX0 49 yX0_swap, Cond.instanceMethod yX0_swap, Cond.selects RX0 yX0_swap yX0_swap, Cond.code yX0_swap cX0_swap 4 none, Cond.methodLink RX5 99 yX0_size]
def wsL_law0_r16 : List Cond := [Cond.instanceMethod yX0_size, Cond.selects RX0 yX0_size yX0_size, Cond.code yX0_size cX0_size 1 (some .int), Cond.methodLink RL 82 yX6_degree, Cond.instanceMethod yX6_degree, Cond.selects RX6 yX6_degree yX6_degree, Cond.code yX6_degree cX6_degree 2 (some .int), Cond.fieldLink RX6 96 "FountainCodeModel" "drawnMany" "I", Cond.methodLink RX6 99 yX6_drawDrop, Cond.instanceMethod yX6_drawDrop, Cond.selects RX6 yX6_drawDrop yX6_drawDrop, Cond.code yX6_drawDrop cX6_drawDrop 9 none, Cond.fieldLink RX6 85 "FountainCodeModel" "generator" "J", Cond.methodLink RX6 92 yX6_draw, Cond.instanceMethod yX6_draw, Cond.selects RX6 yX6_draw yX6_draw, Cond.code yX6_draw cX6_draw 2 (some .int), Cond.constantLong RX6 88 (6364136223846793005), Cond.constantLong RX6 90 (1442695040888963407), Cond.methodLink RL 83 yL_blockOf, Cond.static yL_blockOf, Cond.codeWith yL_blockOf cL_blockOf 5 (some .int) [(0, 10, 13, 23)], Cond.methodLink RL 29 yX5_blockOf, Cond.instanceMethod yX5_blockOf]
def wsL_law0_r17 : List Cond := [Cond.selects RX5 yX5_blockOf yX5_blockOf, Cond.code yX5_blockOf cX5_blockOf 4 (some .int), Cond.methodLink RX5 104 yX0_blockInPlace, Cond.instanceMethod yX0_blockInPlace, Cond.selects RX0 yX0_blockInPlace yX0_blockInPlace, Cond.code yX0_blockInPlace cX0_blockInPlace 2 (some .int), Cond.methodLink RL 85 yX6_blockOf, Cond.instanceMethod yX6_blockOf, Cond.selects RX6 yX6_blockOf yX6_blockOf, Cond.code yX6_blockOf cX6_blockOf 3 (some .int), Cond.methodLink RL 86 yX5_valueOf, Cond.instanceMethod yX5_valueOf, Cond.selects RX5 yX5_valueOf yX5_valueOf, Cond.code yX5_valueOf cX5_valueOf 2 (some .int), Cond.methodLink RX5 107 yX0_blockSet, Cond.instanceMethod yX0_blockSet, Cond.selects RX0 yX0_blockSet yX0_blockSet, Cond.code yX0_blockSet cX0_blockSet 1 (some .long), Cond.methodLink RX5 111 yX3_valueOfSet, Cond.instanceMethod yX3_valueOfSet, Cond.selects RX3 yX3_valueOfSet yX3_valueOfSet, Cond.code yX3_valueOfSet cX3_valueOfSet 5 (some .int), Cond.methodLink RX3 39 yX3_blockCount, Cond.methodLink RX3 47 yX3_valueOfBlock]
def wsL_law0_r18 : List Cond := [Cond.methodLink RL 89 yX6_valueOf, Cond.instanceMethod yX6_valueOf, Cond.selects RX6 yX6_valueOf yX6_valueOf, Cond.code yX6_valueOf cX6_valueOf 2 (some .int), Cond.methodLink RX6 134 yX6_numberOf, Cond.instanceMethod yX6_numberOf, Cond.selects RX6 yX6_numberOf yX6_numberOf, Cond.code yX6_numberOf cX6_numberOf 4 (some .int), Cond.methodLink RL 90 yL_receive, Cond.static yL_receive, Cond.codeWith yL_receive cL_receive 5 (some .int) [(0, 10, 13, 18)], Cond.methodLink RL 32 yX5_receive, Cond.instanceMethod yX5_receive, Cond.selects RX5 yX5_receive yX5_receive, Cond.code yX5_receive cX5_receive 5 (some .int), Cond.methodLink RX5 115 yX5_canTake, Cond.instanceMethod yX5_canTake, Cond.selects RX5 yX5_canTake yX5_canTake, Cond.code yX5_canTake cX5_canTake 5 (some .boolean), Cond.methodLink RX5 127 yX2_equationCount, Cond.instanceMethod yX2_equationCount, Cond.selects RX2 yX2_equationCount yX2_equationCount, Cond.code yX2_equationCount cX2_equationCount 1 (some .int), Cond.methodLink RX5 188 yX3_parityCount]
def wsL_law0_r19 : List Cond := [Cond.instanceMethod yX3_parityCount, Cond.selects RX3 yX3_parityCount yX3_parityCount, Cond.code yX3_parityCount cX3_parityCount 1 (some .int), Cond.methodLink RX5 191 yX1_contradicts, Cond.instanceMethod yX1_contradicts, Cond.selects RX1 yX1_contradicts yX1_contradicts, Cond.code yX1_contradicts cX1_contradicts 4 (some .boolean), Cond.methodLink RX5 121 yX5_take, Cond.instanceMethod yX5_take, Cond.selects RX5 yX5_take yX5_take, Cond.code yX5_take cX5_take 4 (some .int), Cond.methodLink RL 92 yX6_receive, Cond.instanceMethod yX6_receive, Cond.selects RX6 yX6_receive yX6_receive, Cond.code yX6_receive cX6_receive 3 (some .int), Cond.methodLink RX6 141 yX6_isRefused, Cond.instanceMethod yX6_isRefused, Cond.selects RX6 yX6_isRefused yX6_isRefused, Cond.code yX6_isRefused cX6_isRefused 3 (some .boolean), Cond.methodLink RX6 137 yX6_maskOf, Cond.instanceMethod yX6_maskOf, Cond.selects RX6 yX6_maskOf yX6_maskOf, Cond.code yX6_maskOf cX6_maskOf 5 (some .long), Cond.methodLink RX6 144 yX6_take]
def wsL_law0_r20 : List Cond := [Cond.instanceMethod yX6_take, Cond.selects RX6 yX6_take yX6_take, Cond.code yX6_take cX6_take 3 (some .int), Cond.methodLink RL 93 yL_receiveAll, Cond.static yL_receiveAll, Cond.codeWith yL_receiveAll cL_receiveAll 5 (some .int) [(0, 10, 13, 13)], Cond.methodLink RL 35 yX5_receiveAll, Cond.instanceMethod yX5_receiveAll, Cond.selects RX5 yX5_receiveAll yX5_receiveAll, Cond.code yX5_receiveAll cX5_receiveAll 7 (some .int), Cond.methodLink RL 95 yX6_receiveAll, Cond.instanceMethod yX6_receiveAll, Cond.selects RX6 yX6_receiveAll yX6_receiveAll, Cond.code yX6_receiveAll cX6_receiveAll 5 (some .int), Cond.methodLink RL 96 yX5_equations, Cond.instanceMethod yX5_equations, Cond.selects RX5 yX5_equations yX5_equations, Cond.code yX5_equations cX5_equations 1 (some .int), Cond.methodLink RL 99 yX6_equations, Cond.instanceMethod yX6_equations, Cond.selects RX6 yX6_equations yX6_equations, Cond.code yX6_equations cX6_equations 1 (some .int), Cond.methodLink RL 100 yX5_rank, Cond.instanceMethod yX5_rank]
def wsL_law0_r21 : List Cond := [Cond.selects RX5 yX5_rank yX5_rank, Cond.code yX5_rank cX5_rank 1 (some .int), Cond.methodLink RX5 130 yX1_rowCount, Cond.instanceMethod yX1_rowCount, Cond.selects RX1 yX1_rowCount yX1_rowCount, Cond.code yX1_rowCount cX1_rowCount 1 (some .int), Cond.methodLink RL 103 yX6_rank, Cond.instanceMethod yX6_rank, Cond.selects RX6 yX6_rank yX6_rank, Cond.code yX6_rank cX6_rank 1 (some .int), Cond.methodLink RX6 148 yX6_rankOf, Cond.instanceMethod yX6_rankOf, Cond.selects RX6 yX6_rankOf yX6_rankOf, Cond.code yX6_rankOf cX6_rankOf 3 (some .int), Cond.methodLink RL 104 yX5_peeled, Cond.instanceMethod yX5_peeled, Cond.selects RX5 yX5_peeled yX5_peeled, Cond.code yX5_peeled cX5_peeled 1 (some .int), Cond.methodLink RX5 133 yX2_peeledCount, Cond.instanceMethod yX2_peeledCount, Cond.selects RX2 yX2_peeledCount yX2_peeledCount, Cond.code yX2_peeledCount cX2_peeledCount 1 (some .int), Cond.methodLink RL 107 yX6_peeled, Cond.instanceMethod yX6_peeled]
def wsL_law0_r22 : List Cond := [Cond.selects RX6 yX6_peeled yX6_peeled, Cond.code yX6_peeled cX6_peeled 1 (some .int), Cond.methodLink RL 108 yL_peeledAt, Cond.static yL_peeledAt, Cond.codeWith yL_peeledAt cL_peeledAt 4 (some .int) [(0, 9, 12, 23)], Cond.methodLink RL 38 yX5_peeledAt, Cond.instanceMethod yX5_peeledAt, Cond.selects RX5 yX5_peeledAt yX5_peeledAt, Cond.code yX5_peeledAt cX5_peeledAt 2 (some .int), Cond.methodLink RX5 136 yX2_peeledInPlace, Cond.instanceMethod yX2_peeledInPlace, Cond.selects RX2 yX2_peeledInPlace yX2_peeledInPlace, Cond.code yX2_peeledInPlace cX2_peeledInPlace 2 (some .int), Cond.methodLink RL 110 yX6_peeledAt, Cond.instanceMethod yX6_peeledAt, Cond.selects RX6 yX6_peeledAt yX6_peeledAt, Cond.code yX6_peeledAt cX6_peeledAt 2 (some .int), Cond.methodLink RL 111 yL_peeledBy, Cond.static yL_peeledBy, Cond.codeWith yL_peeledBy cL_peeledBy 4 (some .int) [(0, 9, 12, 23)], Cond.methodLink RL 41 yX5_peeledBy, Cond.instanceMethod yX5_peeledBy, Cond.selects RX5 yX5_peeledBy yX5_peeledBy, Cond.code yX5_peeledBy cX5_peeledBy 2 (some .int)]
def wsL_law0_r23 : List Cond := [Cond.methodLink RX5 139 yX2_equationThatPeeled, Cond.instanceMethod yX2_equationThatPeeled, Cond.selects RX2 yX2_equationThatPeeled yX2_equationThatPeeled, Cond.code yX2_equationThatPeeled cX2_equationThatPeeled 2 (some .int), Cond.methodLink RL 113 yX6_peeledBy, Cond.instanceMethod yX6_peeledBy, Cond.selects RX6 yX6_peeledBy yX6_peeledBy, Cond.code yX6_peeledBy cX6_peeledBy 2 (some .int), Cond.methodLink RL 114 yX5_determined, Cond.instanceMethod yX5_determined, Cond.selects RX5 yX5_determined yX5_determined, Cond.code yX5_determined cX5_determined 1 (some .int), Cond.methodLink RX5 142 yX1_countLeaving, Cond.instanceMethod yX1_countLeaving, Cond.selects RX1 yX1_countLeaving yX1_countLeaving, Cond.code yX1_countLeaving cX1_countLeaving 6 (some .int), Cond.methodLink RX1 44 yX1_remainderOfBlock, Cond.instanceMethod yX1_remainderOfBlock, Cond.selects RX1 yX1_remainderOfBlock yX1_remainderOfBlock, Cond.code yX1_remainderOfBlock cX1_remainderOfBlock 4 (some .long), Cond.methodLink RL 117 yX6_determined, Cond.instanceMethod yX6_determined, Cond.selects RX6 yX6_determined yX6_determined, Cond.code yX6_determined cX6_determined 1 (some .int)]
def wsL_law0_r24 : List Cond := [Cond.methodLink RX6 151 yX6_determinedMany, Cond.instanceMethod yX6_determinedMany, Cond.selects RX6 yX6_determinedMany yX6_determinedMany, Cond.code yX6_determinedMany cX6_determinedMany 3 (some .int), Cond.methodLink RL 118 yL_isDetermined, Cond.static yL_isDetermined, Cond.codeWith yL_isDetermined cL_isDetermined 4 (some .int) [(0, 16, 19, 23)], Cond.methodLink RL 44 yX5_isDetermined, Cond.instanceMethod yX5_isDetermined, Cond.selects RX5 yX5_isDetermined yX5_isDetermined, Cond.code yX5_isDetermined cX5_isDetermined 2 (some .boolean), Cond.methodLink RX5 145 yX1_fixes, Cond.instanceMethod yX1_fixes, Cond.selects RX1 yX1_fixes yX1_fixes, Cond.code yX1_fixes cX1_fixes 2 (some .boolean), Cond.methodLink RL 120 yX6_isDetermined, Cond.instanceMethod yX6_isDetermined, Cond.selects RX6 yX6_isDetermined yX6_isDetermined, Cond.code yX6_isDetermined cX6_isDetermined 2 (some .boolean), Cond.methodLink RX6 154 yX6_isKnown, Cond.instanceMethod yX6_isKnown, Cond.selects RX6 yX6_isKnown yX6_isKnown, Cond.code yX6_isKnown cX6_isKnown 2 (some .boolean), Cond.methodLink RL 121 yL_recovered]
def wsL_law0_r25 : List Cond := [Cond.static yL_recovered, Cond.codeWith yL_recovered cL_recovered 4 (some .int) [(0, 9, 12, 23), (0, 9, 15, 18)], Cond.methodLink RL 48 yX5_recovered, Cond.instanceMethod yX5_recovered, Cond.selects RX5 yX5_recovered yX5_recovered, Cond.code yX5_recovered cX5_recovered 2 (some .int), Cond.methodLink RX5 154 yX1_knownValue, Cond.methodLink RL 123 yX6_recovered, Cond.instanceMethod yX6_recovered, Cond.selects RX6 yX6_recovered yX6_recovered, Cond.code yX6_recovered cX6_recovered 2 (some .int), Cond.methodLink RL 124 yX5_wouldHelp, Cond.instanceMethod yX5_wouldHelp, Cond.selects RX5 yX5_wouldHelp yX5_wouldHelp, Cond.code yX5_wouldHelp cX5_wouldHelp 2 (some .boolean), Cond.methodLink RX5 157 yX1_remainder, Cond.methodLink RL 127 yX6_wouldHelp, Cond.instanceMethod yX6_wouldHelp, Cond.selects RX6 yX6_wouldHelp yX6_wouldHelp, Cond.code yX6_wouldHelp cX6_wouldHelp 2 (some .boolean), Cond.methodLink RX6 157 yX6_helps, Cond.instanceMethod yX6_helps, Cond.selects RX6 yX6_helps yX6_helps, Cond.code yX6_helps cX6_helps 2 (some .boolean)]
def wsL_law0_r26 : List Cond := [Cond.methodLink RL 128 yX5_wouldDetermine, Cond.instanceMethod yX5_wouldDetermine, Cond.selects RX5 yX5_wouldDetermine yX5_wouldDetermine, Cond.code yX5_wouldDetermine cX5_wouldDetermine 4 (some .int), Cond.methodLink RL 131 yX6_wouldDetermine, Cond.instanceMethod yX6_wouldDetermine, Cond.selects RX6 yX6_wouldDetermine yX6_wouldDetermine, Cond.code yX6_wouldDetermine cX6_wouldDetermine 5 (some .int), Cond.methodLink RL 132 yX5_nextHelpful, Cond.instanceMethod yX5_nextHelpful, Cond.selects RX5 yX5_nextHelpful yX5_nextHelpful, Cond.code yX5_nextHelpful cX5_nextHelpful 3 (some .int), Cond.methodLink RX5 161 yX5_missing, Cond.instanceMethod yX5_missing, Cond.selects RX5 yX5_missing yX5_missing, Cond.code yX5_missing cX5_missing 1 (some .int), Cond.methodLink RX5 164 yX5_wouldHelp, Cond.methodLink RL 135 yX6_nextHelpful, Cond.instanceMethod yX6_nextHelpful, Cond.selects RX6 yX6_nextHelpful yX6_nextHelpful, Cond.code yX6_nextHelpful cX6_nextHelpful 3 (some .int), Cond.methodLink RL 136 yX5_missing, Cond.methodLink RL 139 yX6_missing, Cond.instanceMethod yX6_missing]
def wsL_law0_r27 : List Cond := [Cond.selects RX6 yX6_missing yX6_missing, Cond.code yX6_missing cX6_missing 1 (some .int)]
def wsL_law0 : List Cond := (wsL_law0_r1 ++ (wsL_law0_r2 ++ (wsL_law0_r3 ++ (wsL_law0_r4 ++ (wsL_law0_r5 ++ (wsL_law0_r6 ++ (wsL_law0_r7 ++ (wsL_law0_r8 ++ (wsL_law0_r9 ++ (wsL_law0_r10 ++ (wsL_law0_r11 ++ (wsL_law0_r12 ++ (wsL_law0_r13 ++ (wsL_law0_r14 ++ (wsL_law0_r15 ++ (wsL_law0_r16 ++ (wsL_law0_r17 ++ (wsL_law0_r18 ++ (wsL_law0_r19 ++ (wsL_law0_r20 ++ (wsL_law0_r21 ++ (wsL_law0_r22 ++ (wsL_law0_r23 ++ (wsL_law0_r24 ++ (wsL_law0_r25 ++ (wsL_law0_r26 ++ wsL_law0_r27)))))))))))))))))))))))))) ++ wsX50 ++ wsX60 ++ wsX40 ++ wsX30 ++ wsX20 ++ wsX10 ++ wsX00 ++ ([] : List Cond)
def wsL_law : List Cond := wsL_law0 ++ (vx_atS RX5 52 "java/lang/IllegalArgumentException" ["java/lang/RuntimeException", "java/lang/Exception"]).filter goodWord ++ (vx_atS RX5 69 "java/lang/IllegalStateException" ["java/lang/RuntimeException", "java/lang/Exception"]).filter goodWord ++ (vx_atS RX5 81 "java/lang/IndexOutOfBoundsException" ["java/lang/RuntimeException", "java/lang/Exception"]).filter goodWord
set_option maxRecDepth 20000 in
theorem wsL_law_in0 : ∀ w ∈ wsL_law0, w ∈ lw_tbl := fun w h => (goodIn_p wsL_law0 [55, 58, 63, 83, 99, 125, 141, 159, 163, 166, 170, 175, 178, 182, 186, 191, 195, 199, 203, 206, 209, 212, 219, 223, 227, 233, 626, 631, 388, 706, 709, 713, 716, 720, 724, 728, 732, 702, 464, 469, 275, 490, 737, 498, 502, 323, 317, 523, 741, 255, 259, 745, 749, 530, 534, 753, 757, 761, 765, 263, 267, 271, 288, 279, 285, 292, 296, 301, 769, 773, 777, 542, 547, 783, 305, 309, 313, 787, 791, 554, 558, 332, 562, 566, 571, 795, 799, 803, 807, 578, 811, 328, 815, 336, 340, 819, 823, 344, 348, 827, 586, 590, 831, 597, 601, 835, 352, 356, 360, 839, 843, 608, 612, 847, 851, 619, 855, 365, 859, 863, 370, 867, 374, 378, 871, 875] (by decide +kernel) (by decide +kernel) w h).1
theorem wsL_law_x0 : ∀ w ∈ (vx_atS RX5 52 "java/lang/IllegalArgumentException" ["java/lang/RuntimeException", "java/lang/Exception"]).filter goodWord, w ∈ lw_tbl := by decide +kernel
theorem wsL_law_x1 : ∀ w ∈ (vx_atS RX5 69 "java/lang/IllegalStateException" ["java/lang/RuntimeException", "java/lang/Exception"]).filter goodWord, w ∈ lw_tbl := by decide +kernel
theorem wsL_law_x2 : ∀ w ∈ (vx_atS RX5 81 "java/lang/IndexOutOfBoundsException" ["java/lang/RuntimeException", "java/lang/Exception"]).filter goodWord, w ∈ lw_tbl := by decide +kernel
theorem wsL_law_in : ∀ w ∈ wsL_law, w ∈ lw_tbl := fun w h => (List.mem_append.mp h).elim (fun h => (List.mem_append.mp h).elim (fun h => (List.mem_append.mp h).elim (fun h => wsL_law_in0 w h) (fun h => wsL_law_x0 w h)) (fun h => wsL_law_x1 w h)) (fun h => wsL_law_x2 w h)
theorem inlX0 : ∀ w ∈ wsX00, w ∈ wsL_law := fun _ h => List.mem_append_left _ (List.mem_append_left _ (List.mem_append_left _ (List.mem_append_left _ (List.mem_append_right _ h))))
theorem inX0 : ∀ w ∈ wsX00, w ∈ lw_tbl := fun w h => wsL_law_in w (inlX0 w h)
theorem inlX1 : ∀ w ∈ wsX10, w ∈ wsL_law := fun _ h => List.mem_append_left _ (List.mem_append_left _ (List.mem_append_left _ (List.mem_append_left _ (List.mem_append_left _ (List.mem_append_right _ h)))))
theorem inX1 : ∀ w ∈ wsX10, w ∈ lw_tbl := fun w h => wsL_law_in w (inlX1 w h)
theorem inlX2 : ∀ w ∈ wsX20, w ∈ wsL_law := fun _ h => List.mem_append_left _ (List.mem_append_left _ (List.mem_append_left _ (List.mem_append_left _ (List.mem_append_left _ (List.mem_append_left _ (List.mem_append_right _ h))))))
theorem inX2 : ∀ w ∈ wsX20, w ∈ lw_tbl := fun w h => wsL_law_in w (inlX2 w h)
theorem inlX3 : ∀ w ∈ wsX30, w ∈ wsL_law := fun _ h => List.mem_append_left _ (List.mem_append_left _ (List.mem_append_left _ (List.mem_append_left _ (List.mem_append_left _ (List.mem_append_left _ (List.mem_append_left _ (List.mem_append_right _ h)))))))
theorem inX3 : ∀ w ∈ wsX30, w ∈ lw_tbl := fun w h => wsL_law_in w (inlX3 w h)
theorem inlX4 : ∀ w ∈ wsX40, w ∈ wsL_law := fun _ h => List.mem_append_left _ (List.mem_append_left _ (List.mem_append_left _ (List.mem_append_left _ (List.mem_append_left _ (List.mem_append_left _ (List.mem_append_left _ (List.mem_append_left _ (List.mem_append_right _ h))))))))
theorem inX4 : ∀ w ∈ wsX40, w ∈ lw_tbl := fun w h => wsL_law_in w (inlX4 w h)
theorem inlX5 : ∀ w ∈ wsX50, w ∈ wsL_law := fun _ h => List.mem_append_left _ (List.mem_append_left _ (List.mem_append_left _ (List.mem_append_left _ (List.mem_append_left _ (List.mem_append_left _ (List.mem_append_left _ (List.mem_append_left _ (List.mem_append_left _ (List.mem_append_left _ (List.mem_append_right _ h))))))))))
theorem inX5 : ∀ w ∈ wsX50, w ∈ lw_tbl := fun w h => wsL_law_in w (inlX5 w h)
theorem inlX6 : ∀ w ∈ wsX60, w ∈ wsL_law := fun _ h => List.mem_append_left _ (List.mem_append_left _ (List.mem_append_left _ (List.mem_append_left _ (List.mem_append_left _ (List.mem_append_left _ (List.mem_append_left _ (List.mem_append_left _ (List.mem_append_left _ (List.mem_append_right _ h)))))))))
theorem inX6 : ∀ w ∈ wsX60, w ∈ lw_tbl := fun w h => wsL_law_in w (inlX6 w h)
theorem inJx145de : ∀ w ∈ wsJx145de0, w ∈ lw_tbl := by decide +kernel
theorem inJx8e188 : ∀ w ∈ wsJx8e1880, w ∈ lw_tbl := by decide +kernel
theorem inJ13 : ∀ w ∈ wsJ130, w ∈ lw_tbl := by decide +kernel
theorem inJ9 : ∀ w ∈ wsJ90, w ∈ lw_tbl := by decide +kernel
theorem inJ0 : ∀ w ∈ wsJ00, w ∈ lw_tbl := by decide +kernel
theorem inJ7 : ∀ w ∈ wsJ70, w ∈ lw_tbl := by decide +kernel
theorem dX0_init_0 : decode cX0_init 0 = .ok (.aload_n 0, 1) := by decide +kernel
theorem dX0_init_1 : decode cX0_init 1 = .ok (.invokespecial 3, 3) := by decide +kernel
theorem dX0_init_4 : decode cX0_init 4 = .ok (.aload_n 0, 1) := by decide +kernel
theorem dX0_init_5 : decode cX0_init 5 = .ok (.bipush 38, 2) := by decide +kernel
theorem dX0_init_7 : decode cX0_init 7 = .ok (.newarray .int, 2) := by decide +kernel
theorem dX0_init_9 : decode cX0_init 9 = .ok (.putfield 9, 3) := by decide +kernel
theorem dX0_init_12 : decode cX0_init 12 = .ok (.return_, 1) := by decide +kernel
set_option maxRecDepth 20000 in
theorem ggX0_draw_X4_sum : GoodIn wsX0_draw wsX4_sum := goodIn_r _ [13, 14, 41] (by decide +kernel) (by decide +kernel)
set_option maxRecDepth 20000 in
theorem gX0_draw_X4_sum : GoodIn wsX0_draw (wsV RX0 19 RX4 yX4_sum wsX4_sum) := goodIn_app (goodIn_of _ (by decide +kernel)) ggX0_draw_X4_sum
set_option maxRecDepth 20000 in
theorem ggX0_draw_X0_numberBelow : GoodIn wsX0_draw wsX0_numberBelow := goodIn_r _ [19, 1, 20, 21, 37, 38, 39, 40] (by decide +kernel) (by decide +kernel)
set_option maxRecDepth 20000 in
theorem gX0_draw_X0_numberBelow : GoodIn wsX0_draw (wsV RX0 25 RX0 yX0_numberBelow wsX0_numberBelow) := goodIn_app (goodIn_of _ (by decide +kernel)) ggX0_draw_X0_numberBelow
set_option maxRecDepth 20000 in
theorem ggX0_draw_X4_degreeFor : GoodIn wsX0_draw wsX4_degreeFor := goodIn_r _ [25, 14, 41] (by decide +kernel) (by decide +kernel)
set_option maxRecDepth 20000 in
theorem gX0_draw_X4_degreeFor : GoodIn wsX0_draw (wsV RX0 29 RX4 yX4_degreeFor wsX4_degreeFor) := goodIn_app (goodIn_of _ (by decide +kernel)) ggX0_draw_X4_degreeFor
set_option maxRecDepth 20000 in
theorem ggX0_draw_X0_lineUp : GoodIn wsX0_draw wsX0_lineUp := goodIn_r _ [29, 8, 37, 38, 39, 40] (by decide +kernel) (by decide +kernel)
set_option maxRecDepth 20000 in
theorem gX0_draw_X0_lineUp : GoodIn wsX0_draw (wsV RX0 42 RX0 yX0_lineUp wsX0_lineUp) := goodIn_app (goodIn_of _ (by decide +kernel)) ggX0_draw_X0_lineUp
set_option maxRecDepth 20000 in
theorem ggX0_draw_X0_swap : GoodIn wsX0_draw wsX0_swap := goodIn_r _ [33, 8, 37, 38, 39, 40] (by decide +kernel) (by decide +kernel)
set_option maxRecDepth 20000 in
theorem gX0_draw_X0_swap : GoodIn wsX0_draw (wsV RX0 49 RX0 yX0_swap wsX0_swap) := goodIn_app (goodIn_of _ (by decide +kernel)) ggX0_draw_X0_swap
set_option maxRecDepth 20000 in
theorem ggX0_draw_X5_setOf : GoodIn wsX0_draw wsX5_setOf := goodIn_r _ [36] (by decide +kernel) (by decide +kernel)
set_option maxRecDepth 20000 in
theorem gX0_draw_X5_setOf_n53 : GoodIn wsX0_draw (wsX5_setOf) := ggX0_draw_X5_setOf
theorem dX0_draw_0 : decode cX0_draw 0 = .ok (.aload_n 0, 1) := by decide +kernel
theorem dX0_draw_1 : decode cX0_draw 1 = .ok (.iload_n 1, 1) := by decide +kernel
theorem dX0_draw_2 : decode cX0_draw 2 = .ok (.i2l, 1) := by decide +kernel
theorem dX0_draw_3 : decode cX0_draw 3 = .ok (.putfield 15, 3) := by decide +kernel
theorem dX0_draw_6 : decode cX0_draw 6 = .ok (.aload_n 0, 1) := by decide +kernel
theorem dX0_draw_7 : decode cX0_draw 7 = .ok (.aload_n 2, 1) := by decide +kernel
theorem dX0_draw_8 : decode cX0_draw 8 = .ok (.aload_n 0, 1) := by decide +kernel
theorem dX0_draw_9 : decode cX0_draw 9 = .ok (.aload_n 2, 1) := by decide +kernel
theorem dX0_draw_10 : decode cX0_draw 10 = .ok (.invokevirtual 19, 3) := by decide +kernel
theorem dX0_draw_13 : decode cX0_draw 13 = .ok (.invokevirtual 25, 3) := by decide +kernel
theorem dX0_draw_16 : decode cX0_draw 16 = .ok (.invokevirtual 29, 3) := by decide +kernel
theorem dX0_draw_19 : decode cX0_draw 19 = .ok (.iload_n 3, 1) := by decide +kernel
theorem dX0_draw_20 : decode cX0_draw 20 = .ok (.invokestatic 32, 3) := by decide +kernel
theorem dX0_draw_23 : decode cX0_draw 23 = .ok (.putfield 38, 3) := by decide +kernel
theorem dX0_draw_26 : decode cX0_draw 26 = .ok (.aload_n 0, 1) := by decide +kernel
theorem dX0_draw_27 : decode cX0_draw 27 = .ok (.iload_n 3, 1) := by decide +kernel
theorem dX0_draw_28 : decode cX0_draw 28 = .ok (.invokevirtual 42, 3) := by decide +kernel
theorem dX0_draw_31 : decode cX0_draw 31 = .ok (.aload_n 0, 1) := by decide +kernel
theorem dX0_draw_32 : decode cX0_draw 32 = .ok (.lconst 0, 1) := by decide +kernel
theorem dX0_draw_33 : decode cX0_draw 33 = .ok (.putfield 46, 3) := by decide +kernel
theorem dX0_draw_36 : decode cX0_draw 36 = .ok (.iconst 0, 1) := by decide +kernel
theorem dX0_draw_37 : decode cX0_draw 37 = .ok (.istore 4, 2) := by decide +kernel
theorem dX0_draw_39 : decode cX0_draw 39 = .ok (.iload 4, 2) := by decide +kernel
theorem dX0_draw_41 : decode cX0_draw 41 = .ok (.aload_n 0, 1) := by decide +kernel
theorem dX0_draw_42 : decode cX0_draw 42 = .ok (.getfield 38, 3) := by decide +kernel
theorem dX0_draw_45 : decode cX0_draw 45 = .ok (.if_icmp .ge 55, 3) := by decide +kernel
theorem dX0_draw_48 : decode cX0_draw 48 = .ok (.iload 4, 2) := by decide +kernel
theorem dX0_draw_50 : decode cX0_draw 50 = .ok (.aload_n 0, 1) := by decide +kernel
theorem dX0_draw_51 : decode cX0_draw 51 = .ok (.getfield 9, 3) := by decide +kernel
theorem dX0_draw_54 : decode cX0_draw 54 = .ok (.arraylength, 1) := by decide +kernel
theorem dX0_draw_55 : decode cX0_draw 55 = .ok (.if_icmp .ge 45, 3) := by decide +kernel
theorem dX0_draw_58 : decode cX0_draw 58 = .ok (.aload_n 0, 1) := by decide +kernel
theorem dX0_draw_59 : decode cX0_draw 59 = .ok (.iload 4, 2) := by decide +kernel
theorem dX0_draw_61 : decode cX0_draw 61 = .ok (.iload 4, 2) := by decide +kernel
theorem dX0_draw_63 : decode cX0_draw 63 = .ok (.aload_n 0, 1) := by decide +kernel
theorem dX0_draw_64 : decode cX0_draw 64 = .ok (.iload_n 3, 1) := by decide +kernel
theorem dX0_draw_65 : decode cX0_draw 65 = .ok (.iload 4, 2) := by decide +kernel
theorem dX0_draw_67 : decode cX0_draw 67 = .ok (.isub, 1) := by decide +kernel
theorem dX0_draw_68 : decode cX0_draw 68 = .ok (.invokevirtual 25, 3) := by decide +kernel
theorem dX0_draw_71 : decode cX0_draw 71 = .ok (.iadd, 1) := by decide +kernel
theorem dX0_draw_72 : decode cX0_draw 72 = .ok (.invokevirtual 49, 3) := by decide +kernel
theorem dX0_draw_75 : decode cX0_draw 75 = .ok (.aload_n 0, 1) := by decide +kernel
theorem dX0_draw_76 : decode cX0_draw 76 = .ok (.dup, 1) := by decide +kernel
theorem dX0_draw_77 : decode cX0_draw 77 = .ok (.getfield 46, 3) := by decide +kernel
theorem dX0_draw_80 : decode cX0_draw 80 = .ok (.aload_n 0, 1) := by decide +kernel
theorem dX0_draw_81 : decode cX0_draw 81 = .ok (.getfield 9, 3) := by decide +kernel
theorem dX0_draw_84 : decode cX0_draw 84 = .ok (.iload 4, 2) := by decide +kernel
theorem dX0_draw_86 : decode cX0_draw 86 = .ok (.iaload, 1) := by decide +kernel
theorem dX0_draw_87 : decode cX0_draw 87 = .ok (.invokestatic 53, 3) := by decide +kernel
theorem dX0_draw_90 : decode cX0_draw 90 = .ok (.lor, 1) := by decide +kernel
theorem dX0_draw_91 : decode cX0_draw 91 = .ok (.putfield 46, 3) := by decide +kernel
theorem dX0_draw_94 : decode cX0_draw 94 = .ok (.iinc 4 1, 3) := by decide +kernel
theorem dX0_draw_97 : decode cX0_draw 97 = .ok (.goto (-58), 3) := by decide +kernel
theorem dX0_draw_100 : decode cX0_draw 100 = .ok (.return_, 1) := by decide +kernel
theorem dX0_size_0 : decode cX0_size 0 = .ok (.aload_n 0, 1) := by decide +kernel
theorem dX0_size_1 : decode cX0_size 1 = .ok (.getfield 38, 3) := by decide +kernel
theorem dX0_size_4 : decode cX0_size 4 = .ok (.ireturn, 1) := by decide +kernel
theorem dX0_blockSet_0 : decode cX0_blockSet 0 = .ok (.aload_n 0, 1) := by decide +kernel
theorem dX0_blockSet_1 : decode cX0_blockSet 1 = .ok (.getfield 46, 3) := by decide +kernel
theorem dX0_blockSet_4 : decode cX0_blockSet 4 = .ok (.lreturn, 1) := by decide +kernel
theorem dX0_blockInPlace_0 : decode cX0_blockInPlace 0 = .ok (.iload_n 1, 1) := by decide +kernel
theorem dX0_blockInPlace_1 : decode cX0_blockInPlace 1 = .ok (.ifCond .lt 21, 3) := by decide +kernel
theorem dX0_blockInPlace_4 : decode cX0_blockInPlace 4 = .ok (.iload_n 1, 1) := by decide +kernel
theorem dX0_blockInPlace_5 : decode cX0_blockInPlace 5 = .ok (.aload_n 0, 1) := by decide +kernel
theorem dX0_blockInPlace_6 : decode cX0_blockInPlace 6 = .ok (.getfield 9, 3) := by decide +kernel
theorem dX0_blockInPlace_9 : decode cX0_blockInPlace 9 = .ok (.arraylength, 1) := by decide +kernel
theorem dX0_blockInPlace_10 : decode cX0_blockInPlace 10 = .ok (.if_icmp .ge 12, 3) := by decide +kernel
theorem dX0_blockInPlace_13 : decode cX0_blockInPlace 13 = .ok (.aload_n 0, 1) := by decide +kernel
theorem dX0_blockInPlace_14 : decode cX0_blockInPlace 14 = .ok (.getfield 9, 3) := by decide +kernel
theorem dX0_blockInPlace_17 : decode cX0_blockInPlace 17 = .ok (.iload_n 1, 1) := by decide +kernel
theorem dX0_blockInPlace_18 : decode cX0_blockInPlace 18 = .ok (.iaload, 1) := by decide +kernel
theorem dX0_blockInPlace_19 : decode cX0_blockInPlace 19 = .ok (.goto 4, 3) := by decide +kernel
theorem dX0_blockInPlace_22 : decode cX0_blockInPlace 22 = .ok (.iconst (-1), 1) := by decide +kernel
theorem dX0_blockInPlace_23 : decode cX0_blockInPlace 23 = .ok (.ireturn, 1) := by decide +kernel
theorem dX0_numberBelow_0 : decode cX0_numberBelow 0 = .ok (.aload_n 0, 1) := by decide +kernel
theorem dX0_numberBelow_1 : decode cX0_numberBelow 1 = .ok (.aload_n 0, 1) := by decide +kernel
theorem dX0_numberBelow_2 : decode cX0_numberBelow 2 = .ok (.getfield 15, 3) := by decide +kernel
theorem dX0_numberBelow_5 : decode cX0_numberBelow 5 = .ok (.ldc2_w 57, 3) := by decide +kernel
theorem dX0_numberBelow_8 : decode cX0_numberBelow 8 = .ok (.lmul, 1) := by decide +kernel
theorem dX0_numberBelow_9 : decode cX0_numberBelow 9 = .ok (.ldc2_w 59, 3) := by decide +kernel
theorem dX0_numberBelow_12 : decode cX0_numberBelow 12 = .ok (.ladd, 1) := by decide +kernel
theorem dX0_numberBelow_13 : decode cX0_numberBelow 13 = .ok (.putfield 15, 3) := by decide +kernel
theorem dX0_numberBelow_16 : decode cX0_numberBelow 16 = .ok (.iload_n 1, 1) := by decide +kernel
theorem dX0_numberBelow_17 : decode cX0_numberBelow 17 = .ok (.ifCond .gt 5, 3) := by decide +kernel
theorem dX0_numberBelow_20 : decode cX0_numberBelow 20 = .ok (.iconst 0, 1) := by decide +kernel
theorem dX0_numberBelow_21 : decode cX0_numberBelow 21 = .ok (.ireturn, 1) := by decide +kernel
theorem dX0_numberBelow_22 : decode cX0_numberBelow 22 = .ok (.aload_n 0, 1) := by decide +kernel
theorem dX0_numberBelow_23 : decode cX0_numberBelow 23 = .ok (.getfield 15, 3) := by decide +kernel
theorem dX0_numberBelow_26 : decode cX0_numberBelow 26 = .ok (.bipush 33, 2) := by decide +kernel
theorem dX0_numberBelow_28 : decode cX0_numberBelow 28 = .ok (.lushr, 1) := by decide +kernel
theorem dX0_numberBelow_29 : decode cX0_numberBelow 29 = .ok (.iload_n 1, 1) := by decide +kernel
theorem dX0_numberBelow_30 : decode cX0_numberBelow 30 = .ok (.i2l, 1) := by decide +kernel
theorem dX0_numberBelow_31 : decode cX0_numberBelow 31 = .ok (.lrem, 1) := by decide +kernel
theorem dX0_numberBelow_32 : decode cX0_numberBelow 32 = .ok (.l2i, 1) := by decide +kernel
theorem dX0_numberBelow_33 : decode cX0_numberBelow 33 = .ok (.ireturn, 1) := by decide +kernel
theorem dX0_lineUp_0 : decode cX0_lineUp 0 = .ok (.iconst 0, 1) := by decide +kernel
theorem dX0_lineUp_1 : decode cX0_lineUp 1 = .ok (.istore_n 2, 1) := by decide +kernel
theorem dX0_lineUp_2 : decode cX0_lineUp 2 = .ok (.iload_n 2, 1) := by decide +kernel
theorem dX0_lineUp_3 : decode cX0_lineUp 3 = .ok (.iload_n 1, 1) := by decide +kernel
theorem dX0_lineUp_4 : decode cX0_lineUp 4 = .ok (.if_icmp .ge 25, 3) := by decide +kernel
theorem dX0_lineUp_7 : decode cX0_lineUp 7 = .ok (.iload_n 2, 1) := by decide +kernel
theorem dX0_lineUp_8 : decode cX0_lineUp 8 = .ok (.aload_n 0, 1) := by decide +kernel
theorem dX0_lineUp_9 : decode cX0_lineUp 9 = .ok (.getfield 9, 3) := by decide +kernel
theorem dX0_lineUp_12 : decode cX0_lineUp 12 = .ok (.arraylength, 1) := by decide +kernel
theorem dX0_lineUp_13 : decode cX0_lineUp 13 = .ok (.if_icmp .ge 16, 3) := by decide +kernel
theorem dX0_lineUp_16 : decode cX0_lineUp 16 = .ok (.aload_n 0, 1) := by decide +kernel
theorem dX0_lineUp_17 : decode cX0_lineUp 17 = .ok (.getfield 9, 3) := by decide +kernel
theorem dX0_lineUp_20 : decode cX0_lineUp 20 = .ok (.iload_n 2, 1) := by decide +kernel
theorem dX0_lineUp_21 : decode cX0_lineUp 21 = .ok (.iload_n 2, 1) := by decide +kernel
theorem dX0_lineUp_22 : decode cX0_lineUp 22 = .ok (.iastore, 1) := by decide +kernel
theorem dX0_lineUp_23 : decode cX0_lineUp 23 = .ok (.iinc 2 1, 3) := by decide +kernel
theorem dX0_lineUp_26 : decode cX0_lineUp 26 = .ok (.goto (-24), 3) := by decide +kernel
theorem dX0_lineUp_29 : decode cX0_lineUp 29 = .ok (.return_, 1) := by decide +kernel
theorem dX0_swap_0 : decode cX0_swap 0 = .ok (.iload_n 1, 1) := by decide +kernel
theorem dX0_swap_1 : decode cX0_swap 1 = .ok (.ifCond .lt 25, 3) := by decide +kernel
theorem dX0_swap_4 : decode cX0_swap 4 = .ok (.iload_n 1, 1) := by decide +kernel
theorem dX0_swap_5 : decode cX0_swap 5 = .ok (.aload_n 0, 1) := by decide +kernel
theorem dX0_swap_6 : decode cX0_swap 6 = .ok (.getfield 9, 3) := by decide +kernel
theorem dX0_swap_9 : decode cX0_swap 9 = .ok (.arraylength, 1) := by decide +kernel
theorem dX0_swap_10 : decode cX0_swap 10 = .ok (.if_icmp .ge 16, 3) := by decide +kernel
theorem dX0_swap_13 : decode cX0_swap 13 = .ok (.iload_n 2, 1) := by decide +kernel
theorem dX0_swap_14 : decode cX0_swap 14 = .ok (.ifCond .lt 12, 3) := by decide +kernel
theorem dX0_swap_17 : decode cX0_swap 17 = .ok (.iload_n 2, 1) := by decide +kernel
theorem dX0_swap_18 : decode cX0_swap 18 = .ok (.aload_n 0, 1) := by decide +kernel
theorem dX0_swap_19 : decode cX0_swap 19 = .ok (.getfield 9, 3) := by decide +kernel
theorem dX0_swap_22 : decode cX0_swap 22 = .ok (.arraylength, 1) := by decide +kernel
theorem dX0_swap_23 : decode cX0_swap 23 = .ok (.if_icmp .lt 4, 3) := by decide +kernel
theorem dX0_swap_26 : decode cX0_swap 26 = .ok (.return_, 1) := by decide +kernel
theorem dX0_swap_27 : decode cX0_swap 27 = .ok (.aload_n 0, 1) := by decide +kernel
theorem dX0_swap_28 : decode cX0_swap 28 = .ok (.getfield 9, 3) := by decide +kernel
theorem dX0_swap_31 : decode cX0_swap 31 = .ok (.iload_n 1, 1) := by decide +kernel
theorem dX0_swap_32 : decode cX0_swap 32 = .ok (.iaload, 1) := by decide +kernel
theorem dX0_swap_33 : decode cX0_swap 33 = .ok (.istore_n 3, 1) := by decide +kernel
theorem dX0_swap_34 : decode cX0_swap 34 = .ok (.aload_n 0, 1) := by decide +kernel
theorem dX0_swap_35 : decode cX0_swap 35 = .ok (.getfield 9, 3) := by decide +kernel
theorem dX0_swap_38 : decode cX0_swap 38 = .ok (.iload_n 1, 1) := by decide +kernel
theorem dX0_swap_39 : decode cX0_swap 39 = .ok (.aload_n 0, 1) := by decide +kernel
theorem dX0_swap_40 : decode cX0_swap 40 = .ok (.getfield 9, 3) := by decide +kernel
theorem dX0_swap_43 : decode cX0_swap 43 = .ok (.iload_n 2, 1) := by decide +kernel
theorem dX0_swap_44 : decode cX0_swap 44 = .ok (.iaload, 1) := by decide +kernel
theorem dX0_swap_45 : decode cX0_swap 45 = .ok (.iastore, 1) := by decide +kernel
theorem dX0_swap_46 : decode cX0_swap 46 = .ok (.aload_n 0, 1) := by decide +kernel
theorem dX0_swap_47 : decode cX0_swap 47 = .ok (.getfield 9, 3) := by decide +kernel
theorem dX0_swap_50 : decode cX0_swap 50 = .ok (.iload_n 2, 1) := by decide +kernel
theorem dX0_swap_51 : decode cX0_swap 51 = .ok (.iload_n 3, 1) := by decide +kernel
theorem dX0_swap_52 : decode cX0_swap 52 = .ok (.iastore, 1) := by decide +kernel
theorem dX0_swap_53 : decode cX0_swap 53 = .ok (.return_, 1) := by decide +kernel
theorem dX1_init_0 : decode cX1_init 0 = .ok (.aload_n 0, 1) := by decide +kernel
theorem dX1_init_1 : decode cX1_init 1 = .ok (.invokespecial 3, 3) := by decide +kernel
theorem dX1_init_4 : decode cX1_init 4 = .ok (.aload_n 0, 1) := by decide +kernel
theorem dX1_init_5 : decode cX1_init 5 = .ok (.bipush 38, 2) := by decide +kernel
theorem dX1_init_7 : decode cX1_init 7 = .ok (.newarray .long, 2) := by decide +kernel
theorem dX1_init_9 : decode cX1_init 9 = .ok (.putfield 9, 3) := by decide +kernel
theorem dX1_init_12 : decode cX1_init 12 = .ok (.aload_n 0, 1) := by decide +kernel
theorem dX1_init_13 : decode cX1_init 13 = .ok (.bipush 38, 2) := by decide +kernel
theorem dX1_init_15 : decode cX1_init 15 = .ok (.newarray .int, 2) := by decide +kernel
theorem dX1_init_17 : decode cX1_init 17 = .ok (.putfield 15, 3) := by decide +kernel
theorem dX1_init_20 : decode cX1_init 20 = .ok (.return_, 1) := by decide +kernel
set_option maxRecDepth 20000 in
theorem ggX1_clear_J7_fill_d0a16 : GoodIn wsX1_clear wsJ7_fill_d0a16 := goodIn_r _ [7] (by decide +kernel) (by decide +kernel)
set_option maxRecDepth 20000 in
theorem gX1_clear_J7_fill_d0a16 : GoodIn wsX1_clear (va_wsS RX1 23 yJ7_fill_d0a16 wsJ7_fill_d0a16) := goodIn_app (goodIn_of _ (by decide +kernel)) ggX1_clear_J7_fill_d0a16
set_option maxRecDepth 20000 in
theorem ggX1_clear_J7_fill_53178 : GoodIn wsX1_clear wsJ7_fill_53178 := goodIn_r _ [10] (by decide +kernel) (by decide +kernel)
set_option maxRecDepth 20000 in
theorem gX1_clear_J7_fill_53178 : GoodIn wsX1_clear (va_wsS RX1 29 yJ7_fill_53178 wsJ7_fill_53178) := goodIn_app (goodIn_of _ (by decide +kernel)) ggX1_clear_J7_fill_53178
theorem dX1_clear_0 : decode cX1_clear 0 = .ok (.aload_n 0, 1) := by decide +kernel
theorem dX1_clear_1 : decode cX1_clear 1 = .ok (.iconst 0, 1) := by decide +kernel
theorem dX1_clear_2 : decode cX1_clear 2 = .ok (.putfield 19, 3) := by decide +kernel
theorem dX1_clear_5 : decode cX1_clear 5 = .ok (.aload_n 0, 1) := by decide +kernel
theorem dX1_clear_6 : decode cX1_clear 6 = .ok (.getfield 9, 3) := by decide +kernel
theorem dX1_clear_9 : decode cX1_clear 9 = .ok (.lconst 0, 1) := by decide +kernel
theorem dX1_clear_10 : decode cX1_clear 10 = .ok (.invokestatic 23, 3) := by decide +kernel
theorem dX1_clear_13 : decode cX1_clear 13 = .ok (.aload_n 0, 1) := by decide +kernel
theorem dX1_clear_14 : decode cX1_clear 14 = .ok (.getfield 15, 3) := by decide +kernel
theorem dX1_clear_17 : decode cX1_clear 17 = .ok (.iconst 0, 1) := by decide +kernel
theorem dX1_clear_18 : decode cX1_clear 18 = .ok (.invokestatic 29, 3) := by decide +kernel
theorem dX1_clear_21 : decode cX1_clear 21 = .ok (.return_, 1) := by decide +kernel
theorem dX1_rowCount_0 : decode cX1_rowCount 0 = .ok (.aload_n 0, 1) := by decide +kernel
theorem dX1_rowCount_1 : decode cX1_rowCount 1 = .ok (.getfield 19, 3) := by decide +kernel
theorem dX1_rowCount_4 : decode cX1_rowCount 4 = .ok (.ireturn, 1) := by decide +kernel
set_option maxRecDepth 20000 in
theorem ggX1_remainder_X5_holds : GoodIn wsX1_remainder wsX5_holds := goodIn_r _ [4, 5, 6, 3, 7] (by decide +kernel) (by decide +kernel)
set_option maxRecDepth 20000 in
theorem gX1_remainder_X5_holds_n32 : GoodIn wsX1_remainder (wsX5_holds) := ggX1_remainder_X5_holds
theorem dX1_remainder_0 : decode cX1_remainder 0 = .ok (.lload_n 1, 1) := by decide +kernel
theorem dX1_remainder_1 : decode cX1_remainder 1 = .ok (.lstore_n 3, 1) := by decide +kernel
theorem dX1_remainder_2 : decode cX1_remainder 2 = .ok (.iconst 0, 1) := by decide +kernel
theorem dX1_remainder_3 : decode cX1_remainder 3 = .ok (.istore 5, 2) := by decide +kernel
theorem dX1_remainder_5 : decode cX1_remainder 5 = .ok (.iload 5, 2) := by decide +kernel
theorem dX1_remainder_7 : decode cX1_remainder 7 = .ok (.bipush 38, 2) := by decide +kernel
theorem dX1_remainder_9 : decode cX1_remainder 9 = .ok (.if_icmp .ge 28, 3) := by decide +kernel
theorem dX1_remainder_12 : decode cX1_remainder 12 = .ok (.lload_n 1, 1) := by decide +kernel
theorem dX1_remainder_13 : decode cX1_remainder 13 = .ok (.iload 5, 2) := by decide +kernel
theorem dX1_remainder_15 : decode cX1_remainder 15 = .ok (.invokestatic 32, 3) := by decide +kernel
theorem dX1_remainder_18 : decode cX1_remainder 18 = .ok (.ifCond .eq 13, 3) := by decide +kernel
theorem dX1_remainder_21 : decode cX1_remainder 21 = .ok (.lload_n 3, 1) := by decide +kernel
theorem dX1_remainder_22 : decode cX1_remainder 22 = .ok (.aload_n 0, 1) := by decide +kernel
theorem dX1_remainder_23 : decode cX1_remainder 23 = .ok (.getfield 9, 3) := by decide +kernel
theorem dX1_remainder_26 : decode cX1_remainder 26 = .ok (.iload 5, 2) := by decide +kernel
theorem dX1_remainder_28 : decode cX1_remainder 28 = .ok (.laload, 1) := by decide +kernel
theorem dX1_remainder_29 : decode cX1_remainder 29 = .ok (.lxor, 1) := by decide +kernel
theorem dX1_remainder_30 : decode cX1_remainder 30 = .ok (.lstore_n 3, 1) := by decide +kernel
theorem dX1_remainder_31 : decode cX1_remainder 31 = .ok (.iinc 5 1, 3) := by decide +kernel
theorem dX1_remainder_34 : decode cX1_remainder 34 = .ok (.goto (-29), 3) := by decide +kernel
theorem dX1_remainder_37 : decode cX1_remainder 37 = .ok (.lload_n 3, 1) := by decide +kernel
theorem dX1_remainder_38 : decode cX1_remainder 38 = .ok (.lreturn, 1) := by decide +kernel
set_option maxRecDepth 20000 in
theorem ggX1_knownValue_X5_holds : GoodIn wsX1_knownValue wsX5_holds := goodIn_r _ [4, 5, 6, 3, 7] (by decide +kernel) (by decide +kernel)
set_option maxRecDepth 20000 in
theorem gX1_knownValue_X5_holds_n32 : GoodIn wsX1_knownValue (wsX5_holds) := ggX1_knownValue_X5_holds
theorem dX1_knownValue_0 : decode cX1_knownValue 0 = .ok (.iconst 0, 1) := by decide +kernel
theorem dX1_knownValue_1 : decode cX1_knownValue 1 = .ok (.istore_n 3, 1) := by decide +kernel
theorem dX1_knownValue_2 : decode cX1_knownValue 2 = .ok (.iconst 0, 1) := by decide +kernel
theorem dX1_knownValue_3 : decode cX1_knownValue 3 = .ok (.istore 4, 2) := by decide +kernel
theorem dX1_knownValue_5 : decode cX1_knownValue 5 = .ok (.iload 4, 2) := by decide +kernel
theorem dX1_knownValue_7 : decode cX1_knownValue 7 = .ok (.bipush 38, 2) := by decide +kernel
theorem dX1_knownValue_9 : decode cX1_knownValue 9 = .ok (.if_icmp .ge 28, 3) := by decide +kernel
theorem dX1_knownValue_12 : decode cX1_knownValue 12 = .ok (.lload_n 1, 1) := by decide +kernel
theorem dX1_knownValue_13 : decode cX1_knownValue 13 = .ok (.iload 4, 2) := by decide +kernel
theorem dX1_knownValue_15 : decode cX1_knownValue 15 = .ok (.invokestatic 32, 3) := by decide +kernel
theorem dX1_knownValue_18 : decode cX1_knownValue 18 = .ok (.ifCond .eq 13, 3) := by decide +kernel
theorem dX1_knownValue_21 : decode cX1_knownValue 21 = .ok (.iload_n 3, 1) := by decide +kernel
theorem dX1_knownValue_22 : decode cX1_knownValue 22 = .ok (.aload_n 0, 1) := by decide +kernel
theorem dX1_knownValue_23 : decode cX1_knownValue 23 = .ok (.getfield 15, 3) := by decide +kernel
theorem dX1_knownValue_26 : decode cX1_knownValue 26 = .ok (.iload 4, 2) := by decide +kernel
theorem dX1_knownValue_28 : decode cX1_knownValue 28 = .ok (.iaload, 1) := by decide +kernel
theorem dX1_knownValue_29 : decode cX1_knownValue 29 = .ok (.ixor, 1) := by decide +kernel
theorem dX1_knownValue_30 : decode cX1_knownValue 30 = .ok (.istore_n 3, 1) := by decide +kernel
theorem dX1_knownValue_31 : decode cX1_knownValue 31 = .ok (.iinc 4 1, 3) := by decide +kernel
theorem dX1_knownValue_34 : decode cX1_knownValue 34 = .ok (.goto (-29), 3) := by decide +kernel
theorem dX1_knownValue_37 : decode cX1_knownValue 37 = .ok (.iload_n 3, 1) := by decide +kernel
theorem dX1_knownValue_38 : decode cX1_knownValue 38 = .ok (.ireturn, 1) := by decide +kernel
set_option maxRecDepth 20000 in
theorem ggX1_contradicts_X1_remainder : GoodIn wsX1_contradicts wsX1_remainder := goodIn_r _ [5, 6, 7, 8, 9, 10, 11, 12, 18, 19, 20] (by decide +kernel) (by decide +kernel)
set_option maxRecDepth 20000 in
theorem gX1_contradicts_X1_remainder : GoodIn wsX1_contradicts (wsV RX1 36 RX1 yX1_remainder wsX1_remainder) := goodIn_app (goodIn_of _ (by decide +kernel)) ggX1_contradicts_X1_remainder
set_option maxRecDepth 20000 in
theorem ggX1_contradicts_X1_knownValue : GoodIn wsX1_contradicts wsX1_knownValue := goodIn_r _ [16, 17, 7, 8, 9, 10, 11, 12, 18, 19, 20] (by decide +kernel) (by decide +kernel)
set_option maxRecDepth 20000 in
theorem gX1_contradicts_X1_knownValue : GoodIn wsX1_contradicts (wsV RX1 40 RX1 yX1_knownValue wsX1_knownValue) := goodIn_app (goodIn_of _ (by decide +kernel)) ggX1_contradicts_X1_knownValue
theorem dX1_contradicts_0 : decode cX1_contradicts 0 = .ok (.aload_n 0, 1) := by decide +kernel
theorem dX1_contradicts_1 : decode cX1_contradicts 1 = .ok (.lload_n 1, 1) := by decide +kernel
theorem dX1_contradicts_2 : decode cX1_contradicts 2 = .ok (.invokevirtual 36, 3) := by decide +kernel
theorem dX1_contradicts_5 : decode cX1_contradicts 5 = .ok (.lconst 0, 1) := by decide +kernel
theorem dX1_contradicts_6 : decode cX1_contradicts 6 = .ok (.lcmp, 1) := by decide +kernel
theorem dX1_contradicts_7 : decode cX1_contradicts 7 = .ok (.ifCond .ne 16, 3) := by decide +kernel
theorem dX1_contradicts_10 : decode cX1_contradicts 10 = .ok (.aload_n 0, 1) := by decide +kernel
theorem dX1_contradicts_11 : decode cX1_contradicts 11 = .ok (.lload_n 1, 1) := by decide +kernel
theorem dX1_contradicts_12 : decode cX1_contradicts 12 = .ok (.invokevirtual 40, 3) := by decide +kernel
theorem dX1_contradicts_15 : decode cX1_contradicts 15 = .ok (.iload_n 3, 1) := by decide +kernel
theorem dX1_contradicts_16 : decode cX1_contradicts 16 = .ok (.if_icmp .eq 7, 3) := by decide +kernel
theorem dX1_contradicts_19 : decode cX1_contradicts 19 = .ok (.iconst 1, 1) := by decide +kernel
theorem dX1_contradicts_20 : decode cX1_contradicts 20 = .ok (.goto 4, 3) := by decide +kernel
theorem dX1_contradicts_23 : decode cX1_contradicts 23 = .ok (.iconst 0, 1) := by decide +kernel
theorem dX1_contradicts_24 : decode cX1_contradicts 24 = .ok (.ireturn, 1) := by decide +kernel
set_option maxRecDepth 20000 in
theorem ggX1_fixes_X1_remainderOfBlock : GoodIn wsX1_fixes wsX1_remainderOfBlock := goodIn_r _ [5, 6, 7, 8, 9, 10, 11, 12] (by decide +kernel) (by decide +kernel)
set_option maxRecDepth 20000 in
theorem gX1_fixes_X1_remainderOfBlock : GoodIn wsX1_fixes (wsV RX1 44 RX1 yX1_remainderOfBlock wsX1_remainderOfBlock) := goodIn_app (goodIn_of _ (by decide +kernel)) ggX1_fixes_X1_remainderOfBlock
theorem dX1_fixes_0 : decode cX1_fixes 0 = .ok (.aload_n 0, 1) := by decide +kernel
theorem dX1_fixes_1 : decode cX1_fixes 1 = .ok (.iload_n 1, 1) := by decide +kernel
theorem dX1_fixes_2 : decode cX1_fixes 2 = .ok (.invokevirtual 44, 3) := by decide +kernel
theorem dX1_fixes_5 : decode cX1_fixes 5 = .ok (.lconst 0, 1) := by decide +kernel
theorem dX1_fixes_6 : decode cX1_fixes 6 = .ok (.lcmp, 1) := by decide +kernel
theorem dX1_fixes_7 : decode cX1_fixes 7 = .ok (.ifCond .ne 7, 3) := by decide +kernel
theorem dX1_fixes_10 : decode cX1_fixes 10 = .ok (.iconst 1, 1) := by decide +kernel
theorem dX1_fixes_11 : decode cX1_fixes 11 = .ok (.goto 4, 3) := by decide +kernel
theorem dX1_fixes_14 : decode cX1_fixes 14 = .ok (.iconst 0, 1) := by decide +kernel
theorem dX1_fixes_15 : decode cX1_fixes 15 = .ok (.ireturn, 1) := by decide +kernel
set_option maxRecDepth 20000 in
theorem ggX1_countLeaving_X1_remainderOfBlock : GoodIn wsX1_countLeaving wsX1_remainderOfBlock := goodIn_r _ [5, 6, 7, 8, 9, 10, 11, 12] (by decide +kernel) (by decide +kernel)
set_option maxRecDepth 20000 in
theorem gX1_countLeaving_X1_remainderOfBlock : GoodIn wsX1_countLeaving (wsV RX1 44 RX1 yX1_remainderOfBlock wsX1_remainderOfBlock) := goodIn_app (goodIn_of _ (by decide +kernel)) ggX1_countLeaving_X1_remainderOfBlock
theorem dX1_countLeaving_0 : decode cX1_countLeaving 0 = .ok (.iconst 0, 1) := by decide +kernel
theorem dX1_countLeaving_1 : decode cX1_countLeaving 1 = .ok (.istore 4, 2) := by decide +kernel
theorem dX1_countLeaving_3 : decode cX1_countLeaving 3 = .ok (.iconst 0, 1) := by decide +kernel
theorem dX1_countLeaving_4 : decode cX1_countLeaving 4 = .ok (.istore 5, 2) := by decide +kernel
theorem dX1_countLeaving_6 : decode cX1_countLeaving 6 = .ok (.iload 5, 2) := by decide +kernel
theorem dX1_countLeaving_8 : decode cX1_countLeaving 8 = .ok (.iload_n 3, 1) := by decide +kernel
theorem dX1_countLeaving_9 : decode cX1_countLeaving 9 = .ok (.if_icmp .ge 23, 3) := by decide +kernel
theorem dX1_countLeaving_12 : decode cX1_countLeaving 12 = .ok (.aload_n 0, 1) := by decide +kernel
theorem dX1_countLeaving_13 : decode cX1_countLeaving 13 = .ok (.iload 5, 2) := by decide +kernel
theorem dX1_countLeaving_15 : decode cX1_countLeaving 15 = .ok (.invokevirtual 44, 3) := by decide +kernel
theorem dX1_countLeaving_18 : decode cX1_countLeaving 18 = .ok (.lload_n 1, 1) := by decide +kernel
theorem dX1_countLeaving_19 : decode cX1_countLeaving 19 = .ok (.lcmp, 1) := by decide +kernel
theorem dX1_countLeaving_20 : decode cX1_countLeaving 20 = .ok (.ifCond .ne 6, 3) := by decide +kernel
theorem dX1_countLeaving_23 : decode cX1_countLeaving 23 = .ok (.iinc 4 1, 3) := by decide +kernel
theorem dX1_countLeaving_26 : decode cX1_countLeaving 26 = .ok (.iinc 5 1, 3) := by decide +kernel
theorem dX1_countLeaving_29 : decode cX1_countLeaving 29 = .ok (.goto (-23), 3) := by decide +kernel
theorem dX1_countLeaving_32 : decode cX1_countLeaving 32 = .ok (.iload 4, 2) := by decide +kernel
theorem dX1_countLeaving_34 : decode cX1_countLeaving 34 = .ok (.ireturn, 1) := by decide +kernel
set_option maxRecDepth 20000 in
theorem ggX1_addEquation_X1_remainder : GoodIn wsX1_addEquation wsX1_remainder := goodIn_r _ [8, 1, 9, 10, 11, 12, 13, 14, 28, 29, 30] (by decide +kernel) (by decide +kernel)
set_option maxRecDepth 20000 in
theorem gX1_addEquation_X1_remainder : GoodIn wsX1_addEquation (wsV RX1 36 RX1 yX1_remainder wsX1_remainder) := goodIn_app (goodIn_of _ (by decide +kernel)) ggX1_addEquation_X1_remainder
set_option maxRecDepth 20000 in
theorem ggX1_addEquation_X5_lowestOf : GoodIn wsX1_addEquation wsX5_lowestOf := goodIn_r _ [16, 17, 18, 19, 20, 21, 22, 23] (by decide +kernel) (by decide +kernel)
set_option maxRecDepth 20000 in
theorem gX1_addEquation_X5_lowestOf_n48 : GoodIn wsX1_addEquation (wsX5_lowestOf) := ggX1_addEquation_X5_lowestOf
set_option maxRecDepth 20000 in
theorem ggX1_addEquation_X1_knownValue : GoodIn wsX1_addEquation wsX1_knownValue := goodIn_r _ [27, 2, 9, 10, 11, 12, 13, 14, 28, 29, 30] (by decide +kernel) (by decide +kernel)
set_option maxRecDepth 20000 in
theorem gX1_addEquation_X1_knownValue : GoodIn wsX1_addEquation (wsV RX1 40 RX1 yX1_knownValue wsX1_knownValue) := goodIn_app (goodIn_of _ (by decide +kernel)) ggX1_addEquation_X1_knownValue
set_option maxRecDepth 20000 in
theorem ggX1_addEquation_X5_holds : GoodIn wsX1_addEquation wsX5_holds := goodIn_r _ [11, 12, 13, 10, 14] (by decide +kernel) (by decide +kernel)
set_option maxRecDepth 20000 in
theorem gX1_addEquation_X5_holds_n32 : GoodIn wsX1_addEquation (wsX5_holds) := ggX1_addEquation_X5_holds
theorem dX1_addEquation_0 : decode cX1_addEquation 0 = .ok (.aload_n 0, 1) := by decide +kernel
theorem dX1_addEquation_1 : decode cX1_addEquation 1 = .ok (.lload_n 1, 1) := by decide +kernel
theorem dX1_addEquation_2 : decode cX1_addEquation 2 = .ok (.invokevirtual 36, 3) := by decide +kernel
theorem dX1_addEquation_5 : decode cX1_addEquation 5 = .ok (.lstore 4, 2) := by decide +kernel
theorem dX1_addEquation_7 : decode cX1_addEquation 7 = .ok (.lload 4, 2) := by decide +kernel
theorem dX1_addEquation_9 : decode cX1_addEquation 9 = .ok (.invokestatic 48, 3) := by decide +kernel
theorem dX1_addEquation_12 : decode cX1_addEquation 12 = .ok (.istore 6, 2) := by decide +kernel
theorem dX1_addEquation_14 : decode cX1_addEquation 14 = .ok (.lload 4, 2) := by decide +kernel
theorem dX1_addEquation_16 : decode cX1_addEquation 16 = .ok (.lconst 0, 1) := by decide +kernel
theorem dX1_addEquation_17 : decode cX1_addEquation 17 = .ok (.lcmp, 1) := by decide +kernel
theorem dX1_addEquation_18 : decode cX1_addEquation 18 = .ok (.ifCond .eq 10, 3) := by decide +kernel
theorem dX1_addEquation_21 : decode cX1_addEquation 21 = .ok (.iload 6, 2) := by decide +kernel
theorem dX1_addEquation_23 : decode cX1_addEquation 23 = .ok (.bipush 38, 2) := by decide +kernel
theorem dX1_addEquation_25 : decode cX1_addEquation 25 = .ok (.if_icmp .lt 4, 3) := by decide +kernel
theorem dX1_addEquation_28 : decode cX1_addEquation 28 = .ok (.return_, 1) := by decide +kernel
theorem dX1_addEquation_29 : decode cX1_addEquation 29 = .ok (.iload_n 3, 1) := by decide +kernel
theorem dX1_addEquation_30 : decode cX1_addEquation 30 = .ok (.aload_n 0, 1) := by decide +kernel
theorem dX1_addEquation_31 : decode cX1_addEquation 31 = .ok (.lload_n 1, 1) := by decide +kernel
theorem dX1_addEquation_32 : decode cX1_addEquation 32 = .ok (.invokevirtual 40, 3) := by decide +kernel
theorem dX1_addEquation_35 : decode cX1_addEquation 35 = .ok (.ixor, 1) := by decide +kernel
theorem dX1_addEquation_36 : decode cX1_addEquation 36 = .ok (.istore 7, 2) := by decide +kernel
theorem dX1_addEquation_38 : decode cX1_addEquation 38 = .ok (.iconst 0, 1) := by decide +kernel
theorem dX1_addEquation_39 : decode cX1_addEquation 39 = .ok (.istore 8, 2) := by decide +kernel
theorem dX1_addEquation_41 : decode cX1_addEquation 41 = .ok (.iload 8, 2) := by decide +kernel
theorem dX1_addEquation_43 : decode cX1_addEquation 43 = .ok (.bipush 38, 2) := by decide +kernel
theorem dX1_addEquation_45 : decode cX1_addEquation 45 = .ok (.if_icmp .ge 48, 3) := by decide +kernel
theorem dX1_addEquation_48 : decode cX1_addEquation 48 = .ok (.aload_n 0, 1) := by decide +kernel
theorem dX1_addEquation_49 : decode cX1_addEquation 49 = .ok (.getfield 9, 3) := by decide +kernel
theorem dX1_addEquation_52 : decode cX1_addEquation 52 = .ok (.iload 8, 2) := by decide +kernel
theorem dX1_addEquation_54 : decode cX1_addEquation 54 = .ok (.laload, 1) := by decide +kernel
theorem dX1_addEquation_55 : decode cX1_addEquation 55 = .ok (.iload 6, 2) := by decide +kernel
theorem dX1_addEquation_57 : decode cX1_addEquation 57 = .ok (.invokestatic 32, 3) := by decide +kernel
theorem dX1_addEquation_60 : decode cX1_addEquation 60 = .ok (.ifCond .eq 27, 3) := by decide +kernel
theorem dX1_addEquation_63 : decode cX1_addEquation 63 = .ok (.aload_n 0, 1) := by decide +kernel
theorem dX1_addEquation_64 : decode cX1_addEquation 64 = .ok (.getfield 9, 3) := by decide +kernel
theorem dX1_addEquation_67 : decode cX1_addEquation 67 = .ok (.iload 8, 2) := by decide +kernel
theorem dX1_addEquation_69 : decode cX1_addEquation 69 = .ok (.dup2, 1) := by decide +kernel
theorem dX1_addEquation_70 : decode cX1_addEquation 70 = .ok (.laload, 1) := by decide +kernel
theorem dX1_addEquation_71 : decode cX1_addEquation 71 = .ok (.lload 4, 2) := by decide +kernel
theorem dX1_addEquation_73 : decode cX1_addEquation 73 = .ok (.lxor, 1) := by decide +kernel
theorem dX1_addEquation_74 : decode cX1_addEquation 74 = .ok (.lastore, 1) := by decide +kernel
theorem dX1_addEquation_75 : decode cX1_addEquation 75 = .ok (.aload_n 0, 1) := by decide +kernel
theorem dX1_addEquation_76 : decode cX1_addEquation 76 = .ok (.getfield 15, 3) := by decide +kernel
theorem dX1_addEquation_79 : decode cX1_addEquation 79 = .ok (.iload 8, 2) := by decide +kernel
theorem dX1_addEquation_81 : decode cX1_addEquation 81 = .ok (.dup2, 1) := by decide +kernel
theorem dX1_addEquation_82 : decode cX1_addEquation 82 = .ok (.iaload, 1) := by decide +kernel
theorem dX1_addEquation_83 : decode cX1_addEquation 83 = .ok (.iload 7, 2) := by decide +kernel
theorem dX1_addEquation_85 : decode cX1_addEquation 85 = .ok (.ixor, 1) := by decide +kernel
theorem dX1_addEquation_86 : decode cX1_addEquation 86 = .ok (.iastore, 1) := by decide +kernel
theorem dX1_addEquation_87 : decode cX1_addEquation 87 = .ok (.iinc 8 1, 3) := by decide +kernel
theorem dX1_addEquation_90 : decode cX1_addEquation 90 = .ok (.goto (-49), 3) := by decide +kernel
theorem dX1_addEquation_93 : decode cX1_addEquation 93 = .ok (.aload_n 0, 1) := by decide +kernel
theorem dX1_addEquation_94 : decode cX1_addEquation 94 = .ok (.getfield 9, 3) := by decide +kernel
theorem dX1_addEquation_97 : decode cX1_addEquation 97 = .ok (.iload 6, 2) := by decide +kernel
theorem dX1_addEquation_99 : decode cX1_addEquation 99 = .ok (.lload 4, 2) := by decide +kernel
theorem dX1_addEquation_101 : decode cX1_addEquation 101 = .ok (.lastore, 1) := by decide +kernel
theorem dX1_addEquation_102 : decode cX1_addEquation 102 = .ok (.aload_n 0, 1) := by decide +kernel
theorem dX1_addEquation_103 : decode cX1_addEquation 103 = .ok (.getfield 15, 3) := by decide +kernel
theorem dX1_addEquation_106 : decode cX1_addEquation 106 = .ok (.iload 6, 2) := by decide +kernel
theorem dX1_addEquation_108 : decode cX1_addEquation 108 = .ok (.iload 7, 2) := by decide +kernel
theorem dX1_addEquation_110 : decode cX1_addEquation 110 = .ok (.iastore, 1) := by decide +kernel
theorem dX1_addEquation_111 : decode cX1_addEquation 111 = .ok (.aload_n 0, 1) := by decide +kernel
theorem dX1_addEquation_112 : decode cX1_addEquation 112 = .ok (.dup, 1) := by decide +kernel
theorem dX1_addEquation_113 : decode cX1_addEquation 113 = .ok (.getfield 19, 3) := by decide +kernel
theorem dX1_addEquation_116 : decode cX1_addEquation 116 = .ok (.iconst 1, 1) := by decide +kernel
theorem dX1_addEquation_117 : decode cX1_addEquation 117 = .ok (.iadd, 1) := by decide +kernel
theorem dX1_addEquation_118 : decode cX1_addEquation 118 = .ok (.putfield 19, 3) := by decide +kernel
theorem dX1_addEquation_121 : decode cX1_addEquation 121 = .ok (.return_, 1) := by decide +kernel
set_option maxRecDepth 20000 in
theorem ggX1_remainderOfBlock_X5_setOf : GoodIn wsX1_remainderOfBlock wsX5_setOf := goodIn_r _ [4] (by decide +kernel) (by decide +kernel)
set_option maxRecDepth 20000 in
theorem gX1_remainderOfBlock_X5_setOf_n51 : GoodIn wsX1_remainderOfBlock (wsX5_setOf) := ggX1_remainderOfBlock_X5_setOf
theorem dX1_remainderOfBlock_0 : decode cX1_remainderOfBlock 0 = .ok (.iload_n 1, 1) := by decide +kernel
theorem dX1_remainderOfBlock_1 : decode cX1_remainderOfBlock 1 = .ok (.ifCond .lt 18, 3) := by decide +kernel
theorem dX1_remainderOfBlock_4 : decode cX1_remainderOfBlock 4 = .ok (.iload_n 1, 1) := by decide +kernel
theorem dX1_remainderOfBlock_5 : decode cX1_remainderOfBlock 5 = .ok (.bipush 38, 2) := by decide +kernel
theorem dX1_remainderOfBlock_7 : decode cX1_remainderOfBlock 7 = .ok (.if_icmp .ge 12, 3) := by decide +kernel
theorem dX1_remainderOfBlock_10 : decode cX1_remainderOfBlock 10 = .ok (.aload_n 0, 1) := by decide +kernel
theorem dX1_remainderOfBlock_11 : decode cX1_remainderOfBlock 11 = .ok (.getfield 9, 3) := by decide +kernel
theorem dX1_remainderOfBlock_14 : decode cX1_remainderOfBlock 14 = .ok (.iload_n 1, 1) := by decide +kernel
theorem dX1_remainderOfBlock_15 : decode cX1_remainderOfBlock 15 = .ok (.laload, 1) := by decide +kernel
theorem dX1_remainderOfBlock_16 : decode cX1_remainderOfBlock 16 = .ok (.goto 4, 3) := by decide +kernel
theorem dX1_remainderOfBlock_19 : decode cX1_remainderOfBlock 19 = .ok (.lconst 0, 1) := by decide +kernel
theorem dX1_remainderOfBlock_20 : decode cX1_remainderOfBlock 20 = .ok (.lstore_n 2, 1) := by decide +kernel
theorem dX1_remainderOfBlock_21 : decode cX1_remainderOfBlock 21 = .ok (.iload_n 1, 1) := by decide +kernel
theorem dX1_remainderOfBlock_22 : decode cX1_remainderOfBlock 22 = .ok (.invokestatic 51, 3) := by decide +kernel
theorem dX1_remainderOfBlock_25 : decode cX1_remainderOfBlock 25 = .ok (.lload_n 2, 1) := by decide +kernel
theorem dX1_remainderOfBlock_26 : decode cX1_remainderOfBlock 26 = .ok (.lxor, 1) := by decide +kernel
theorem dX1_remainderOfBlock_27 : decode cX1_remainderOfBlock 27 = .ok (.lreturn, 1) := by decide +kernel
theorem dX2_init_0 : decode cX2_init 0 = .ok (.aload_n 0, 1) := by decide +kernel
theorem dX2_init_1 : decode cX2_init 1 = .ok (.invokespecial 3, 3) := by decide +kernel
theorem dX2_init_4 : decode cX2_init 4 = .ok (.aload_n 0, 1) := by decide +kernel
theorem dX2_init_5 : decode cX2_init 5 = .ok (.bipush 126, 2) := by decide +kernel
theorem dX2_init_7 : decode cX2_init 7 = .ok (.newarray .long, 2) := by decide +kernel
theorem dX2_init_9 : decode cX2_init 9 = .ok (.putfield 9, 3) := by decide +kernel
theorem dX2_init_12 : decode cX2_init 12 = .ok (.aload_n 0, 1) := by decide +kernel
theorem dX2_init_13 : decode cX2_init 13 = .ok (.bipush 38, 2) := by decide +kernel
theorem dX2_init_15 : decode cX2_init 15 = .ok (.newarray .int, 2) := by decide +kernel
theorem dX2_init_17 : decode cX2_init 17 = .ok (.putfield 15, 3) := by decide +kernel
theorem dX2_init_20 : decode cX2_init 20 = .ok (.aload_n 0, 1) := by decide +kernel
theorem dX2_init_21 : decode cX2_init 21 = .ok (.bipush 38, 2) := by decide +kernel
theorem dX2_init_23 : decode cX2_init 23 = .ok (.newarray .int, 2) := by decide +kernel
theorem dX2_init_25 : decode cX2_init 25 = .ok (.putfield 19, 3) := by decide +kernel
theorem dX2_init_28 : decode cX2_init 28 = .ok (.return_, 1) := by decide +kernel
set_option maxRecDepth 20000 in
theorem ggX2_clear_J7_fill_53178 : GoodIn wsX2_clear wsJ7_fill_53178 := goodIn_r _ [8] (by decide +kernel) (by decide +kernel)
set_option maxRecDepth 20000 in
theorem gX2_clear_J7_fill_53178 : GoodIn wsX2_clear (va_wsS RX2 33 yJ7_fill_53178 wsJ7_fill_53178) := goodIn_app (goodIn_of _ (by decide +kernel)) ggX2_clear_J7_fill_53178
theorem dX2_clear_0 : decode cX2_clear 0 = .ok (.aload_n 0, 1) := by decide +kernel
theorem dX2_clear_1 : decode cX2_clear 1 = .ok (.iconst 0, 1) := by decide +kernel
theorem dX2_clear_2 : decode cX2_clear 2 = .ok (.putfield 22, 3) := by decide +kernel
theorem dX2_clear_5 : decode cX2_clear 5 = .ok (.aload_n 0, 1) := by decide +kernel
theorem dX2_clear_6 : decode cX2_clear 6 = .ok (.iconst 0, 1) := by decide +kernel
theorem dX2_clear_7 : decode cX2_clear 7 = .ok (.putfield 26, 3) := by decide +kernel
theorem dX2_clear_10 : decode cX2_clear 10 = .ok (.aload_n 0, 1) := by decide +kernel
theorem dX2_clear_11 : decode cX2_clear 11 = .ok (.lconst 0, 1) := by decide +kernel
theorem dX2_clear_12 : decode cX2_clear 12 = .ok (.putfield 29, 3) := by decide +kernel
theorem dX2_clear_15 : decode cX2_clear 15 = .ok (.aload_n 0, 1) := by decide +kernel
theorem dX2_clear_16 : decode cX2_clear 16 = .ok (.getfield 19, 3) := by decide +kernel
theorem dX2_clear_19 : decode cX2_clear 19 = .ok (.iconst (-1), 1) := by decide +kernel
theorem dX2_clear_20 : decode cX2_clear 20 = .ok (.invokestatic 33, 3) := by decide +kernel
theorem dX2_clear_23 : decode cX2_clear 23 = .ok (.return_, 1) := by decide +kernel
theorem dX2_addEquation_0 : decode cX2_addEquation 0 = .ok (.aload_n 0, 1) := by decide +kernel
theorem dX2_addEquation_1 : decode cX2_addEquation 1 = .ok (.getfield 22, 3) := by decide +kernel
theorem dX2_addEquation_4 : decode cX2_addEquation 4 = .ok (.ifCond .lt 35, 3) := by decide +kernel
theorem dX2_addEquation_7 : decode cX2_addEquation 7 = .ok (.aload_n 0, 1) := by decide +kernel
theorem dX2_addEquation_8 : decode cX2_addEquation 8 = .ok (.getfield 22, 3) := by decide +kernel
theorem dX2_addEquation_11 : decode cX2_addEquation 11 = .ok (.aload_n 0, 1) := by decide +kernel
theorem dX2_addEquation_12 : decode cX2_addEquation 12 = .ok (.getfield 9, 3) := by decide +kernel
theorem dX2_addEquation_15 : decode cX2_addEquation 15 = .ok (.arraylength, 1) := by decide +kernel
theorem dX2_addEquation_16 : decode cX2_addEquation 16 = .ok (.if_icmp .ge 23, 3) := by decide +kernel
theorem dX2_addEquation_19 : decode cX2_addEquation 19 = .ok (.aload_n 0, 1) := by decide +kernel
theorem dX2_addEquation_20 : decode cX2_addEquation 20 = .ok (.getfield 9, 3) := by decide +kernel
theorem dX2_addEquation_23 : decode cX2_addEquation 23 = .ok (.aload_n 0, 1) := by decide +kernel
theorem dX2_addEquation_24 : decode cX2_addEquation 24 = .ok (.getfield 22, 3) := by decide +kernel
theorem dX2_addEquation_27 : decode cX2_addEquation 27 = .ok (.lload_n 1, 1) := by decide +kernel
theorem dX2_addEquation_28 : decode cX2_addEquation 28 = .ok (.lastore, 1) := by decide +kernel
theorem dX2_addEquation_29 : decode cX2_addEquation 29 = .ok (.aload_n 0, 1) := by decide +kernel
theorem dX2_addEquation_30 : decode cX2_addEquation 30 = .ok (.dup, 1) := by decide +kernel
theorem dX2_addEquation_31 : decode cX2_addEquation 31 = .ok (.getfield 22, 3) := by decide +kernel
theorem dX2_addEquation_34 : decode cX2_addEquation 34 = .ok (.iconst 1, 1) := by decide +kernel
theorem dX2_addEquation_35 : decode cX2_addEquation 35 = .ok (.iadd, 1) := by decide +kernel
theorem dX2_addEquation_36 : decode cX2_addEquation 36 = .ok (.putfield 22, 3) := by decide +kernel
theorem dX2_addEquation_39 : decode cX2_addEquation 39 = .ok (.return_, 1) := by decide +kernel
set_option maxRecDepth 20000 in
theorem ggX2_peelOn_X2_lowestReady : GoodIn wsX2_peelOn wsX2_lowestReady := goodIn_r _ [6, 7, 8, 9, 10, 11, 12, 13, 14, 15, 16, 17, 30, 31, 32, 33, 34, 35] (by decide +kernel) (by decide +kernel)
set_option maxRecDepth 20000 in
theorem gX2_peelOn_X2_lowestReady : GoodIn wsX2_peelOn (wsV RX2 39 RX2 yX2_lowestReady wsX2_lowestReady) := goodIn_app (goodIn_of _ (by decide +kernel)) ggX2_peelOn_X2_lowestReady
set_option maxRecDepth 20000 in
theorem ggX2_peelOn_X2_peelWith : GoodIn wsX2_peelOn wsX2_peelWith := goodIn_r _ [21, 8, 9, 10, 1, 22, 23, 24, 25, 26, 27, 12, 13, 14, 15, 16, 17, 28, 29, 30, 31, 32, 33, 34, 35] (by decide +kernel) (by decide +kernel)
set_option maxRecDepth 20000 in
theorem gX2_peelOn_X2_peelWith : GoodIn wsX2_peelOn (wsV RX2 43 RX2 yX2_peelWith wsX2_peelWith) := goodIn_app (goodIn_of _ (by decide +kernel)) ggX2_peelOn_X2_peelWith
theorem dX2_peelOn_0 : decode cX2_peelOn 0 = .ok (.aload_n 0, 1) := by decide +kernel
theorem dX2_peelOn_1 : decode cX2_peelOn 1 = .ok (.getfield 26, 3) := by decide +kernel
theorem dX2_peelOn_4 : decode cX2_peelOn 4 = .ok (.istore_n 1, 1) := by decide +kernel
theorem dX2_peelOn_5 : decode cX2_peelOn 5 = .ok (.iconst 0, 1) := by decide +kernel
theorem dX2_peelOn_6 : decode cX2_peelOn 6 = .ok (.istore_n 2, 1) := by decide +kernel
theorem dX2_peelOn_7 : decode cX2_peelOn 7 = .ok (.iload_n 2, 1) := by decide +kernel
theorem dX2_peelOn_8 : decode cX2_peelOn 8 = .ok (.bipush 38, 2) := by decide +kernel
theorem dX2_peelOn_10 : decode cX2_peelOn 10 = .ok (.if_icmp .ge 27, 3) := by decide +kernel
theorem dX2_peelOn_13 : decode cX2_peelOn 13 = .ok (.aload_n 0, 1) := by decide +kernel
theorem dX2_peelOn_14 : decode cX2_peelOn 14 = .ok (.invokevirtual 39, 3) := by decide +kernel
theorem dX2_peelOn_17 : decode cX2_peelOn 17 = .ok (.istore_n 3, 1) := by decide +kernel
theorem dX2_peelOn_18 : decode cX2_peelOn 18 = .ok (.iload_n 3, 1) := by decide +kernel
theorem dX2_peelOn_19 : decode cX2_peelOn 19 = .ok (.iconst (-1), 1) := by decide +kernel
theorem dX2_peelOn_20 : decode cX2_peelOn 20 = .ok (.if_icmp .ne 6, 3) := by decide +kernel
theorem dX2_peelOn_23 : decode cX2_peelOn 23 = .ok (.goto 14, 3) := by decide +kernel
theorem dX2_peelOn_26 : decode cX2_peelOn 26 = .ok (.aload_n 0, 1) := by decide +kernel
theorem dX2_peelOn_27 : decode cX2_peelOn 27 = .ok (.iload_n 3, 1) := by decide +kernel
theorem dX2_peelOn_28 : decode cX2_peelOn 28 = .ok (.invokevirtual 43, 3) := by decide +kernel
theorem dX2_peelOn_31 : decode cX2_peelOn 31 = .ok (.iinc 2 1, 3) := by decide +kernel
theorem dX2_peelOn_34 : decode cX2_peelOn 34 = .ok (.goto (-27), 3) := by decide +kernel
theorem dX2_peelOn_37 : decode cX2_peelOn 37 = .ok (.aload_n 0, 1) := by decide +kernel
theorem dX2_peelOn_38 : decode cX2_peelOn 38 = .ok (.getfield 26, 3) := by decide +kernel
theorem dX2_peelOn_41 : decode cX2_peelOn 41 = .ok (.iload_n 1, 1) := by decide +kernel
theorem dX2_peelOn_42 : decode cX2_peelOn 42 = .ok (.isub, 1) := by decide +kernel
theorem dX2_peelOn_43 : decode cX2_peelOn 43 = .ok (.ireturn, 1) := by decide +kernel
theorem dX2_equationCount_0 : decode cX2_equationCount 0 = .ok (.aload_n 0, 1) := by decide +kernel
theorem dX2_equationCount_1 : decode cX2_equationCount 1 = .ok (.getfield 22, 3) := by decide +kernel
theorem dX2_equationCount_4 : decode cX2_equationCount 4 = .ok (.ireturn, 1) := by decide +kernel
theorem dX2_peeledCount_0 : decode cX2_peeledCount 0 = .ok (.aload_n 0, 1) := by decide +kernel
theorem dX2_peeledCount_1 : decode cX2_peeledCount 1 = .ok (.getfield 26, 3) := by decide +kernel
theorem dX2_peeledCount_4 : decode cX2_peeledCount 4 = .ok (.ireturn, 1) := by decide +kernel
theorem dX2_peeledInPlace_0 : decode cX2_peeledInPlace 0 = .ok (.iload_n 1, 1) := by decide +kernel
theorem dX2_peeledInPlace_1 : decode cX2_peeledInPlace 1 = .ok (.ifCond .lt 21, 3) := by decide +kernel
theorem dX2_peeledInPlace_4 : decode cX2_peeledInPlace 4 = .ok (.iload_n 1, 1) := by decide +kernel
theorem dX2_peeledInPlace_5 : decode cX2_peeledInPlace 5 = .ok (.aload_n 0, 1) := by decide +kernel
theorem dX2_peeledInPlace_6 : decode cX2_peeledInPlace 6 = .ok (.getfield 15, 3) := by decide +kernel
theorem dX2_peeledInPlace_9 : decode cX2_peeledInPlace 9 = .ok (.arraylength, 1) := by decide +kernel
theorem dX2_peeledInPlace_10 : decode cX2_peeledInPlace 10 = .ok (.if_icmp .ge 12, 3) := by decide +kernel
theorem dX2_peeledInPlace_13 : decode cX2_peeledInPlace 13 = .ok (.aload_n 0, 1) := by decide +kernel
theorem dX2_peeledInPlace_14 : decode cX2_peeledInPlace 14 = .ok (.getfield 15, 3) := by decide +kernel
theorem dX2_peeledInPlace_17 : decode cX2_peeledInPlace 17 = .ok (.iload_n 1, 1) := by decide +kernel
theorem dX2_peeledInPlace_18 : decode cX2_peeledInPlace 18 = .ok (.iaload, 1) := by decide +kernel
theorem dX2_peeledInPlace_19 : decode cX2_peeledInPlace 19 = .ok (.goto 4, 3) := by decide +kernel
theorem dX2_peeledInPlace_22 : decode cX2_peeledInPlace 22 = .ok (.iconst (-1), 1) := by decide +kernel
theorem dX2_peeledInPlace_23 : decode cX2_peeledInPlace 23 = .ok (.ireturn, 1) := by decide +kernel
theorem dX2_equationThatPeeled_0 : decode cX2_equationThatPeeled 0 = .ok (.iload_n 1, 1) := by decide +kernel
theorem dX2_equationThatPeeled_1 : decode cX2_equationThatPeeled 1 = .ok (.ifCond .lt 21, 3) := by decide +kernel
theorem dX2_equationThatPeeled_4 : decode cX2_equationThatPeeled 4 = .ok (.iload_n 1, 1) := by decide +kernel
theorem dX2_equationThatPeeled_5 : decode cX2_equationThatPeeled 5 = .ok (.aload_n 0, 1) := by decide +kernel
theorem dX2_equationThatPeeled_6 : decode cX2_equationThatPeeled 6 = .ok (.getfield 19, 3) := by decide +kernel
theorem dX2_equationThatPeeled_9 : decode cX2_equationThatPeeled 9 = .ok (.arraylength, 1) := by decide +kernel
theorem dX2_equationThatPeeled_10 : decode cX2_equationThatPeeled 10 = .ok (.if_icmp .ge 12, 3) := by decide +kernel
theorem dX2_equationThatPeeled_13 : decode cX2_equationThatPeeled 13 = .ok (.aload_n 0, 1) := by decide +kernel
theorem dX2_equationThatPeeled_14 : decode cX2_equationThatPeeled 14 = .ok (.getfield 19, 3) := by decide +kernel
theorem dX2_equationThatPeeled_17 : decode cX2_equationThatPeeled 17 = .ok (.iload_n 1, 1) := by decide +kernel
theorem dX2_equationThatPeeled_18 : decode cX2_equationThatPeeled 18 = .ok (.iaload, 1) := by decide +kernel
theorem dX2_equationThatPeeled_19 : decode cX2_equationThatPeeled 19 = .ok (.goto 4, 3) := by decide +kernel
theorem dX2_equationThatPeeled_22 : decode cX2_equationThatPeeled 22 = .ok (.iconst (-1), 1) := by decide +kernel
theorem dX2_equationThatPeeled_23 : decode cX2_equationThatPeeled 23 = .ok (.ireturn, 1) := by decide +kernel
set_option maxRecDepth 20000 in
theorem ggX2_lowestReady_J13_bitCount_95d88 : GoodIn wsX2_lowestReady wsJ13_bitCount_95d88 := goodIn_r _ [8, 9, 10, 11] (by decide +kernel) (by decide +kernel)
set_option maxRecDepth 20000 in
theorem gX2_lowestReady_J13_bitCount_95d88 : GoodIn wsX2_lowestReady (va_wsS RX2 49 yJ13_bitCount_95d88 wsJ13_bitCount_95d88) := goodIn_app (goodIn_of _ (by decide +kernel)) ggX2_lowestReady_J13_bitCount_95d88
theorem dX2_lowestReady_0 : decode cX2_lowestReady 0 = .ok (.iconst 0, 1) := by decide +kernel
theorem dX2_lowestReady_1 : decode cX2_lowestReady 1 = .ok (.istore_n 1, 1) := by decide +kernel
theorem dX2_lowestReady_2 : decode cX2_lowestReady 2 = .ok (.iload_n 1, 1) := by decide +kernel
theorem dX2_lowestReady_3 : decode cX2_lowestReady 3 = .ok (.aload_n 0, 1) := by decide +kernel
theorem dX2_lowestReady_4 : decode cX2_lowestReady 4 = .ok (.getfield 22, 3) := by decide +kernel
theorem dX2_lowestReady_7 : decode cX2_lowestReady 7 = .ok (.if_icmp .ge 42, 3) := by decide +kernel
theorem dX2_lowestReady_10 : decode cX2_lowestReady 10 = .ok (.iload_n 1, 1) := by decide +kernel
theorem dX2_lowestReady_11 : decode cX2_lowestReady 11 = .ok (.aload_n 0, 1) := by decide +kernel
theorem dX2_lowestReady_12 : decode cX2_lowestReady 12 = .ok (.getfield 9, 3) := by decide +kernel
theorem dX2_lowestReady_15 : decode cX2_lowestReady 15 = .ok (.arraylength, 1) := by decide +kernel
theorem dX2_lowestReady_16 : decode cX2_lowestReady 16 = .ok (.if_icmp .ge 33, 3) := by decide +kernel
theorem dX2_lowestReady_19 : decode cX2_lowestReady 19 = .ok (.aload_n 0, 1) := by decide +kernel
theorem dX2_lowestReady_20 : decode cX2_lowestReady 20 = .ok (.getfield 9, 3) := by decide +kernel
theorem dX2_lowestReady_23 : decode cX2_lowestReady 23 = .ok (.iload_n 1, 1) := by decide +kernel
theorem dX2_lowestReady_24 : decode cX2_lowestReady 24 = .ok (.laload, 1) := by decide +kernel
theorem dX2_lowestReady_25 : decode cX2_lowestReady 25 = .ok (.aload_n 0, 1) := by decide +kernel
theorem dX2_lowestReady_26 : decode cX2_lowestReady 26 = .ok (.getfield 29, 3) := by decide +kernel
theorem dX2_lowestReady_29 : decode cX2_lowestReady 29 = .ok (.ldc2_w 47, 3) := by decide +kernel
theorem dX2_lowestReady_32 : decode cX2_lowestReady 32 = .ok (.lxor, 1) := by decide +kernel
theorem dX2_lowestReady_33 : decode cX2_lowestReady 33 = .ok (.land, 1) := by decide +kernel
theorem dX2_lowestReady_34 : decode cX2_lowestReady 34 = .ok (.invokestatic 49, 3) := by decide +kernel
theorem dX2_lowestReady_37 : decode cX2_lowestReady 37 = .ok (.iconst 1, 1) := by decide +kernel
theorem dX2_lowestReady_38 : decode cX2_lowestReady 38 = .ok (.if_icmp .ne 5, 3) := by decide +kernel
theorem dX2_lowestReady_41 : decode cX2_lowestReady 41 = .ok (.iload_n 1, 1) := by decide +kernel
theorem dX2_lowestReady_42 : decode cX2_lowestReady 42 = .ok (.ireturn, 1) := by decide +kernel
theorem dX2_lowestReady_43 : decode cX2_lowestReady 43 = .ok (.iinc 1 1, 3) := by decide +kernel
theorem dX2_lowestReady_46 : decode cX2_lowestReady 46 = .ok (.goto (-44), 3) := by decide +kernel
theorem dX2_lowestReady_49 : decode cX2_lowestReady 49 = .ok (.iconst (-1), 1) := by decide +kernel
theorem dX2_lowestReady_50 : decode cX2_lowestReady 50 = .ok (.ireturn, 1) := by decide +kernel
set_option maxRecDepth 20000 in
theorem ggX2_peelWith_X5_lowestOf : GoodIn wsX2_peelWith wsX5_lowestOf := goodIn_r _ [9, 10, 11, 12, 13, 14, 15, 16] (by decide +kernel) (by decide +kernel)
set_option maxRecDepth 20000 in
theorem gX2_peelWith_X5_lowestOf_n55 : GoodIn wsX2_peelWith (wsX5_lowestOf) := ggX2_peelWith_X5_lowestOf
set_option maxRecDepth 20000 in
theorem ggX2_peelWith_X5_setOf : GoodIn wsX2_peelWith wsX5_setOf := goodIn_r _ [18] (by decide +kernel) (by decide +kernel)
set_option maxRecDepth 20000 in
theorem gX2_peelWith_X5_setOf_n58 : GoodIn wsX2_peelWith (wsX5_setOf) := ggX2_peelWith_X5_setOf
theorem dX2_peelWith_0 : decode cX2_peelWith 0 = .ok (.iload_n 1, 1) := by decide +kernel
theorem dX2_peelWith_1 : decode cX2_peelWith 1 = .ok (.ifCond .lt 12, 3) := by decide +kernel
theorem dX2_peelWith_4 : decode cX2_peelWith 4 = .ok (.iload_n 1, 1) := by decide +kernel
theorem dX2_peelWith_5 : decode cX2_peelWith 5 = .ok (.aload_n 0, 1) := by decide +kernel
theorem dX2_peelWith_6 : decode cX2_peelWith 6 = .ok (.getfield 9, 3) := by decide +kernel
theorem dX2_peelWith_9 : decode cX2_peelWith 9 = .ok (.arraylength, 1) := by decide +kernel
theorem dX2_peelWith_10 : decode cX2_peelWith 10 = .ok (.if_icmp .lt 4, 3) := by decide +kernel
theorem dX2_peelWith_13 : decode cX2_peelWith 13 = .ok (.return_, 1) := by decide +kernel
theorem dX2_peelWith_14 : decode cX2_peelWith 14 = .ok (.aload_n 0, 1) := by decide +kernel
theorem dX2_peelWith_15 : decode cX2_peelWith 15 = .ok (.getfield 9, 3) := by decide +kernel
theorem dX2_peelWith_18 : decode cX2_peelWith 18 = .ok (.iload_n 1, 1) := by decide +kernel
theorem dX2_peelWith_19 : decode cX2_peelWith 19 = .ok (.laload, 1) := by decide +kernel
theorem dX2_peelWith_20 : decode cX2_peelWith 20 = .ok (.aload_n 0, 1) := by decide +kernel
theorem dX2_peelWith_21 : decode cX2_peelWith 21 = .ok (.getfield 29, 3) := by decide +kernel
theorem dX2_peelWith_24 : decode cX2_peelWith 24 = .ok (.ldc2_w 47, 3) := by decide +kernel
theorem dX2_peelWith_27 : decode cX2_peelWith 27 = .ok (.lxor, 1) := by decide +kernel
theorem dX2_peelWith_28 : decode cX2_peelWith 28 = .ok (.land, 1) := by decide +kernel
theorem dX2_peelWith_29 : decode cX2_peelWith 29 = .ok (.invokestatic 55, 3) := by decide +kernel
theorem dX2_peelWith_32 : decode cX2_peelWith 32 = .ok (.istore_n 2, 1) := by decide +kernel
theorem dX2_peelWith_33 : decode cX2_peelWith 33 = .ok (.iload_n 2, 1) := by decide +kernel
theorem dX2_peelWith_34 : decode cX2_peelWith 34 = .ok (.bipush 38, 2) := by decide +kernel
theorem dX2_peelWith_36 : decode cX2_peelWith 36 = .ok (.if_icmp .ge 19, 3) := by decide +kernel
theorem dX2_peelWith_39 : decode cX2_peelWith 39 = .ok (.aload_n 0, 1) := by decide +kernel
theorem dX2_peelWith_40 : decode cX2_peelWith 40 = .ok (.getfield 26, 3) := by decide +kernel
theorem dX2_peelWith_43 : decode cX2_peelWith 43 = .ok (.ifCond .lt 12, 3) := by decide +kernel
theorem dX2_peelWith_46 : decode cX2_peelWith 46 = .ok (.aload_n 0, 1) := by decide +kernel
theorem dX2_peelWith_47 : decode cX2_peelWith 47 = .ok (.getfield 26, 3) := by decide +kernel
theorem dX2_peelWith_50 : decode cX2_peelWith 50 = .ok (.bipush 38, 2) := by decide +kernel
theorem dX2_peelWith_52 : decode cX2_peelWith 52 = .ok (.if_icmp .lt 4, 3) := by decide +kernel
theorem dX2_peelWith_55 : decode cX2_peelWith 55 = .ok (.return_, 1) := by decide +kernel
theorem dX2_peelWith_56 : decode cX2_peelWith 56 = .ok (.aload_n 0, 1) := by decide +kernel
theorem dX2_peelWith_57 : decode cX2_peelWith 57 = .ok (.getfield 15, 3) := by decide +kernel
theorem dX2_peelWith_60 : decode cX2_peelWith 60 = .ok (.aload_n 0, 1) := by decide +kernel
theorem dX2_peelWith_61 : decode cX2_peelWith 61 = .ok (.getfield 26, 3) := by decide +kernel
theorem dX2_peelWith_64 : decode cX2_peelWith 64 = .ok (.iload_n 2, 1) := by decide +kernel
theorem dX2_peelWith_65 : decode cX2_peelWith 65 = .ok (.iastore, 1) := by decide +kernel
theorem dX2_peelWith_66 : decode cX2_peelWith 66 = .ok (.aload_n 0, 1) := by decide +kernel
theorem dX2_peelWith_67 : decode cX2_peelWith 67 = .ok (.getfield 19, 3) := by decide +kernel
theorem dX2_peelWith_70 : decode cX2_peelWith 70 = .ok (.iload_n 2, 1) := by decide +kernel
theorem dX2_peelWith_71 : decode cX2_peelWith 71 = .ok (.iload_n 1, 1) := by decide +kernel
theorem dX2_peelWith_72 : decode cX2_peelWith 72 = .ok (.iastore, 1) := by decide +kernel
theorem dX2_peelWith_73 : decode cX2_peelWith 73 = .ok (.aload_n 0, 1) := by decide +kernel
theorem dX2_peelWith_74 : decode cX2_peelWith 74 = .ok (.dup, 1) := by decide +kernel
theorem dX2_peelWith_75 : decode cX2_peelWith 75 = .ok (.getfield 29, 3) := by decide +kernel
theorem dX2_peelWith_78 : decode cX2_peelWith 78 = .ok (.iload_n 2, 1) := by decide +kernel
theorem dX2_peelWith_79 : decode cX2_peelWith 79 = .ok (.invokestatic 58, 3) := by decide +kernel
theorem dX2_peelWith_82 : decode cX2_peelWith 82 = .ok (.lor, 1) := by decide +kernel
theorem dX2_peelWith_83 : decode cX2_peelWith 83 = .ok (.putfield 29, 3) := by decide +kernel
theorem dX2_peelWith_86 : decode cX2_peelWith 86 = .ok (.aload_n 0, 1) := by decide +kernel
theorem dX2_peelWith_87 : decode cX2_peelWith 87 = .ok (.dup, 1) := by decide +kernel
theorem dX2_peelWith_88 : decode cX2_peelWith 88 = .ok (.getfield 26, 3) := by decide +kernel
theorem dX2_peelWith_91 : decode cX2_peelWith 91 = .ok (.iconst 1, 1) := by decide +kernel
theorem dX2_peelWith_92 : decode cX2_peelWith 92 = .ok (.iadd, 1) := by decide +kernel
theorem dX2_peelWith_93 : decode cX2_peelWith 93 = .ok (.putfield 26, 3) := by decide +kernel
theorem dX2_peelWith_96 : decode cX2_peelWith 96 = .ok (.return_, 1) := by decide +kernel
theorem dX3_init_0 : decode cX3_init 0 = .ok (.aload_n 0, 1) := by decide +kernel
theorem dX3_init_1 : decode cX3_init 1 = .ok (.invokespecial 3, 3) := by decide +kernel
theorem dX3_init_4 : decode cX3_init 4 = .ok (.aload_n 0, 1) := by decide +kernel
theorem dX3_init_5 : decode cX3_init 5 = .ok (.bipush 32, 2) := by decide +kernel
theorem dX3_init_7 : decode cX3_init 7 = .ok (.newarray .int, 2) := by decide +kernel
theorem dX3_init_9 : decode cX3_init 9 = .ok (.putfield 9, 3) := by decide +kernel
theorem dX3_init_12 : decode cX3_init 12 = .ok (.return_, 1) := by decide +kernel
set_option maxRecDepth 20000 in
theorem ggX3_begin_J7_fill_53178 : GoodIn wsX3_begin wsJ7_fill_53178 := goodIn_r _ [7] (by decide +kernel) (by decide +kernel)
set_option maxRecDepth 20000 in
theorem gX3_begin_J7_fill_53178 : GoodIn wsX3_begin (va_wsS RX3 22 yJ7_fill_53178 wsJ7_fill_53178) := goodIn_app (goodIn_of _ (by decide +kernel)) ggX3_begin_J7_fill_53178
theorem dX3_begin_0 : decode cX3_begin 0 = .ok (.aload_n 0, 1) := by decide +kernel
theorem dX3_begin_1 : decode cX3_begin 1 = .ok (.iload_n 1, 1) := by decide +kernel
theorem dX3_begin_2 : decode cX3_begin 2 = .ok (.putfield 15, 3) := by decide +kernel
theorem dX3_begin_5 : decode cX3_begin 5 = .ok (.aload_n 0, 1) := by decide +kernel
theorem dX3_begin_6 : decode cX3_begin 6 = .ok (.iload_n 2, 1) := by decide +kernel
theorem dX3_begin_7 : decode cX3_begin 7 = .ok (.putfield 19, 3) := by decide +kernel
theorem dX3_begin_10 : decode cX3_begin 10 = .ok (.aload_n 0, 1) := by decide +kernel
theorem dX3_begin_11 : decode cX3_begin 11 = .ok (.getfield 9, 3) := by decide +kernel
theorem dX3_begin_14 : decode cX3_begin 14 = .ok (.iconst 0, 1) := by decide +kernel
theorem dX3_begin_15 : decode cX3_begin 15 = .ok (.invokestatic 22, 3) := by decide +kernel
theorem dX3_begin_18 : decode cX3_begin 18 = .ok (.return_, 1) := by decide +kernel
theorem dX3_sourceCount_0 : decode cX3_sourceCount 0 = .ok (.aload_n 0, 1) := by decide +kernel
theorem dX3_sourceCount_1 : decode cX3_sourceCount 1 = .ok (.getfield 15, 3) := by decide +kernel
theorem dX3_sourceCount_4 : decode cX3_sourceCount 4 = .ok (.ireturn, 1) := by decide +kernel
theorem dX3_parityCount_0 : decode cX3_parityCount 0 = .ok (.aload_n 0, 1) := by decide +kernel
theorem dX3_parityCount_1 : decode cX3_parityCount 1 = .ok (.getfield 19, 3) := by decide +kernel
theorem dX3_parityCount_4 : decode cX3_parityCount 4 = .ok (.ireturn, 1) := by decide +kernel
theorem dX3_blockCount_0 : decode cX3_blockCount 0 = .ok (.aload_n 0, 1) := by decide +kernel
theorem dX3_blockCount_1 : decode cX3_blockCount 1 = .ok (.getfield 15, 3) := by decide +kernel
theorem dX3_blockCount_4 : decode cX3_blockCount 4 = .ok (.aload_n 0, 1) := by decide +kernel
theorem dX3_blockCount_5 : decode cX3_blockCount 5 = .ok (.getfield 19, 3) := by decide +kernel
theorem dX3_blockCount_8 : decode cX3_blockCount 8 = .ok (.iadd, 1) := by decide +kernel
theorem dX3_blockCount_9 : decode cX3_blockCount 9 = .ok (.ireturn, 1) := by decide +kernel
theorem dX3_change_0 : decode cX3_change 0 = .ok (.iload_n 1, 1) := by decide +kernel
theorem dX3_change_1 : decode cX3_change 1 = .ok (.ifCond .lt 19, 3) := by decide +kernel
theorem dX3_change_4 : decode cX3_change 4 = .ok (.iload_n 1, 1) := by decide +kernel
theorem dX3_change_5 : decode cX3_change 5 = .ok (.aload_n 0, 1) := by decide +kernel
theorem dX3_change_6 : decode cX3_change 6 = .ok (.getfield 9, 3) := by decide +kernel
theorem dX3_change_9 : decode cX3_change 9 = .ok (.arraylength, 1) := by decide +kernel
theorem dX3_change_10 : decode cX3_change 10 = .ok (.if_icmp .ge 10, 3) := by decide +kernel
theorem dX3_change_13 : decode cX3_change 13 = .ok (.aload_n 0, 1) := by decide +kernel
theorem dX3_change_14 : decode cX3_change 14 = .ok (.getfield 9, 3) := by decide +kernel
theorem dX3_change_17 : decode cX3_change 17 = .ok (.iload_n 1, 1) := by decide +kernel
theorem dX3_change_18 : decode cX3_change 18 = .ok (.iload_n 2, 1) := by decide +kernel
theorem dX3_change_19 : decode cX3_change 19 = .ok (.iastore, 1) := by decide +kernel
theorem dX3_change_20 : decode cX3_change 20 = .ok (.return_, 1) := by decide +kernel
set_option maxRecDepth 20000 in
theorem ggX3_coveredBy_X5_setOf : GoodIn wsX3_coveredBy wsX5_setOf := goodIn_r _ [4] (by decide +kernel) (by decide +kernel)
set_option maxRecDepth 20000 in
theorem gX3_coveredBy_X5_setOf_n28 : GoodIn wsX3_coveredBy (wsX5_setOf) := ggX3_coveredBy_X5_setOf
theorem dX3_coveredBy_0 : decode cX3_coveredBy 0 = .ok (.lconst 0, 1) := by decide +kernel
theorem dX3_coveredBy_1 : decode cX3_coveredBy 1 = .ok (.lstore_n 2, 1) := by decide +kernel
theorem dX3_coveredBy_2 : decode cX3_coveredBy 2 = .ok (.iconst 0, 1) := by decide +kernel
theorem dX3_coveredBy_3 : decode cX3_coveredBy 3 = .ok (.istore 4, 2) := by decide +kernel
theorem dX3_coveredBy_5 : decode cX3_coveredBy 5 = .ok (.iload 4, 2) := by decide +kernel
theorem dX3_coveredBy_7 : decode cX3_coveredBy 7 = .ok (.aload_n 0, 1) := by decide +kernel
theorem dX3_coveredBy_8 : decode cX3_coveredBy 8 = .ok (.getfield 15, 3) := by decide +kernel
theorem dX3_coveredBy_11 : decode cX3_coveredBy 11 = .ok (.if_icmp .ge 28, 3) := by decide +kernel
theorem dX3_coveredBy_14 : decode cX3_coveredBy 14 = .ok (.iload 4, 2) := by decide +kernel
theorem dX3_coveredBy_16 : decode cX3_coveredBy 16 = .ok (.iconst 1, 1) := by decide +kernel
theorem dX3_coveredBy_17 : decode cX3_coveredBy 17 = .ok (.iadd, 1) := by decide +kernel
theorem dX3_coveredBy_18 : decode cX3_coveredBy 18 = .ok (.iload_n 1, 1) := by decide +kernel
theorem dX3_coveredBy_19 : decode cX3_coveredBy 19 = .ok (.ishr, 1) := by decide +kernel
theorem dX3_coveredBy_20 : decode cX3_coveredBy 20 = .ok (.iconst 1, 1) := by decide +kernel
theorem dX3_coveredBy_21 : decode cX3_coveredBy 21 = .ok (.iand, 1) := by decide +kernel
theorem dX3_coveredBy_22 : decode cX3_coveredBy 22 = .ok (.ifCond .eq 11, 3) := by decide +kernel
theorem dX3_coveredBy_25 : decode cX3_coveredBy 25 = .ok (.lload_n 2, 1) := by decide +kernel
theorem dX3_coveredBy_26 : decode cX3_coveredBy 26 = .ok (.iload 4, 2) := by decide +kernel
theorem dX3_coveredBy_28 : decode cX3_coveredBy 28 = .ok (.invokestatic 28, 3) := by decide +kernel
theorem dX3_coveredBy_31 : decode cX3_coveredBy 31 = .ok (.lor, 1) := by decide +kernel
theorem dX3_coveredBy_32 : decode cX3_coveredBy 32 = .ok (.lstore_n 2, 1) := by decide +kernel
theorem dX3_coveredBy_33 : decode cX3_coveredBy 33 = .ok (.iinc 4 1, 3) := by decide +kernel
theorem dX3_coveredBy_36 : decode cX3_coveredBy 36 = .ok (.goto (-31), 3) := by decide +kernel
theorem dX3_coveredBy_39 : decode cX3_coveredBy 39 = .ok (.lload_n 2, 1) := by decide +kernel
theorem dX3_coveredBy_40 : decode cX3_coveredBy 40 = .ok (.lreturn, 1) := by decide +kernel
set_option maxRecDepth 20000 in
theorem ggX3_valueOfBlock_X3_coveredBy : GoodIn wsX3_valueOfBlock wsX3_coveredBy := goodIn_r _ [6, 1, 7, 8, 9, 18, 19, 20] (by decide +kernel) (by decide +kernel)
set_option maxRecDepth 20000 in
theorem gX3_valueOfBlock_X3_coveredBy : GoodIn wsX3_valueOfBlock (wsV RX3 32 RX3 yX3_coveredBy wsX3_coveredBy) := goodIn_app (goodIn_of _ (by decide +kernel)) ggX3_valueOfBlock_X3_coveredBy
set_option maxRecDepth 20000 in
theorem ggX3_valueOfBlock_X3_valueOfSources : GoodIn wsX3_valueOfBlock wsX3_valueOfSources := goodIn_r _ [13, 1, 14, 15, 8, 16, 17, 7, 9, 18, 19, 20] (by decide +kernel) (by decide +kernel)
set_option maxRecDepth 20000 in
theorem gX3_valueOfBlock_X3_valueOfSources : GoodIn wsX3_valueOfBlock (wsV RX3 35 RX3 yX3_valueOfSources wsX3_valueOfSources) := goodIn_app (goodIn_of _ (by decide +kernel)) ggX3_valueOfBlock_X3_valueOfSources
set_option maxRecDepth 20000 in
theorem ggX3_valueOfBlock_X5_setOf : GoodIn wsX3_valueOfBlock wsX5_setOf := goodIn_r _ [9] (by decide +kernel) (by decide +kernel)
set_option maxRecDepth 20000 in
theorem gX3_valueOfBlock_X5_setOf_n28 : GoodIn wsX3_valueOfBlock (wsX5_setOf) := ggX3_valueOfBlock_X5_setOf
theorem dX3_valueOfBlock_0 : decode cX3_valueOfBlock 0 = .ok (.iload_n 1, 1) := by decide +kernel
theorem dX3_valueOfBlock_1 : decode cX3_valueOfBlock 1 = .ok (.aload_n 0, 1) := by decide +kernel
theorem dX3_valueOfBlock_2 : decode cX3_valueOfBlock 2 = .ok (.getfield 15, 3) := by decide +kernel
theorem dX3_valueOfBlock_5 : decode cX3_valueOfBlock 5 = .ok (.if_icmp .lt 18, 3) := by decide +kernel
theorem dX3_valueOfBlock_8 : decode cX3_valueOfBlock 8 = .ok (.aload_n 0, 1) := by decide +kernel
theorem dX3_valueOfBlock_9 : decode cX3_valueOfBlock 9 = .ok (.aload_n 0, 1) := by decide +kernel
theorem dX3_valueOfBlock_10 : decode cX3_valueOfBlock 10 = .ok (.iload_n 1, 1) := by decide +kernel
theorem dX3_valueOfBlock_11 : decode cX3_valueOfBlock 11 = .ok (.aload_n 0, 1) := by decide +kernel
theorem dX3_valueOfBlock_12 : decode cX3_valueOfBlock 12 = .ok (.getfield 15, 3) := by decide +kernel
theorem dX3_valueOfBlock_15 : decode cX3_valueOfBlock 15 = .ok (.isub, 1) := by decide +kernel
theorem dX3_valueOfBlock_16 : decode cX3_valueOfBlock 16 = .ok (.invokevirtual 32, 3) := by decide +kernel
theorem dX3_valueOfBlock_19 : decode cX3_valueOfBlock 19 = .ok (.invokevirtual 35, 3) := by decide +kernel
theorem dX3_valueOfBlock_22 : decode cX3_valueOfBlock 22 = .ok (.ireturn, 1) := by decide +kernel
theorem dX3_valueOfBlock_23 : decode cX3_valueOfBlock 23 = .ok (.aload_n 0, 1) := by decide +kernel
theorem dX3_valueOfBlock_24 : decode cX3_valueOfBlock 24 = .ok (.iload_n 1, 1) := by decide +kernel
theorem dX3_valueOfBlock_25 : decode cX3_valueOfBlock 25 = .ok (.invokestatic 28, 3) := by decide +kernel
theorem dX3_valueOfBlock_28 : decode cX3_valueOfBlock 28 = .ok (.invokevirtual 35, 3) := by decide +kernel
theorem dX3_valueOfBlock_31 : decode cX3_valueOfBlock 31 = .ok (.ireturn, 1) := by decide +kernel
set_option maxRecDepth 20000 in
theorem ggX3_valueOfSet_X3_valueOfSources : GoodIn wsX3_valueOfSet wsX3_valueOfSources := goodIn_r _ [6, 1, 7, 8, 9, 10, 11, 12, 13, 27, 28, 29] (by decide +kernel) (by decide +kernel)
set_option maxRecDepth 20000 in
theorem gX3_valueOfSet_X3_valueOfSources : GoodIn wsX3_valueOfSet (wsV RX3 35 RX3 yX3_valueOfSources wsX3_valueOfSources) := goodIn_app (goodIn_of _ (by decide +kernel)) ggX3_valueOfSet_X3_valueOfSources
set_option maxRecDepth 20000 in
theorem ggX3_valueOfSet_X3_blockCount : GoodIn wsX3_valueOfSet wsX3_blockCount := goodIn_r _ [17, 1, 18, 27, 28, 29] (by decide +kernel) (by decide +kernel)
set_option maxRecDepth 20000 in
theorem gX3_valueOfSet_X3_blockCount : GoodIn wsX3_valueOfSet (wsV RX3 39 RX3 yX3_blockCount wsX3_blockCount) := goodIn_app (goodIn_of _ (by decide +kernel)) ggX3_valueOfSet_X3_blockCount
set_option maxRecDepth 20000 in
theorem ggX3_valueOfSet_X5_holds : GoodIn wsX3_valueOfSet wsX5_holds := goodIn_r _ [10, 11, 12, 9, 13] (by decide +kernel) (by decide +kernel)
set_option maxRecDepth 20000 in
theorem gX3_valueOfSet_X5_holds_n43 : GoodIn wsX3_valueOfSet (wsX5_holds) := ggX3_valueOfSet_X5_holds
set_option maxRecDepth 20000 in
theorem ggX3_valueOfSet_X3_valueOfBlock : GoodIn wsX3_valueOfSet wsX3_valueOfBlock := goodIn_r _ [22, 1, 23, 24, 25, 5, 26, 12, 9, 13, 2, 3, 4, 6, 7, 8, 10, 11, 27, 28, 29] (by decide +kernel) (by decide +kernel)
set_option maxRecDepth 20000 in
theorem gX3_valueOfSet_X3_valueOfBlock : GoodIn wsX3_valueOfSet (wsV RX3 47 RX3 yX3_valueOfBlock wsX3_valueOfBlock) := goodIn_app (goodIn_of _ (by decide +kernel)) ggX3_valueOfSet_X3_valueOfBlock
theorem dX3_valueOfSet_0 : decode cX3_valueOfSet 0 = .ok (.aload_n 0, 1) := by decide +kernel
theorem dX3_valueOfSet_1 : decode cX3_valueOfSet 1 = .ok (.lload_n 1, 1) := by decide +kernel
theorem dX3_valueOfSet_2 : decode cX3_valueOfSet 2 = .ok (.invokevirtual 35, 3) := by decide +kernel
theorem dX3_valueOfSet_5 : decode cX3_valueOfSet 5 = .ok (.istore_n 3, 1) := by decide +kernel
theorem dX3_valueOfSet_6 : decode cX3_valueOfSet 6 = .ok (.aload_n 0, 1) := by decide +kernel
theorem dX3_valueOfSet_7 : decode cX3_valueOfSet 7 = .ok (.getfield 15, 3) := by decide +kernel
theorem dX3_valueOfSet_10 : decode cX3_valueOfSet 10 = .ok (.istore 4, 2) := by decide +kernel
theorem dX3_valueOfSet_12 : decode cX3_valueOfSet 12 = .ok (.iload 4, 2) := by decide +kernel
theorem dX3_valueOfSet_14 : decode cX3_valueOfSet 14 = .ok (.aload_n 0, 1) := by decide +kernel
theorem dX3_valueOfSet_15 : decode cX3_valueOfSet 15 = .ok (.invokevirtual 39, 3) := by decide +kernel
theorem dX3_valueOfSet_18 : decode cX3_valueOfSet 18 = .ok (.if_icmp .ge 27, 3) := by decide +kernel
theorem dX3_valueOfSet_21 : decode cX3_valueOfSet 21 = .ok (.lload_n 1, 1) := by decide +kernel
theorem dX3_valueOfSet_22 : decode cX3_valueOfSet 22 = .ok (.iload 4, 2) := by decide +kernel
theorem dX3_valueOfSet_24 : decode cX3_valueOfSet 24 = .ok (.invokestatic 43, 3) := by decide +kernel
theorem dX3_valueOfSet_27 : decode cX3_valueOfSet 27 = .ok (.ifCond .eq 12, 3) := by decide +kernel
theorem dX3_valueOfSet_30 : decode cX3_valueOfSet 30 = .ok (.iload_n 3, 1) := by decide +kernel
theorem dX3_valueOfSet_31 : decode cX3_valueOfSet 31 = .ok (.aload_n 0, 1) := by decide +kernel
theorem dX3_valueOfSet_32 : decode cX3_valueOfSet 32 = .ok (.iload 4, 2) := by decide +kernel
theorem dX3_valueOfSet_34 : decode cX3_valueOfSet 34 = .ok (.invokevirtual 47, 3) := by decide +kernel
theorem dX3_valueOfSet_37 : decode cX3_valueOfSet 37 = .ok (.ixor, 1) := by decide +kernel
theorem dX3_valueOfSet_38 : decode cX3_valueOfSet 38 = .ok (.istore_n 3, 1) := by decide +kernel
theorem dX3_valueOfSet_39 : decode cX3_valueOfSet 39 = .ok (.iinc 4 1, 3) := by decide +kernel
theorem dX3_valueOfSet_42 : decode cX3_valueOfSet 42 = .ok (.goto (-30), 3) := by decide +kernel
theorem dX3_valueOfSet_45 : decode cX3_valueOfSet 45 = .ok (.iload_n 3, 1) := by decide +kernel
theorem dX3_valueOfSet_46 : decode cX3_valueOfSet 46 = .ok (.ireturn, 1) := by decide +kernel
set_option maxRecDepth 20000 in
theorem ggX3_valueOfSources_X5_holds : GoodIn wsX3_valueOfSources wsX5_holds := goodIn_r _ [5, 6, 7, 4, 8] (by decide +kernel) (by decide +kernel)
set_option maxRecDepth 20000 in
theorem gX3_valueOfSources_X5_holds_n43 : GoodIn wsX3_valueOfSources (wsX5_holds) := ggX3_valueOfSources_X5_holds
theorem dX3_valueOfSources_0 : decode cX3_valueOfSources 0 = .ok (.iconst 0, 1) := by decide +kernel
theorem dX3_valueOfSources_1 : decode cX3_valueOfSources 1 = .ok (.istore_n 3, 1) := by decide +kernel
theorem dX3_valueOfSources_2 : decode cX3_valueOfSources 2 = .ok (.iconst 0, 1) := by decide +kernel
theorem dX3_valueOfSources_3 : decode cX3_valueOfSources 3 = .ok (.istore 4, 2) := by decide +kernel
theorem dX3_valueOfSources_5 : decode cX3_valueOfSources 5 = .ok (.iload 4, 2) := by decide +kernel
theorem dX3_valueOfSources_7 : decode cX3_valueOfSources 7 = .ok (.aload_n 0, 1) := by decide +kernel
theorem dX3_valueOfSources_8 : decode cX3_valueOfSources 8 = .ok (.getfield 15, 3) := by decide +kernel
theorem dX3_valueOfSources_11 : decode cX3_valueOfSources 11 = .ok (.if_icmp .ge 38, 3) := by decide +kernel
theorem dX3_valueOfSources_14 : decode cX3_valueOfSources 14 = .ok (.iload 4, 2) := by decide +kernel
theorem dX3_valueOfSources_16 : decode cX3_valueOfSources 16 = .ok (.aload_n 0, 1) := by decide +kernel
theorem dX3_valueOfSources_17 : decode cX3_valueOfSources 17 = .ok (.getfield 9, 3) := by decide +kernel
theorem dX3_valueOfSources_20 : decode cX3_valueOfSources 20 = .ok (.arraylength, 1) := by decide +kernel
theorem dX3_valueOfSources_21 : decode cX3_valueOfSources 21 = .ok (.if_icmp .ge 28, 3) := by decide +kernel
theorem dX3_valueOfSources_24 : decode cX3_valueOfSources 24 = .ok (.lload_n 1, 1) := by decide +kernel
theorem dX3_valueOfSources_25 : decode cX3_valueOfSources 25 = .ok (.iload 4, 2) := by decide +kernel
theorem dX3_valueOfSources_27 : decode cX3_valueOfSources 27 = .ok (.invokestatic 43, 3) := by decide +kernel
theorem dX3_valueOfSources_30 : decode cX3_valueOfSources 30 = .ok (.ifCond .eq 13, 3) := by decide +kernel
theorem dX3_valueOfSources_33 : decode cX3_valueOfSources 33 = .ok (.iload_n 3, 1) := by decide +kernel
theorem dX3_valueOfSources_34 : decode cX3_valueOfSources 34 = .ok (.aload_n 0, 1) := by decide +kernel
theorem dX3_valueOfSources_35 : decode cX3_valueOfSources 35 = .ok (.getfield 9, 3) := by decide +kernel
theorem dX3_valueOfSources_38 : decode cX3_valueOfSources 38 = .ok (.iload 4, 2) := by decide +kernel
theorem dX3_valueOfSources_40 : decode cX3_valueOfSources 40 = .ok (.iaload, 1) := by decide +kernel
theorem dX3_valueOfSources_41 : decode cX3_valueOfSources 41 = .ok (.ixor, 1) := by decide +kernel
theorem dX3_valueOfSources_42 : decode cX3_valueOfSources 42 = .ok (.istore_n 3, 1) := by decide +kernel
theorem dX3_valueOfSources_43 : decode cX3_valueOfSources 43 = .ok (.iinc 4 1, 3) := by decide +kernel
theorem dX3_valueOfSources_46 : decode cX3_valueOfSources 46 = .ok (.goto (-41), 3) := by decide +kernel
theorem dX3_valueOfSources_49 : decode cX3_valueOfSources 49 = .ok (.iload_n 3, 1) := by decide +kernel
theorem dX3_valueOfSources_50 : decode cX3_valueOfSources 50 = .ok (.ireturn, 1) := by decide +kernel
theorem dX4_init_0 : decode cX4_init 0 = .ok (.aload_n 0, 1) := by decide +kernel
theorem dX4_init_1 : decode cX4_init 1 = .ok (.invokespecial 3, 3) := by decide +kernel
theorem dX4_init_4 : decode cX4_init 4 = .ok (.aload_n 0, 1) := by decide +kernel
theorem dX4_init_5 : decode cX4_init 5 = .ok (.getstatic 9, 3) := by decide +kernel
theorem dX4_init_8 : decode cX4_init 8 = .ok (.invokevirtual 15, 3) := by decide +kernel
theorem dX4_init_11 : decode cX4_init 11 = .ok (.checkcast 16, 3) := by decide +kernel
theorem dX4_init_14 : decode cX4_init 14 = .ok (.putfield 20, 3) := by decide +kernel
theorem dX4_init_17 : decode cX4_init 17 = .ok (.return_, 1) := by decide +kernel
theorem dX4_sum_0 : decode cX4_sum 0 = .ok (.iconst 0, 1) := by decide +kernel
theorem dX4_sum_1 : decode cX4_sum 1 = .ok (.istore_n 1, 1) := by decide +kernel
theorem dX4_sum_2 : decode cX4_sum 2 = .ok (.iconst 0, 1) := by decide +kernel
theorem dX4_sum_3 : decode cX4_sum 3 = .ok (.istore_n 2, 1) := by decide +kernel
theorem dX4_sum_4 : decode cX4_sum 4 = .ok (.iload_n 2, 1) := by decide +kernel
theorem dX4_sum_5 : decode cX4_sum 5 = .ok (.aload_n 0, 1) := by decide +kernel
theorem dX4_sum_6 : decode cX4_sum 6 = .ok (.getfield 20, 3) := by decide +kernel
theorem dX4_sum_9 : decode cX4_sum 9 = .ok (.arraylength, 1) := by decide +kernel
theorem dX4_sum_10 : decode cX4_sum 10 = .ok (.if_icmp .ge 18, 3) := by decide +kernel
theorem dX4_sum_13 : decode cX4_sum 13 = .ok (.iload_n 1, 1) := by decide +kernel
theorem dX4_sum_14 : decode cX4_sum 14 = .ok (.aload_n 0, 1) := by decide +kernel
theorem dX4_sum_15 : decode cX4_sum 15 = .ok (.getfield 20, 3) := by decide +kernel
theorem dX4_sum_18 : decode cX4_sum 18 = .ok (.iload_n 2, 1) := by decide +kernel
theorem dX4_sum_19 : decode cX4_sum 19 = .ok (.iaload, 1) := by decide +kernel
theorem dX4_sum_20 : decode cX4_sum 20 = .ok (.iadd, 1) := by decide +kernel
theorem dX4_sum_21 : decode cX4_sum 21 = .ok (.istore_n 1, 1) := by decide +kernel
theorem dX4_sum_22 : decode cX4_sum 22 = .ok (.iinc 2 1, 3) := by decide +kernel
theorem dX4_sum_25 : decode cX4_sum 25 = .ok (.goto (-21), 3) := by decide +kernel
theorem dX4_sum_28 : decode cX4_sum 28 = .ok (.iload_n 1, 1) := by decide +kernel
theorem dX4_sum_29 : decode cX4_sum 29 = .ok (.ireturn, 1) := by decide +kernel
theorem dX4_weightOf_0 : decode cX4_weightOf 0 = .ok (.iload_n 1, 1) := by decide +kernel
theorem dX4_weightOf_1 : decode cX4_weightOf 1 = .ok (.iconst 1, 1) := by decide +kernel
theorem dX4_weightOf_2 : decode cX4_weightOf 2 = .ok (.isub, 1) := by decide +kernel
theorem dX4_weightOf_3 : decode cX4_weightOf 3 = .ok (.istore_n 2, 1) := by decide +kernel
theorem dX4_weightOf_4 : decode cX4_weightOf 4 = .ok (.iload_n 2, 1) := by decide +kernel
theorem dX4_weightOf_5 : decode cX4_weightOf 5 = .ok (.ifCond .lt 21, 3) := by decide +kernel
theorem dX4_weightOf_8 : decode cX4_weightOf 8 = .ok (.iload_n 2, 1) := by decide +kernel
theorem dX4_weightOf_9 : decode cX4_weightOf 9 = .ok (.aload_n 0, 1) := by decide +kernel
theorem dX4_weightOf_10 : decode cX4_weightOf 10 = .ok (.getfield 20, 3) := by decide +kernel
theorem dX4_weightOf_13 : decode cX4_weightOf 13 = .ok (.arraylength, 1) := by decide +kernel
theorem dX4_weightOf_14 : decode cX4_weightOf 14 = .ok (.if_icmp .ge 12, 3) := by decide +kernel
theorem dX4_weightOf_17 : decode cX4_weightOf 17 = .ok (.aload_n 0, 1) := by decide +kernel
theorem dX4_weightOf_18 : decode cX4_weightOf 18 = .ok (.getfield 20, 3) := by decide +kernel
theorem dX4_weightOf_21 : decode cX4_weightOf 21 = .ok (.iload_n 2, 1) := by decide +kernel
theorem dX4_weightOf_22 : decode cX4_weightOf 22 = .ok (.iaload, 1) := by decide +kernel
theorem dX4_weightOf_23 : decode cX4_weightOf 23 = .ok (.goto 4, 3) := by decide +kernel
theorem dX4_weightOf_26 : decode cX4_weightOf 26 = .ok (.iconst 0, 1) := by decide +kernel
theorem dX4_weightOf_27 : decode cX4_weightOf 27 = .ok (.ireturn, 1) := by decide +kernel
theorem dX4_change_0 : decode cX4_change 0 = .ok (.iload_n 1, 1) := by decide +kernel
theorem dX4_change_1 : decode cX4_change 1 = .ok (.iconst 1, 1) := by decide +kernel
theorem dX4_change_2 : decode cX4_change 2 = .ok (.isub, 1) := by decide +kernel
theorem dX4_change_3 : decode cX4_change 3 = .ok (.istore_n 3, 1) := by decide +kernel
theorem dX4_change_4 : decode cX4_change 4 = .ok (.iload_n 3, 1) := by decide +kernel
theorem dX4_change_5 : decode cX4_change 5 = .ok (.ifCond .lt 19, 3) := by decide +kernel
theorem dX4_change_8 : decode cX4_change 8 = .ok (.iload_n 3, 1) := by decide +kernel
theorem dX4_change_9 : decode cX4_change 9 = .ok (.aload_n 0, 1) := by decide +kernel
theorem dX4_change_10 : decode cX4_change 10 = .ok (.getfield 20, 3) := by decide +kernel
theorem dX4_change_13 : decode cX4_change 13 = .ok (.arraylength, 1) := by decide +kernel
theorem dX4_change_14 : decode cX4_change 14 = .ok (.if_icmp .ge 10, 3) := by decide +kernel
theorem dX4_change_17 : decode cX4_change 17 = .ok (.aload_n 0, 1) := by decide +kernel
theorem dX4_change_18 : decode cX4_change 18 = .ok (.getfield 20, 3) := by decide +kernel
theorem dX4_change_21 : decode cX4_change 21 = .ok (.iload_n 3, 1) := by decide +kernel
theorem dX4_change_22 : decode cX4_change 22 = .ok (.iload_n 2, 1) := by decide +kernel
theorem dX4_change_23 : decode cX4_change 23 = .ok (.iastore, 1) := by decide +kernel
theorem dX4_change_24 : decode cX4_change 24 = .ok (.return_, 1) := by decide +kernel
theorem dX4_degreeFor_0 : decode cX4_degreeFor 0 = .ok (.iconst 0, 1) := by decide +kernel
theorem dX4_degreeFor_1 : decode cX4_degreeFor 1 = .ok (.istore_n 2, 1) := by decide +kernel
theorem dX4_degreeFor_2 : decode cX4_degreeFor 2 = .ok (.iconst 0, 1) := by decide +kernel
theorem dX4_degreeFor_3 : decode cX4_degreeFor 3 = .ok (.istore_n 3, 1) := by decide +kernel
theorem dX4_degreeFor_4 : decode cX4_degreeFor 4 = .ok (.iload_n 3, 1) := by decide +kernel
theorem dX4_degreeFor_5 : decode cX4_degreeFor 5 = .ok (.aload_n 0, 1) := by decide +kernel
theorem dX4_degreeFor_6 : decode cX4_degreeFor 6 = .ok (.getfield 20, 3) := by decide +kernel
theorem dX4_degreeFor_9 : decode cX4_degreeFor 9 = .ok (.arraylength, 1) := by decide +kernel
theorem dX4_degreeFor_10 : decode cX4_degreeFor 10 = .ok (.if_icmp .ge 27, 3) := by decide +kernel
theorem dX4_degreeFor_13 : decode cX4_degreeFor 13 = .ok (.iload_n 2, 1) := by decide +kernel
theorem dX4_degreeFor_14 : decode cX4_degreeFor 14 = .ok (.aload_n 0, 1) := by decide +kernel
theorem dX4_degreeFor_15 : decode cX4_degreeFor 15 = .ok (.getfield 20, 3) := by decide +kernel
theorem dX4_degreeFor_18 : decode cX4_degreeFor 18 = .ok (.iload_n 3, 1) := by decide +kernel
theorem dX4_degreeFor_19 : decode cX4_degreeFor 19 = .ok (.iaload, 1) := by decide +kernel
theorem dX4_degreeFor_20 : decode cX4_degreeFor 20 = .ok (.iadd, 1) := by decide +kernel
theorem dX4_degreeFor_21 : decode cX4_degreeFor 21 = .ok (.istore_n 2, 1) := by decide +kernel
theorem dX4_degreeFor_22 : decode cX4_degreeFor 22 = .ok (.iload_n 2, 1) := by decide +kernel
theorem dX4_degreeFor_23 : decode cX4_degreeFor 23 = .ok (.iload_n 1, 1) := by decide +kernel
theorem dX4_degreeFor_24 : decode cX4_degreeFor 24 = .ok (.if_icmp .le 7, 3) := by decide +kernel
theorem dX4_degreeFor_27 : decode cX4_degreeFor 27 = .ok (.iload_n 3, 1) := by decide +kernel
theorem dX4_degreeFor_28 : decode cX4_degreeFor 28 = .ok (.iconst 1, 1) := by decide +kernel
theorem dX4_degreeFor_29 : decode cX4_degreeFor 29 = .ok (.iadd, 1) := by decide +kernel
theorem dX4_degreeFor_30 : decode cX4_degreeFor 30 = .ok (.ireturn, 1) := by decide +kernel
theorem dX4_degreeFor_31 : decode cX4_degreeFor 31 = .ok (.iinc 3 1, 3) := by decide +kernel
theorem dX4_degreeFor_34 : decode cX4_degreeFor 34 = .ok (.goto (-30), 3) := by decide +kernel
theorem dX4_degreeFor_37 : decode cX4_degreeFor 37 = .ok (.bipush 12, 2) := by decide +kernel
theorem dX4_degreeFor_39 : decode cX4_degreeFor 39 = .ok (.ireturn, 1) := by decide +kernel
set_option maxRecDepth 20000 in
theorem ggX5_init_X4_init : GoodIn wsX5_init wsX4_init := goodIn_r _ [25, 26, 2, 3, 27, 28, 29, 30, 31, 32, 33, 34, 140] (by decide +kernel) (by decide +kernel)
set_option maxRecDepth 20000 in
theorem gX5_init_X4_init_n11 : GoodIn wsX5_init (wsX4_init) := ggX5_init_X4_init
set_option maxRecDepth 20000 in
theorem ggX5_init_X3_init : GoodIn wsX5_init wsX3_init := goodIn_r _ [36, 37, 2, 3, 38, 39, 146, 147, 148] (by decide +kernel) (by decide +kernel)
set_option maxRecDepth 20000 in
theorem gX5_init_X3_init_n18 : GoodIn wsX5_init (wsX3_init) := ggX5_init_X3_init
set_option maxRecDepth 20000 in
theorem ggX5_init_X2_init : GoodIn wsX5_init wsX2_init := goodIn_r _ [41, 42, 2, 3, 43, 44, 38, 45, 46, 149, 150, 151, 152, 153, 154] (by decide +kernel) (by decide +kernel)
set_option maxRecDepth 20000 in
theorem gX5_init_X2_init_n25 : GoodIn wsX5_init (wsX2_init) := ggX5_init_X2_init
set_option maxRecDepth 20000 in
theorem ggX5_init_X1_init : GoodIn wsX5_init wsX1_init := goodIn_r _ [48, 49, 2, 3, 43, 50, 38, 51, 155, 156, 157] (by decide +kernel) (by decide +kernel)
set_option maxRecDepth 20000 in
theorem gX5_init_X1_init_n32 : GoodIn wsX5_init (wsX1_init) := ggX5_init_X1_init
set_option maxRecDepth 20000 in
theorem ggX5_init_X0_init : GoodIn wsX5_init wsX0_init := goodIn_r _ [53, 54, 2, 3, 38, 55, 158, 159, 160, 161] (by decide +kernel) (by decide +kernel)
set_option maxRecDepth 20000 in
theorem gX5_init_X0_init_n39 : GoodIn wsX5_init (wsX0_init) := ggX5_init_X0_init
set_option maxRecDepth 20000 in
theorem ggX5_init_X5_beginTransfer : GoodIn wsX5_init wsX5_beginTransfer := goodIn_r _ [60, 11, 15, 19, 61, 62, 63, 10, 64, 65, 66, 39, 67, 68, 69, 70, 71, 72, 73, 14, 74, 75, 76, 77, 46, 78, 79, 80, 81, 18, 82, 83, 50, 51, 84, 85, 86, 87, 88, 89, 59, 90, 91, 92, 93, 94, 95, 96, 97, 98, 99, 100, 101, 102, 44, 103, 104, 105, 106, 107, 108, 109, 110, 111, 112, 113, 114, 115, 116, 117, 118, 119, 120, 121, 122, 123, 124, 125, 126, 127, 128, 129, 130, 131, 132, 133, 134, 135, 136, 137, 138, 139, 45, 141, 142, 143, 144, 145, 146, 147, 148, 149, 150, 151, 152, 153, 154, 155, 156, 157] (by decide +kernel) (by decide +kernel)
set_option maxRecDepth 20000 in
theorem gX5_init_X5_beginTransfer : GoodIn wsX5_init (wsV RX5 44 RX5 yX5_beginTransfer wsX5_beginTransfer) := goodIn_app (goodIn_of _ (by decide +kernel)) ggX5_init_X5_beginTransfer
theorem dX5_init_0 : decode cX5_init 0 = .ok (.aload_n 0, 1) := by decide +kernel
theorem dX5_init_1 : decode cX5_init 1 = .ok (.invokespecial 3, 3) := by decide +kernel
theorem dX5_init_4 : decode cX5_init 4 = .ok (.aload_n 0, 1) := by decide +kernel
theorem dX5_init_5 : decode cX5_init 5 = .ok (.new 9, 3) := by decide +kernel
theorem dX5_init_8 : decode cX5_init 8 = .ok (.dup, 1) := by decide +kernel
theorem dX5_init_9 : decode cX5_init 9 = .ok (.invokespecial 11, 3) := by decide +kernel
theorem dX5_init_12 : decode cX5_init 12 = .ok (.putfield 12, 3) := by decide +kernel
theorem dX5_init_15 : decode cX5_init 15 = .ok (.aload_n 0, 1) := by decide +kernel
theorem dX5_init_16 : decode cX5_init 16 = .ok (.new 16, 3) := by decide +kernel
theorem dX5_init_19 : decode cX5_init 19 = .ok (.dup, 1) := by decide +kernel
theorem dX5_init_20 : decode cX5_init 20 = .ok (.invokespecial 18, 3) := by decide +kernel
theorem dX5_init_23 : decode cX5_init 23 = .ok (.putfield 19, 3) := by decide +kernel
theorem dX5_init_26 : decode cX5_init 26 = .ok (.aload_n 0, 1) := by decide +kernel
theorem dX5_init_27 : decode cX5_init 27 = .ok (.new 23, 3) := by decide +kernel
theorem dX5_init_30 : decode cX5_init 30 = .ok (.dup, 1) := by decide +kernel
theorem dX5_init_31 : decode cX5_init 31 = .ok (.invokespecial 25, 3) := by decide +kernel
theorem dX5_init_34 : decode cX5_init 34 = .ok (.putfield 26, 3) := by decide +kernel
theorem dX5_init_37 : decode cX5_init 37 = .ok (.aload_n 0, 1) := by decide +kernel
theorem dX5_init_38 : decode cX5_init 38 = .ok (.new 30, 3) := by decide +kernel
theorem dX5_init_41 : decode cX5_init 41 = .ok (.dup, 1) := by decide +kernel
theorem dX5_init_42 : decode cX5_init 42 = .ok (.invokespecial 32, 3) := by decide +kernel
theorem dX5_init_45 : decode cX5_init 45 = .ok (.putfield 33, 3) := by decide +kernel
theorem dX5_init_48 : decode cX5_init 48 = .ok (.aload_n 0, 1) := by decide +kernel
theorem dX5_init_49 : decode cX5_init 49 = .ok (.new 37, 3) := by decide +kernel
theorem dX5_init_52 : decode cX5_init 52 = .ok (.dup, 1) := by decide +kernel
theorem dX5_init_53 : decode cX5_init 53 = .ok (.invokespecial 39, 3) := by decide +kernel
theorem dX5_init_56 : decode cX5_init 56 = .ok (.putfield 40, 3) := by decide +kernel
theorem dX5_init_59 : decode cX5_init 59 = .ok (.aload_n 0, 1) := by decide +kernel
theorem dX5_init_60 : decode cX5_init 60 = .ok (.iconst 1, 1) := by decide +kernel
theorem dX5_init_61 : decode cX5_init 61 = .ok (.iconst 0, 1) := by decide +kernel
theorem dX5_init_62 : decode cX5_init 62 = .ok (.invokevirtual 44, 3) := by decide +kernel
theorem dX5_init_65 : decode cX5_init 65 = .ok (.pop, 1) := by decide +kernel
theorem dX5_init_66 : decode cX5_init 66 = .ok (.return_, 1) := by decide +kernel
set_option maxRecDepth 20000 in
theorem ggX5_start_X5_beginTransfer : GoodIn wsX5_start wsX5_beginTransfer := goodIn_r _ [7, 8, 9, 10, 11, 12, 13, 14, 15, 16, 17, 18, 19, 20, 21, 22, 23, 24, 25, 26, 27, 28, 29, 30, 31, 32, 33, 34, 35, 36, 37, 38, 39, 40, 41, 42, 43, 44, 45, 46, 6, 47, 48, 49, 50, 51, 52, 53, 54, 55, 56, 57, 58, 59, 60, 61, 62, 63, 64, 65, 66, 67, 68, 69, 70, 71, 72, 73, 74, 75, 76, 77, 78, 79, 80, 81, 82, 83, 84, 85, 86, 87, 88, 89, 90, 91, 92, 93, 94, 95, 96, 97, 98, 99, 100, 101, 102, 103, 104, 105, 106, 107, 108, 109, 110, 111, 112, 113, 114, 115] (by decide +kernel) (by decide +kernel)
set_option maxRecDepth 20000 in
theorem gX5_start_X5_beginTransfer : GoodIn wsX5_start (wsV RX5 44 RX5 yX5_beginTransfer wsX5_beginTransfer) := goodIn_app (goodIn_of _ (by decide +kernel)) ggX5_start_X5_beginTransfer
theorem dX5_start_0 : decode cX5_start 0 = .ok (.iload_n 1, 1) := by decide +kernel
theorem dX5_start_1 : decode cX5_start 1 = .ok (.iconst 1, 1) := by decide +kernel
theorem dX5_start_2 : decode cX5_start 2 = .ok (.if_icmp .lt 19, 3) := by decide +kernel
theorem dX5_start_5 : decode cX5_start 5 = .ok (.iload_n 1, 1) := by decide +kernel
theorem dX5_start_6 : decode cX5_start 6 = .ok (.bipush 32, 2) := by decide +kernel
theorem dX5_start_8 : decode cX5_start 8 = .ok (.if_icmp .gt 13, 3) := by decide +kernel
theorem dX5_start_11 : decode cX5_start 11 = .ok (.iload_n 2, 1) := by decide +kernel
theorem dX5_start_12 : decode cX5_start 12 = .ok (.ifCond .lt 9, 3) := by decide +kernel
theorem dX5_start_15 : decode cX5_start 15 = .ok (.iload_n 2, 1) := by decide +kernel
theorem dX5_start_16 : decode cX5_start 16 = .ok (.bipush 6, 2) := by decide +kernel
theorem dX5_start_18 : decode cX5_start 18 = .ok (.if_icmp .le 13, 3) := by decide +kernel
theorem dX5_start_21 : decode cX5_start 21 = .ok (.new 48, 3) := by decide +kernel
theorem dX5_start_24 : decode cX5_start 24 = .ok (.dup, 1) := by decide +kernel
theorem dX5_start_25 : decode cX5_start 25 = .ok (.ldc 50, 2) := by decide +kernel
theorem dX5_start_27 : decode cX5_start 27 = .ok (.invokespecial 52, 3) := by decide +kernel
theorem dX5_start_30 : decode cX5_start 30 = .ok (.athrow, 1) := by decide +kernel
theorem dX5_start_31 : decode cX5_start 31 = .ok (.aload_n 0, 1) := by decide +kernel
theorem dX5_start_32 : decode cX5_start 32 = .ok (.iload_n 1, 1) := by decide +kernel
theorem dX5_start_33 : decode cX5_start 33 = .ok (.iload_n 2, 1) := by decide +kernel
theorem dX5_start_34 : decode cX5_start 34 = .ok (.invokevirtual 44, 3) := by decide +kernel
theorem dX5_start_37 : decode cX5_start 37 = .ok (.ireturn, 1) := by decide +kernel
set_option maxRecDepth 20000 in
theorem ggX5_setWeight_X4_weightOf : GoodIn wsX5_setWeight wsX4_weightOf := goodIn_r _ [10, 11, 25] (by decide +kernel) (by decide +kernel)
set_option maxRecDepth 20000 in
theorem gX5_setWeight_X4_weightOf : GoodIn wsX5_setWeight (wsV RX5 57 RX4 yX4_weightOf wsX4_weightOf) := goodIn_app (goodIn_of _ (by decide +kernel)) ggX5_setWeight_X4_weightOf
set_option maxRecDepth 20000 in
theorem ggX5_setWeight_X4_sum : GoodIn wsX5_setWeight wsX4_sum := goodIn_r _ [15, 11, 25] (by decide +kernel) (by decide +kernel)
set_option maxRecDepth 20000 in
theorem gX5_setWeight_X4_sum : GoodIn wsX5_setWeight (wsV RX5 61 RX4 yX4_sum wsX4_sum) := goodIn_app (goodIn_of _ (by decide +kernel)) ggX5_setWeight_X4_sum
set_option maxRecDepth 20000 in
theorem ggX5_setWeight_X4_change : GoodIn wsX5_setWeight wsX4_change := goodIn_r _ [19, 11, 25] (by decide +kernel) (by decide +kernel)
set_option maxRecDepth 20000 in
theorem gX5_setWeight_X4_change : GoodIn wsX5_setWeight (wsV RX5 70 RX4 yX4_change wsX4_change) := goodIn_app (goodIn_of _ (by decide +kernel)) ggX5_setWeight_X4_change
theorem dX5_setWeight_0 : decode cX5_setWeight 0 = .ok (.iload_n 1, 1) := by decide +kernel
theorem dX5_setWeight_1 : decode cX5_setWeight 1 = .ok (.iconst 1, 1) := by decide +kernel
theorem dX5_setWeight_2 : decode cX5_setWeight 2 = .ok (.if_icmp .lt 20, 3) := by decide +kernel
theorem dX5_setWeight_5 : decode cX5_setWeight 5 = .ok (.iload_n 1, 1) := by decide +kernel
theorem dX5_setWeight_6 : decode cX5_setWeight 6 = .ok (.bipush 12, 2) := by decide +kernel
theorem dX5_setWeight_8 : decode cX5_setWeight 8 = .ok (.if_icmp .gt 14, 3) := by decide +kernel
theorem dX5_setWeight_11 : decode cX5_setWeight 11 = .ok (.iload_n 2, 1) := by decide +kernel
theorem dX5_setWeight_12 : decode cX5_setWeight 12 = .ok (.ifCond .lt 10, 3) := by decide +kernel
theorem dX5_setWeight_15 : decode cX5_setWeight 15 = .ok (.iload_n 2, 1) := by decide +kernel
theorem dX5_setWeight_16 : decode cX5_setWeight 16 = .ok (.sipush 1000, 3) := by decide +kernel
theorem dX5_setWeight_19 : decode cX5_setWeight 19 = .ok (.if_icmp .le 13, 3) := by decide +kernel
theorem dX5_setWeight_22 : decode cX5_setWeight 22 = .ok (.new 48, 3) := by decide +kernel
theorem dX5_setWeight_25 : decode cX5_setWeight 25 = .ok (.dup, 1) := by decide +kernel
theorem dX5_setWeight_26 : decode cX5_setWeight 26 = .ok (.ldc 55, 2) := by decide +kernel
theorem dX5_setWeight_28 : decode cX5_setWeight 28 = .ok (.invokespecial 52, 3) := by decide +kernel
theorem dX5_setWeight_31 : decode cX5_setWeight 31 = .ok (.athrow, 1) := by decide +kernel
theorem dX5_setWeight_32 : decode cX5_setWeight 32 = .ok (.aload_n 0, 1) := by decide +kernel
theorem dX5_setWeight_33 : decode cX5_setWeight 33 = .ok (.getfield 12, 3) := by decide +kernel
theorem dX5_setWeight_36 : decode cX5_setWeight 36 = .ok (.iload_n 1, 1) := by decide +kernel
theorem dX5_setWeight_37 : decode cX5_setWeight 37 = .ok (.invokevirtual 57, 3) := by decide +kernel
theorem dX5_setWeight_40 : decode cX5_setWeight 40 = .ok (.istore_n 3, 1) := by decide +kernel
theorem dX5_setWeight_41 : decode cX5_setWeight 41 = .ok (.aload_n 0, 1) := by decide +kernel
theorem dX5_setWeight_42 : decode cX5_setWeight 42 = .ok (.getfield 12, 3) := by decide +kernel
theorem dX5_setWeight_45 : decode cX5_setWeight 45 = .ok (.invokevirtual 61, 3) := by decide +kernel
theorem dX5_setWeight_48 : decode cX5_setWeight 48 = .ok (.iload_n 3, 1) := by decide +kernel
theorem dX5_setWeight_49 : decode cX5_setWeight 49 = .ok (.isub, 1) := by decide +kernel
theorem dX5_setWeight_50 : decode cX5_setWeight 50 = .ok (.iload_n 2, 1) := by decide +kernel
theorem dX5_setWeight_51 : decode cX5_setWeight 51 = .ok (.iadd, 1) := by decide +kernel
theorem dX5_setWeight_52 : decode cX5_setWeight 52 = .ok (.ifCond .ne 13, 3) := by decide +kernel
theorem dX5_setWeight_55 : decode cX5_setWeight 55 = .ok (.new 65, 3) := by decide +kernel
theorem dX5_setWeight_58 : decode cX5_setWeight 58 = .ok (.dup, 1) := by decide +kernel
theorem dX5_setWeight_59 : decode cX5_setWeight 59 = .ok (.ldc 67, 2) := by decide +kernel
theorem dX5_setWeight_61 : decode cX5_setWeight 61 = .ok (.invokespecial 69, 3) := by decide +kernel
theorem dX5_setWeight_64 : decode cX5_setWeight 64 = .ok (.athrow, 1) := by decide +kernel
theorem dX5_setWeight_65 : decode cX5_setWeight 65 = .ok (.aload_n 0, 1) := by decide +kernel
theorem dX5_setWeight_66 : decode cX5_setWeight 66 = .ok (.getfield 12, 3) := by decide +kernel
theorem dX5_setWeight_69 : decode cX5_setWeight 69 = .ok (.iload_n 1, 1) := by decide +kernel
theorem dX5_setWeight_70 : decode cX5_setWeight 70 = .ok (.iload_n 2, 1) := by decide +kernel
theorem dX5_setWeight_71 : decode cX5_setWeight 71 = .ok (.invokevirtual 70, 3) := by decide +kernel
theorem dX5_setWeight_74 : decode cX5_setWeight 74 = .ok (.iload_n 3, 1) := by decide +kernel
theorem dX5_setWeight_75 : decode cX5_setWeight 75 = .ok (.ireturn, 1) := by decide +kernel
set_option maxRecDepth 20000 in
theorem ggX5_setBlock_X3_sourceCount : GoodIn wsX5_setBlock wsX3_sourceCount := goodIn_r _ [8, 9, 38, 39, 40] (by decide +kernel) (by decide +kernel)
set_option maxRecDepth 20000 in
theorem gX5_setBlock_X3_sourceCount : GoodIn wsX5_setBlock (wsV RX5 74 RX3 yX3_sourceCount wsX3_sourceCount) := goodIn_app (goodIn_of _ (by decide +kernel)) ggX5_setBlock_X3_sourceCount
set_option maxRecDepth 20000 in
theorem ggX5_setBlock_X3_valueOfBlock : GoodIn wsX5_setBlock wsX3_valueOfBlock := goodIn_r _ [13, 9, 14, 15, 16, 7, 17, 18, 19, 20, 21, 22, 23, 24, 25, 26, 27, 28, 38, 39, 40] (by decide +kernel) (by decide +kernel)
set_option maxRecDepth 20000 in
theorem gX5_setBlock_X3_valueOfBlock : GoodIn wsX5_setBlock (wsV RX5 82 RX3 yX3_valueOfBlock wsX3_valueOfBlock) := goodIn_app (goodIn_of _ (by decide +kernel)) ggX5_setBlock_X3_valueOfBlock
set_option maxRecDepth 20000 in
theorem ggX5_setBlock_X3_change : GoodIn wsX5_setBlock wsX3_change := goodIn_r _ [32, 25, 38, 39, 40] (by decide +kernel) (by decide +kernel)
set_option maxRecDepth 20000 in
theorem gX5_setBlock_X3_change : GoodIn wsX5_setBlock (wsV RX5 85 RX3 yX3_change wsX3_change) := goodIn_app (goodIn_of _ (by decide +kernel)) ggX5_setBlock_X3_change
theorem dX5_setBlock_0 : decode cX5_setBlock 0 = .ok (.iload_n 1, 1) := by decide +kernel
theorem dX5_setBlock_1 : decode cX5_setBlock 1 = .ok (.ifCond .lt 14, 3) := by decide +kernel
theorem dX5_setBlock_4 : decode cX5_setBlock 4 = .ok (.iload_n 1, 1) := by decide +kernel
theorem dX5_setBlock_5 : decode cX5_setBlock 5 = .ok (.aload_n 0, 1) := by decide +kernel
theorem dX5_setBlock_6 : decode cX5_setBlock 6 = .ok (.getfield 19, 3) := by decide +kernel
theorem dX5_setBlock_9 : decode cX5_setBlock 9 = .ok (.invokevirtual 74, 3) := by decide +kernel
theorem dX5_setBlock_12 : decode cX5_setBlock 12 = .ok (.if_icmp .lt 13, 3) := by decide +kernel
theorem dX5_setBlock_15 : decode cX5_setBlock 15 = .ok (.new 77, 3) := by decide +kernel
theorem dX5_setBlock_18 : decode cX5_setBlock 18 = .ok (.dup, 1) := by decide +kernel
theorem dX5_setBlock_19 : decode cX5_setBlock 19 = .ok (.ldc 79, 2) := by decide +kernel
theorem dX5_setBlock_21 : decode cX5_setBlock 21 = .ok (.invokespecial 81, 3) := by decide +kernel
theorem dX5_setBlock_24 : decode cX5_setBlock 24 = .ok (.athrow, 1) := by decide +kernel
theorem dX5_setBlock_25 : decode cX5_setBlock 25 = .ok (.aload_n 0, 1) := by decide +kernel
theorem dX5_setBlock_26 : decode cX5_setBlock 26 = .ok (.getfield 19, 3) := by decide +kernel
theorem dX5_setBlock_29 : decode cX5_setBlock 29 = .ok (.iload_n 1, 1) := by decide +kernel
theorem dX5_setBlock_30 : decode cX5_setBlock 30 = .ok (.invokevirtual 82, 3) := by decide +kernel
theorem dX5_setBlock_33 : decode cX5_setBlock 33 = .ok (.istore_n 3, 1) := by decide +kernel
theorem dX5_setBlock_34 : decode cX5_setBlock 34 = .ok (.aload_n 0, 1) := by decide +kernel
theorem dX5_setBlock_35 : decode cX5_setBlock 35 = .ok (.getfield 19, 3) := by decide +kernel
theorem dX5_setBlock_38 : decode cX5_setBlock 38 = .ok (.iload_n 1, 1) := by decide +kernel
theorem dX5_setBlock_39 : decode cX5_setBlock 39 = .ok (.iload_n 2, 1) := by decide +kernel
theorem dX5_setBlock_40 : decode cX5_setBlock 40 = .ok (.invokevirtual 85, 3) := by decide +kernel
theorem dX5_setBlock_43 : decode cX5_setBlock 43 = .ok (.iload_n 3, 1) := by decide +kernel
theorem dX5_setBlock_44 : decode cX5_setBlock 44 = .ok (.ireturn, 1) := by decide +kernel
set_option maxRecDepth 20000 in
theorem ggX5_blocks_X3_blockCount : GoodIn wsX5_blocks wsX3_blockCount := goodIn_r _ [6, 7, 8, 14, 15, 16] (by decide +kernel) (by decide +kernel)
set_option maxRecDepth 20000 in
theorem gX5_blocks_X3_blockCount : GoodIn wsX5_blocks (wsV RX5 86 RX3 yX3_blockCount wsX3_blockCount) := goodIn_app (goodIn_of _ (by decide +kernel)) ggX5_blocks_X3_blockCount
theorem dX5_blocks_0 : decode cX5_blocks 0 = .ok (.aload_n 0, 1) := by decide +kernel
theorem dX5_blocks_1 : decode cX5_blocks 1 = .ok (.getfield 19, 3) := by decide +kernel
theorem dX5_blocks_4 : decode cX5_blocks 4 = .ok (.invokevirtual 86, 3) := by decide +kernel
theorem dX5_blocks_7 : decode cX5_blocks 7 = .ok (.ireturn, 1) := by decide +kernel
set_option maxRecDepth 20000 in
theorem ggX5_blockAt_X5_isBlock : GoodIn wsX5_blockAt wsX5_isBlock := goodIn_r _ [8, 3, 9, 10, 11, 12, 13, 14, 15, 34, 35, 36, 37, 38, 39, 40, 41] (by decide +kernel) (by decide +kernel)
set_option maxRecDepth 20000 in
theorem gX5_blockAt_X5_isBlock : GoodIn wsX5_blockAt (wsV RX5 89 RX5 yX5_isBlock wsX5_isBlock) := goodIn_app (goodIn_of _ (by decide +kernel)) ggX5_blockAt_X5_isBlock
set_option maxRecDepth 20000 in
theorem ggX5_blockAt_X3_valueOfBlock : GoodIn wsX5_blockAt wsX3_valueOfBlock := goodIn_r _ [19, 14, 20, 21, 22, 12, 23, 24, 7, 25, 26, 27, 28, 29, 30, 31, 32, 33, 39, 40, 41] (by decide +kernel) (by decide +kernel)
set_option maxRecDepth 20000 in
theorem gX5_blockAt_X3_valueOfBlock : GoodIn wsX5_blockAt (wsV RX5 82 RX3 yX3_valueOfBlock wsX3_valueOfBlock) := goodIn_app (goodIn_of _ (by decide +kernel)) ggX5_blockAt_X3_valueOfBlock
theorem dX5_blockAt_0 : decode cX5_blockAt 0 = .ok (.aload_n 0, 1) := by decide +kernel
theorem dX5_blockAt_1 : decode cX5_blockAt 1 = .ok (.iload_n 1, 1) := by decide +kernel
theorem dX5_blockAt_2 : decode cX5_blockAt 2 = .ok (.invokevirtual 89, 3) := by decide +kernel
theorem dX5_blockAt_5 : decode cX5_blockAt 5 = .ok (.ifCond .ne 13, 3) := by decide +kernel
theorem dX5_blockAt_8 : decode cX5_blockAt 8 = .ok (.new 77, 3) := by decide +kernel
theorem dX5_blockAt_11 : decode cX5_blockAt 11 = .ok (.dup, 1) := by decide +kernel
theorem dX5_blockAt_12 : decode cX5_blockAt 12 = .ok (.ldc 93, 2) := by decide +kernel
theorem dX5_blockAt_14 : decode cX5_blockAt 14 = .ok (.invokespecial 81, 3) := by decide +kernel
theorem dX5_blockAt_17 : decode cX5_blockAt 17 = .ok (.athrow, 1) := by decide +kernel
theorem dX5_blockAt_18 : decode cX5_blockAt 18 = .ok (.aload_n 0, 1) := by decide +kernel
theorem dX5_blockAt_19 : decode cX5_blockAt 19 = .ok (.getfield 19, 3) := by decide +kernel
theorem dX5_blockAt_22 : decode cX5_blockAt 22 = .ok (.iload_n 1, 1) := by decide +kernel
theorem dX5_blockAt_23 : decode cX5_blockAt 23 = .ok (.invokevirtual 82, 3) := by decide +kernel
theorem dX5_blockAt_26 : decode cX5_blockAt 26 = .ok (.ireturn, 1) := by decide +kernel
set_option maxRecDepth 20000 in
theorem ggX5_degree_X5_drawn : GoodIn wsX5_degree wsX5_drawn := goodIn_r _ [5, 6, 7, 8, 9, 10, 11, 12, 13, 14, 15, 16, 17, 18, 19, 20, 21, 22, 23, 24, 25, 26, 27, 28, 29, 30, 31, 32, 33, 34, 35, 36, 37, 38, 39, 40, 41, 42, 43, 44, 45, 46, 47, 48, 49, 50, 51, 52, 53, 4, 54, 59, 60, 61, 62, 63, 64, 65, 66, 67, 68, 69, 70, 71] (by decide +kernel) (by decide +kernel)
set_option maxRecDepth 20000 in
theorem gX5_degree_X5_drawn : GoodIn wsX5_degree (wsV RX5 95 RX5 yX5_drawn wsX5_drawn) := goodIn_app (goodIn_of _ (by decide +kernel)) ggX5_degree_X5_drawn
set_option maxRecDepth 20000 in
theorem ggX5_degree_X0_size : GoodIn wsX5_degree wsX0_size := goodIn_r _ [58, 26, 67, 68, 69, 70] (by decide +kernel) (by decide +kernel)
set_option maxRecDepth 20000 in
theorem gX5_degree_X0_size : GoodIn wsX5_degree (wsV RX5 99 RX0 yX0_size wsX0_size) := goodIn_app (goodIn_of _ (by decide +kernel)) ggX5_degree_X0_size
theorem dX5_degree_0 : decode cX5_degree 0 = .ok (.aload_n 0, 1) := by decide +kernel
theorem dX5_degree_1 : decode cX5_degree 1 = .ok (.iload_n 1, 1) := by decide +kernel
theorem dX5_degree_2 : decode cX5_degree 2 = .ok (.invokevirtual 95, 3) := by decide +kernel
theorem dX5_degree_5 : decode cX5_degree 5 = .ok (.invokevirtual 99, 3) := by decide +kernel
theorem dX5_degree_8 : decode cX5_degree 8 = .ok (.ireturn, 1) := by decide +kernel
set_option maxRecDepth 20000 in
theorem ggX5_blockOf_X5_drawn : GoodIn wsX5_blockOf wsX5_drawn := goodIn_r _ [7, 8, 9, 10, 11, 12, 13, 14, 15, 16, 17, 18, 19, 20, 21, 22, 23, 24, 25, 26, 27, 28, 29, 30, 31, 32, 33, 34, 35, 36, 37, 38, 39, 40, 41, 42, 43, 44, 45, 46, 47, 48, 49, 50, 51, 52, 53, 54, 55, 6, 56, 65, 66, 67, 68, 69, 70, 71, 72, 73, 74, 75, 76, 77] (by decide +kernel) (by decide +kernel)
set_option maxRecDepth 20000 in
theorem gX5_blockOf_X5_drawn : GoodIn wsX5_blockOf (wsV RX5 95 RX5 yX5_drawn wsX5_drawn) := goodIn_app (goodIn_of _ (by decide +kernel)) ggX5_blockOf_X5_drawn
set_option maxRecDepth 20000 in
theorem ggX5_blockOf_X0_size : GoodIn wsX5_blockOf wsX0_size := goodIn_r _ [60, 28, 73, 74, 75, 76] (by decide +kernel) (by decide +kernel)
set_option maxRecDepth 20000 in
theorem gX5_blockOf_X0_size : GoodIn wsX5_blockOf (wsV RX5 99 RX0 yX0_size wsX0_size) := goodIn_app (goodIn_of _ (by decide +kernel)) ggX5_blockOf_X0_size
set_option maxRecDepth 20000 in
theorem ggX5_blockOf_X0_blockInPlace : GoodIn wsX5_blockOf wsX0_blockInPlace := goodIn_r _ [64, 30, 73, 74, 75, 76] (by decide +kernel) (by decide +kernel)
set_option maxRecDepth 20000 in
theorem gX5_blockOf_X0_blockInPlace : GoodIn wsX5_blockOf (wsV RX5 104 RX0 yX0_blockInPlace wsX0_blockInPlace) := goodIn_app (goodIn_of _ (by decide +kernel)) ggX5_blockOf_X0_blockInPlace
theorem dX5_blockOf_0 : decode cX5_blockOf 0 = .ok (.aload_n 0, 1) := by decide +kernel
theorem dX5_blockOf_1 : decode cX5_blockOf 1 = .ok (.iload_n 1, 1) := by decide +kernel
theorem dX5_blockOf_2 : decode cX5_blockOf 2 = .ok (.invokevirtual 95, 3) := by decide +kernel
theorem dX5_blockOf_5 : decode cX5_blockOf 5 = .ok (.astore_n 3, 1) := by decide +kernel
theorem dX5_blockOf_6 : decode cX5_blockOf 6 = .ok (.iload_n 2, 1) := by decide +kernel
theorem dX5_blockOf_7 : decode cX5_blockOf 7 = .ok (.ifCond .lt 11, 3) := by decide +kernel
theorem dX5_blockOf_10 : decode cX5_blockOf 10 = .ok (.iload_n 2, 1) := by decide +kernel
theorem dX5_blockOf_11 : decode cX5_blockOf 11 = .ok (.aload_n 3, 1) := by decide +kernel
theorem dX5_blockOf_12 : decode cX5_blockOf 12 = .ok (.invokevirtual 99, 3) := by decide +kernel
theorem dX5_blockOf_15 : decode cX5_blockOf 15 = .ok (.if_icmp .lt 13, 3) := by decide +kernel
theorem dX5_blockOf_18 : decode cX5_blockOf 18 = .ok (.new 77, 3) := by decide +kernel
theorem dX5_blockOf_21 : decode cX5_blockOf 21 = .ok (.dup, 1) := by decide +kernel
theorem dX5_blockOf_22 : decode cX5_blockOf 22 = .ok (.ldc 102, 2) := by decide +kernel
theorem dX5_blockOf_24 : decode cX5_blockOf 24 = .ok (.invokespecial 81, 3) := by decide +kernel
theorem dX5_blockOf_27 : decode cX5_blockOf 27 = .ok (.athrow, 1) := by decide +kernel
theorem dX5_blockOf_28 : decode cX5_blockOf 28 = .ok (.aload_n 3, 1) := by decide +kernel
theorem dX5_blockOf_29 : decode cX5_blockOf 29 = .ok (.iload_n 2, 1) := by decide +kernel
theorem dX5_blockOf_30 : decode cX5_blockOf 30 = .ok (.invokevirtual 104, 3) := by decide +kernel
theorem dX5_blockOf_33 : decode cX5_blockOf 33 = .ok (.ireturn, 1) := by decide +kernel
set_option maxRecDepth 20000 in
theorem ggX5_valueOf_X5_drawn : GoodIn wsX5_valueOf wsX5_drawn := goodIn_r _ [6, 7, 8, 1, 9, 10, 11, 12, 13, 14, 15, 16, 17, 18, 19, 20, 21, 22, 23, 24, 25, 26, 27, 28, 29, 30, 31, 32, 33, 34, 35, 36, 37, 38, 39, 40, 41, 42, 43, 44, 45, 46, 47, 48, 49, 50, 51, 52, 53, 5, 54, 80, 81, 82, 83, 84, 85, 86, 87, 88, 89, 90, 91, 92] (by decide +kernel) (by decide +kernel)
set_option maxRecDepth 20000 in
theorem gX5_valueOf_X5_drawn : GoodIn wsX5_valueOf (wsV RX5 95 RX5 yX5_drawn wsX5_drawn) := goodIn_app (goodIn_of _ (by decide +kernel)) ggX5_valueOf_X5_drawn
set_option maxRecDepth 20000 in
theorem ggX5_valueOf_X0_blockSet : GoodIn wsX5_valueOf wsX0_blockSet := goodIn_r _ [58, 27, 88, 89, 90, 91] (by decide +kernel) (by decide +kernel)
set_option maxRecDepth 20000 in
theorem gX5_valueOf_X0_blockSet : GoodIn wsX5_valueOf (wsV RX5 107 RX0 yX0_blockSet wsX0_blockSet) := goodIn_app (goodIn_of _ (by decide +kernel)) ggX5_valueOf_X0_blockSet
set_option maxRecDepth 20000 in
theorem ggX5_valueOf_X3_valueOfSet : GoodIn wsX5_valueOf wsX3_valueOfSet := goodIn_r _ [62, 14, 63, 64, 65, 12, 66, 67, 68, 5, 69, 70, 53, 54, 71, 10, 11, 13, 15, 72, 73, 74, 75, 76, 77, 78, 79, 85, 86, 87] (by decide +kernel) (by decide +kernel)
set_option maxRecDepth 20000 in
theorem gX5_valueOf_X3_valueOfSet : GoodIn wsX5_valueOf (wsV RX5 111 RX3 yX3_valueOfSet wsX3_valueOfSet) := goodIn_app (goodIn_of _ (by decide +kernel)) ggX5_valueOf_X3_valueOfSet
theorem dX5_valueOf_0 : decode cX5_valueOf 0 = .ok (.aload_n 0, 1) := by decide +kernel
theorem dX5_valueOf_1 : decode cX5_valueOf 1 = .ok (.getfield 19, 3) := by decide +kernel
theorem dX5_valueOf_4 : decode cX5_valueOf 4 = .ok (.aload_n 0, 1) := by decide +kernel
theorem dX5_valueOf_5 : decode cX5_valueOf 5 = .ok (.iload_n 1, 1) := by decide +kernel
theorem dX5_valueOf_6 : decode cX5_valueOf 6 = .ok (.invokevirtual 95, 3) := by decide +kernel
theorem dX5_valueOf_9 : decode cX5_valueOf 9 = .ok (.invokevirtual 107, 3) := by decide +kernel
theorem dX5_valueOf_12 : decode cX5_valueOf 12 = .ok (.invokevirtual 111, 3) := by decide +kernel
theorem dX5_valueOf_15 : decode cX5_valueOf 15 = .ok (.ireturn, 1) := by decide +kernel
set_option maxRecDepth 20000 in
theorem ggX5_receive_X5_drawn : GoodIn wsX5_receive wsX5_drawn := goodIn_r _ [7, 8, 9, 10, 11, 12, 13, 14, 15, 16, 17, 18, 19, 20, 21, 22, 23, 24, 25, 26, 27, 28, 29, 30, 31, 32, 33, 34, 35, 36, 37, 38, 39, 40, 41, 42, 43, 44, 45, 46, 47, 48, 49, 50, 51, 52, 53, 54, 55, 6, 56, 140, 141, 142, 143, 144, 145, 146, 147, 148, 149, 150, 151, 152] (by decide +kernel) (by decide +kernel)
set_option maxRecDepth 20000 in
theorem gX5_receive_X5_drawn : GoodIn wsX5_receive (wsV RX5 95 RX5 yX5_drawn wsX5_drawn) := goodIn_app (goodIn_of _ (by decide +kernel)) ggX5_receive_X5_drawn
set_option maxRecDepth 20000 in
theorem ggX5_receive_X0_blockSet : GoodIn wsX5_receive wsX0_blockSet := goodIn_r _ [60, 29, 148, 149, 150, 151] (by decide +kernel) (by decide +kernel)
set_option maxRecDepth 20000 in
theorem gX5_receive_X0_blockSet : GoodIn wsX5_receive (wsV RX5 107 RX0 yX0_blockSet wsX0_blockSet) := goodIn_app (goodIn_of _ (by decide +kernel)) ggX5_receive_X0_blockSet
set_option maxRecDepth 20000 in
theorem ggX5_receive_X5_canTake : GoodIn wsX5_receive wsX5_canTake := goodIn_r _ [64, 65, 10, 66, 67, 68, 69, 70, 71, 72, 73, 74, 75, 14, 76, 17, 77, 78, 79, 80, 81, 82, 83, 84, 85, 86, 87, 6, 88, 89, 55, 56, 90, 91, 92, 93, 94, 140, 141, 142, 143, 144, 153, 154, 155, 156, 157, 158, 145, 146, 147, 159, 160, 161] (by decide +kernel) (by decide +kernel)
set_option maxRecDepth 20000 in
theorem gX5_receive_X5_canTake : GoodIn wsX5_receive (wsV RX5 115 RX5 yX5_canTake wsX5_canTake) := goodIn_app (goodIn_of _ (by decide +kernel)) ggX5_receive_X5_canTake
set_option maxRecDepth 20000 in
theorem ggX5_receive_X5_take : GoodIn wsX5_receive wsX5_take := goodIn_r _ [98, 65, 99, 100, 101, 6, 102, 66, 103, 104, 105, 70, 106, 72, 107, 108, 109, 110, 80, 111, 86, 94, 112, 82, 83, 84, 85, 87, 88, 89, 55, 56, 113, 114, 115, 116, 117, 118, 119, 120, 121, 90, 91, 92, 93, 122, 123, 124, 125, 126, 127, 128, 129, 130, 131, 132, 133, 134, 135, 136, 137, 138, 139, 140, 141, 142, 143, 144, 153, 154, 155, 156, 157, 158, 159, 160, 161] (by decide +kernel) (by decide +kernel)
set_option maxRecDepth 20000 in
theorem gX5_receive_X5_take : GoodIn wsX5_receive (wsV RX5 121 RX5 yX5_take wsX5_take) := goodIn_app (goodIn_of _ (by decide +kernel)) ggX5_receive_X5_take
theorem dX5_receive_0 : decode cX5_receive 0 = .ok (.aload_n 0, 1) := by decide +kernel
theorem dX5_receive_1 : decode cX5_receive 1 = .ok (.iload_n 1, 1) := by decide +kernel
theorem dX5_receive_2 : decode cX5_receive 2 = .ok (.invokevirtual 95, 3) := by decide +kernel
theorem dX5_receive_5 : decode cX5_receive 5 = .ok (.invokevirtual 107, 3) := by decide +kernel
theorem dX5_receive_8 : decode cX5_receive 8 = .ok (.lstore_n 3, 1) := by decide +kernel
theorem dX5_receive_9 : decode cX5_receive 9 = .ok (.aload_n 0, 1) := by decide +kernel
theorem dX5_receive_10 : decode cX5_receive 10 = .ok (.lload_n 3, 1) := by decide +kernel
theorem dX5_receive_11 : decode cX5_receive 11 = .ok (.iload_n 2, 1) := by decide +kernel
theorem dX5_receive_12 : decode cX5_receive 12 = .ok (.invokevirtual 115, 3) := by decide +kernel
theorem dX5_receive_15 : decode cX5_receive 15 = .ok (.ifCond .ne 13, 3) := by decide +kernel
theorem dX5_receive_18 : decode cX5_receive 18 = .ok (.new 65, 3) := by decide +kernel
theorem dX5_receive_21 : decode cX5_receive 21 = .ok (.dup, 1) := by decide +kernel
theorem dX5_receive_22 : decode cX5_receive 22 = .ok (.ldc 119, 2) := by decide +kernel
theorem dX5_receive_24 : decode cX5_receive 24 = .ok (.invokespecial 69, 3) := by decide +kernel
theorem dX5_receive_27 : decode cX5_receive 27 = .ok (.athrow, 1) := by decide +kernel
theorem dX5_receive_28 : decode cX5_receive 28 = .ok (.aload_n 0, 1) := by decide +kernel
theorem dX5_receive_29 : decode cX5_receive 29 = .ok (.lload_n 3, 1) := by decide +kernel
theorem dX5_receive_30 : decode cX5_receive 30 = .ok (.iload_n 2, 1) := by decide +kernel
theorem dX5_receive_31 : decode cX5_receive 31 = .ok (.invokevirtual 121, 3) := by decide +kernel
theorem dX5_receive_34 : decode cX5_receive 34 = .ok (.ireturn, 1) := by decide +kernel
set_option maxRecDepth 20000 in
theorem ggX5_receiveAll_X5_drawn : GoodIn wsX5_receiveAll wsX5_drawn := goodIn_r _ [8, 9, 10, 3, 11, 12, 13, 14, 15, 16, 17, 18, 19, 20, 21, 22, 23, 24, 25, 26, 27, 28, 29, 30, 31, 32, 33, 34, 35, 36, 37, 38, 39, 40, 41, 42, 43, 44, 45, 46, 47, 48, 49, 50, 51, 52, 53, 54, 55, 7, 56, 158, 159, 160, 161, 162, 163, 164, 165, 166, 167, 168, 169, 170] (by decide +kernel) (by decide +kernel)
set_option maxRecDepth 20000 in
theorem gX5_receiveAll_X5_drawn : GoodIn wsX5_receiveAll (wsV RX5 95 RX5 yX5_drawn wsX5_drawn) := goodIn_app (goodIn_of _ (by decide +kernel)) ggX5_receiveAll_X5_drawn
set_option maxRecDepth 20000 in
theorem ggX5_receiveAll_X0_blockSet : GoodIn wsX5_receiveAll wsX0_blockSet := goodIn_r _ [60, 29, 166, 167, 168, 169] (by decide +kernel) (by decide +kernel)
set_option maxRecDepth 20000 in
theorem gX5_receiveAll_X0_blockSet : GoodIn wsX5_receiveAll (wsV RX5 107 RX0 yX0_blockSet wsX0_blockSet) := goodIn_app (goodIn_of _ (by decide +kernel)) ggX5_receiveAll_X0_blockSet
set_option maxRecDepth 20000 in
theorem ggX5_receiveAll_X3_valueOfSet : GoodIn wsX5_receiveAll wsX3_valueOfSet := goodIn_r _ [64, 16, 65, 66, 67, 14, 68, 69, 70, 7, 71, 72, 55, 56, 73, 12, 13, 15, 17, 74, 75, 76, 77, 78, 79, 80, 81, 163, 164, 165] (by decide +kernel) (by decide +kernel)
set_option maxRecDepth 20000 in
theorem gX5_receiveAll_X3_valueOfSet : GoodIn wsX5_receiveAll (wsV RX5 111 RX3 yX3_valueOfSet wsX3_valueOfSet) := goodIn_app (goodIn_of _ (by decide +kernel)) ggX5_receiveAll_X3_valueOfSet
set_option maxRecDepth 20000 in
theorem ggX5_receiveAll_X5_canTake : GoodIn wsX5_receiveAll wsX5_canTake := goodIn_r _ [85, 86, 3, 87, 88, 89, 90, 91, 92, 93, 94, 95, 96, 14, 97, 17, 98, 99, 100, 101, 102, 103, 104, 105, 106, 107, 70, 7, 71, 72, 55, 56, 108, 109, 110, 111, 112, 158, 159, 160, 161, 162, 171, 172, 173, 174, 175, 176, 163, 164, 165, 177, 178, 179] (by decide +kernel) (by decide +kernel)
set_option maxRecDepth 20000 in
theorem gX5_receiveAll_X5_canTake : GoodIn wsX5_receiveAll (wsV RX5 115 RX5 yX5_canTake wsX5_canTake) := goodIn_app (goodIn_of _ (by decide +kernel)) ggX5_receiveAll_X5_canTake
set_option maxRecDepth 20000 in
theorem ggX5_receiveAll_X5_take : GoodIn wsX5_receiveAll wsX5_take := goodIn_r _ [116, 86, 117, 118, 119, 7, 120, 87, 121, 122, 123, 91, 124, 93, 125, 126, 127, 128, 101, 129, 107, 112, 130, 103, 104, 105, 106, 70, 71, 72, 55, 56, 131, 132, 133, 134, 135, 136, 137, 138, 139, 108, 109, 110, 111, 140, 141, 142, 143, 144, 145, 146, 147, 148, 149, 150, 151, 152, 153, 154, 155, 156, 157, 158, 159, 160, 161, 162, 171, 172, 173, 174, 175, 176, 177, 178, 179] (by decide +kernel) (by decide +kernel)
set_option maxRecDepth 20000 in
theorem gX5_receiveAll_X5_take : GoodIn wsX5_receiveAll (wsV RX5 121 RX5 yX5_take wsX5_take) := goodIn_app (goodIn_of _ (by decide +kernel)) ggX5_receiveAll_X5_take
theorem dX5_receiveAll_0 : decode cX5_receiveAll 0 = .ok (.iload_n 2, 1) := by decide +kernel
theorem dX5_receiveAll_1 : decode cX5_receiveAll 1 = .ok (.iconst 1, 1) := by decide +kernel
theorem dX5_receiveAll_2 : decode cX5_receiveAll 2 = .ok (.if_icmp .lt 9, 3) := by decide +kernel
theorem dX5_receiveAll_5 : decode cX5_receiveAll 5 = .ok (.iload_n 2, 1) := by decide +kernel
theorem dX5_receiveAll_6 : decode cX5_receiveAll 6 = .ok (.bipush 40, 2) := by decide +kernel
theorem dX5_receiveAll_8 : decode cX5_receiveAll 8 = .ok (.if_icmp .le 13, 3) := by decide +kernel
theorem dX5_receiveAll_11 : decode cX5_receiveAll 11 = .ok (.new 48, 3) := by decide +kernel
theorem dX5_receiveAll_14 : decode cX5_receiveAll 14 = .ok (.dup, 1) := by decide +kernel
theorem dX5_receiveAll_15 : decode cX5_receiveAll 15 = .ok (.ldc 125, 2) := by decide +kernel
theorem dX5_receiveAll_17 : decode cX5_receiveAll 17 = .ok (.invokespecial 52, 3) := by decide +kernel
theorem dX5_receiveAll_20 : decode cX5_receiveAll 20 = .ok (.athrow, 1) := by decide +kernel
theorem dX5_receiveAll_21 : decode cX5_receiveAll 21 = .ok (.iconst 0, 1) := by decide +kernel
theorem dX5_receiveAll_22 : decode cX5_receiveAll 22 = .ok (.istore_n 3, 1) := by decide +kernel
theorem dX5_receiveAll_23 : decode cX5_receiveAll 23 = .ok (.iload_n 3, 1) := by decide +kernel
theorem dX5_receiveAll_24 : decode cX5_receiveAll 24 = .ok (.iload_n 2, 1) := by decide +kernel
theorem dX5_receiveAll_25 : decode cX5_receiveAll 25 = .ok (.if_icmp .ge 54, 3) := by decide +kernel
theorem dX5_receiveAll_28 : decode cX5_receiveAll 28 = .ok (.aload_n 0, 1) := by decide +kernel
theorem dX5_receiveAll_29 : decode cX5_receiveAll 29 = .ok (.iload_n 1, 1) := by decide +kernel
theorem dX5_receiveAll_30 : decode cX5_receiveAll 30 = .ok (.iload_n 3, 1) := by decide +kernel
theorem dX5_receiveAll_31 : decode cX5_receiveAll 31 = .ok (.iadd, 1) := by decide +kernel
theorem dX5_receiveAll_32 : decode cX5_receiveAll 32 = .ok (.invokevirtual 95, 3) := by decide +kernel
theorem dX5_receiveAll_35 : decode cX5_receiveAll 35 = .ok (.invokevirtual 107, 3) := by decide +kernel
theorem dX5_receiveAll_38 : decode cX5_receiveAll 38 = .ok (.lstore 4, 2) := by decide +kernel
theorem dX5_receiveAll_40 : decode cX5_receiveAll 40 = .ok (.aload_n 0, 1) := by decide +kernel
theorem dX5_receiveAll_41 : decode cX5_receiveAll 41 = .ok (.getfield 19, 3) := by decide +kernel
theorem dX5_receiveAll_44 : decode cX5_receiveAll 44 = .ok (.lload 4, 2) := by decide +kernel
theorem dX5_receiveAll_46 : decode cX5_receiveAll 46 = .ok (.invokevirtual 111, 3) := by decide +kernel
theorem dX5_receiveAll_49 : decode cX5_receiveAll 49 = .ok (.istore 6, 2) := by decide +kernel
theorem dX5_receiveAll_51 : decode cX5_receiveAll 51 = .ok (.aload_n 0, 1) := by decide +kernel
theorem dX5_receiveAll_52 : decode cX5_receiveAll 52 = .ok (.lload 4, 2) := by decide +kernel
theorem dX5_receiveAll_54 : decode cX5_receiveAll 54 = .ok (.iload 6, 2) := by decide +kernel
theorem dX5_receiveAll_56 : decode cX5_receiveAll 56 = .ok (.invokevirtual 115, 3) := by decide +kernel
theorem dX5_receiveAll_59 : decode cX5_receiveAll 59 = .ok (.ifCond .ne 5, 3) := by decide +kernel
theorem dX5_receiveAll_62 : decode cX5_receiveAll 62 = .ok (.iload_n 3, 1) := by decide +kernel
theorem dX5_receiveAll_63 : decode cX5_receiveAll 63 = .ok (.ireturn, 1) := by decide +kernel
theorem dX5_receiveAll_64 : decode cX5_receiveAll 64 = .ok (.aload_n 0, 1) := by decide +kernel
theorem dX5_receiveAll_65 : decode cX5_receiveAll 65 = .ok (.lload 4, 2) := by decide +kernel
theorem dX5_receiveAll_67 : decode cX5_receiveAll 67 = .ok (.iload 6, 2) := by decide +kernel
theorem dX5_receiveAll_69 : decode cX5_receiveAll 69 = .ok (.invokevirtual 121, 3) := by decide +kernel
theorem dX5_receiveAll_72 : decode cX5_receiveAll 72 = .ok (.pop, 1) := by decide +kernel
theorem dX5_receiveAll_73 : decode cX5_receiveAll 73 = .ok (.iinc 3 1, 3) := by decide +kernel
theorem dX5_receiveAll_76 : decode cX5_receiveAll 76 = .ok (.goto (-53), 3) := by decide +kernel
theorem dX5_receiveAll_79 : decode cX5_receiveAll 79 = .ok (.iload_n 2, 1) := by decide +kernel
theorem dX5_receiveAll_80 : decode cX5_receiveAll 80 = .ok (.ireturn, 1) := by decide +kernel
set_option maxRecDepth 20000 in
theorem ggX5_equations_X2_equationCount : GoodIn wsX5_equations wsX2_equationCount := goodIn_r _ [6, 7, 13, 14, 15, 16, 17, 18] (by decide +kernel) (by decide +kernel)
set_option maxRecDepth 20000 in
theorem gX5_equations_X2_equationCount : GoodIn wsX5_equations (wsV RX5 127 RX2 yX2_equationCount wsX2_equationCount) := goodIn_app (goodIn_of _ (by decide +kernel)) ggX5_equations_X2_equationCount
theorem dX5_equations_0 : decode cX5_equations 0 = .ok (.aload_n 0, 1) := by decide +kernel
theorem dX5_equations_1 : decode cX5_equations 1 = .ok (.getfield 26, 3) := by decide +kernel
theorem dX5_equations_4 : decode cX5_equations 4 = .ok (.invokevirtual 127, 3) := by decide +kernel
theorem dX5_equations_7 : decode cX5_equations 7 = .ok (.ireturn, 1) := by decide +kernel
set_option maxRecDepth 20000 in
theorem ggX5_rank_X1_rowCount : GoodIn wsX5_rank wsX1_rowCount := goodIn_r _ [6, 7, 13, 14, 15] (by decide +kernel) (by decide +kernel)
set_option maxRecDepth 20000 in
theorem gX5_rank_X1_rowCount : GoodIn wsX5_rank (wsV RX5 130 RX1 yX1_rowCount wsX1_rowCount) := goodIn_app (goodIn_of _ (by decide +kernel)) ggX5_rank_X1_rowCount
theorem dX5_rank_0 : decode cX5_rank 0 = .ok (.aload_n 0, 1) := by decide +kernel
theorem dX5_rank_1 : decode cX5_rank 1 = .ok (.getfield 33, 3) := by decide +kernel
theorem dX5_rank_4 : decode cX5_rank 4 = .ok (.invokevirtual 130, 3) := by decide +kernel
theorem dX5_rank_7 : decode cX5_rank 7 = .ok (.ireturn, 1) := by decide +kernel
set_option maxRecDepth 20000 in
theorem ggX5_peeled_X2_peeledCount : GoodIn wsX5_peeled wsX2_peeledCount := goodIn_r _ [6, 7, 13, 14, 15, 16, 17, 18] (by decide +kernel) (by decide +kernel)
set_option maxRecDepth 20000 in
theorem gX5_peeled_X2_peeledCount : GoodIn wsX5_peeled (wsV RX5 133 RX2 yX2_peeledCount wsX2_peeledCount) := goodIn_app (goodIn_of _ (by decide +kernel)) ggX5_peeled_X2_peeledCount
theorem dX5_peeled_0 : decode cX5_peeled 0 = .ok (.aload_n 0, 1) := by decide +kernel
theorem dX5_peeled_1 : decode cX5_peeled 1 = .ok (.getfield 26, 3) := by decide +kernel
theorem dX5_peeled_4 : decode cX5_peeled 4 = .ok (.invokevirtual 133, 3) := by decide +kernel
theorem dX5_peeled_7 : decode cX5_peeled 7 = .ok (.ireturn, 1) := by decide +kernel
set_option maxRecDepth 20000 in
theorem ggX5_peeledAt_X2_peeledCount : GoodIn wsX5_peeledAt wsX2_peeledCount := goodIn_r _ [8, 9, 20, 21, 22, 23, 24, 25] (by decide +kernel) (by decide +kernel)
set_option maxRecDepth 20000 in
theorem gX5_peeledAt_X2_peeledCount : GoodIn wsX5_peeledAt (wsV RX5 133 RX2 yX2_peeledCount wsX2_peeledCount) := goodIn_app (goodIn_of _ (by decide +kernel)) ggX5_peeledAt_X2_peeledCount
set_option maxRecDepth 20000 in
theorem ggX5_peeledAt_X2_peeledInPlace : GoodIn wsX5_peeledAt wsX2_peeledInPlace := goodIn_r _ [13, 14, 20, 21, 22, 23, 24, 25] (by decide +kernel) (by decide +kernel)
set_option maxRecDepth 20000 in
theorem gX5_peeledAt_X2_peeledInPlace : GoodIn wsX5_peeledAt (wsV RX5 136 RX2 yX2_peeledInPlace wsX2_peeledInPlace) := goodIn_app (goodIn_of _ (by decide +kernel)) ggX5_peeledAt_X2_peeledInPlace
theorem dX5_peeledAt_0 : decode cX5_peeledAt 0 = .ok (.iload_n 1, 1) := by decide +kernel
theorem dX5_peeledAt_1 : decode cX5_peeledAt 1 = .ok (.ifCond .lt 14, 3) := by decide +kernel
theorem dX5_peeledAt_4 : decode cX5_peeledAt 4 = .ok (.iload_n 1, 1) := by decide +kernel
theorem dX5_peeledAt_5 : decode cX5_peeledAt 5 = .ok (.aload_n 0, 1) := by decide +kernel
theorem dX5_peeledAt_6 : decode cX5_peeledAt 6 = .ok (.getfield 26, 3) := by decide +kernel
theorem dX5_peeledAt_9 : decode cX5_peeledAt 9 = .ok (.invokevirtual 133, 3) := by decide +kernel
theorem dX5_peeledAt_12 : decode cX5_peeledAt 12 = .ok (.if_icmp .lt 13, 3) := by decide +kernel
theorem dX5_peeledAt_15 : decode cX5_peeledAt 15 = .ok (.new 77, 3) := by decide +kernel
theorem dX5_peeledAt_18 : decode cX5_peeledAt 18 = .ok (.dup, 1) := by decide +kernel
theorem dX5_peeledAt_19 : decode cX5_peeledAt 19 = .ok (.ldc 102, 2) := by decide +kernel
theorem dX5_peeledAt_21 : decode cX5_peeledAt 21 = .ok (.invokespecial 81, 3) := by decide +kernel
theorem dX5_peeledAt_24 : decode cX5_peeledAt 24 = .ok (.athrow, 1) := by decide +kernel
theorem dX5_peeledAt_25 : decode cX5_peeledAt 25 = .ok (.aload_n 0, 1) := by decide +kernel
theorem dX5_peeledAt_26 : decode cX5_peeledAt 26 = .ok (.getfield 26, 3) := by decide +kernel
theorem dX5_peeledAt_29 : decode cX5_peeledAt 29 = .ok (.iload_n 1, 1) := by decide +kernel
theorem dX5_peeledAt_30 : decode cX5_peeledAt 30 = .ok (.invokevirtual 136, 3) := by decide +kernel
theorem dX5_peeledAt_33 : decode cX5_peeledAt 33 = .ok (.ireturn, 1) := by decide +kernel
set_option maxRecDepth 20000 in
theorem ggX5_peeledBy_X5_isBlock : GoodIn wsX5_peeledBy wsX5_isBlock := goodIn_r _ [8, 9, 10, 11, 12, 13, 14, 15, 16, 23, 24, 25, 26, 27, 28, 29, 30] (by decide +kernel) (by decide +kernel)
set_option maxRecDepth 20000 in
theorem gX5_peeledBy_X5_isBlock : GoodIn wsX5_peeledBy (wsV RX5 89 RX5 yX5_isBlock wsX5_isBlock) := goodIn_app (goodIn_of _ (by decide +kernel)) ggX5_peeledBy_X5_isBlock
set_option maxRecDepth 20000 in
theorem ggX5_peeledBy_X2_equationThatPeeled : GoodIn wsX5_peeledBy wsX2_equationThatPeeled := goodIn_r _ [21, 22, 31, 32, 33, 34, 35, 36] (by decide +kernel) (by decide +kernel)
set_option maxRecDepth 20000 in
theorem gX5_peeledBy_X2_equationThatPeeled : GoodIn wsX5_peeledBy (wsV RX5 139 RX2 yX2_equationThatPeeled wsX2_equationThatPeeled) := goodIn_app (goodIn_of _ (by decide +kernel)) ggX5_peeledBy_X2_equationThatPeeled
theorem dX5_peeledBy_0 : decode cX5_peeledBy 0 = .ok (.aload_n 0, 1) := by decide +kernel
theorem dX5_peeledBy_1 : decode cX5_peeledBy 1 = .ok (.iload_n 1, 1) := by decide +kernel
theorem dX5_peeledBy_2 : decode cX5_peeledBy 2 = .ok (.invokevirtual 89, 3) := by decide +kernel
theorem dX5_peeledBy_5 : decode cX5_peeledBy 5 = .ok (.ifCond .ne 13, 3) := by decide +kernel
theorem dX5_peeledBy_8 : decode cX5_peeledBy 8 = .ok (.new 77, 3) := by decide +kernel
theorem dX5_peeledBy_11 : decode cX5_peeledBy 11 = .ok (.dup, 1) := by decide +kernel
theorem dX5_peeledBy_12 : decode cX5_peeledBy 12 = .ok (.ldc 93, 2) := by decide +kernel
theorem dX5_peeledBy_14 : decode cX5_peeledBy 14 = .ok (.invokespecial 81, 3) := by decide +kernel
theorem dX5_peeledBy_17 : decode cX5_peeledBy 17 = .ok (.athrow, 1) := by decide +kernel
theorem dX5_peeledBy_18 : decode cX5_peeledBy 18 = .ok (.aload_n 0, 1) := by decide +kernel
theorem dX5_peeledBy_19 : decode cX5_peeledBy 19 = .ok (.getfield 26, 3) := by decide +kernel
theorem dX5_peeledBy_22 : decode cX5_peeledBy 22 = .ok (.iload_n 1, 1) := by decide +kernel
theorem dX5_peeledBy_23 : decode cX5_peeledBy 23 = .ok (.invokevirtual 139, 3) := by decide +kernel
theorem dX5_peeledBy_26 : decode cX5_peeledBy 26 = .ok (.ireturn, 1) := by decide +kernel
set_option maxRecDepth 20000 in
theorem ggX5_determined_X3_blockCount : GoodIn wsX5_determined wsX3_blockCount := goodIn_r _ [7, 8, 9, 28, 29, 30] (by decide +kernel) (by decide +kernel)
set_option maxRecDepth 20000 in
theorem gX5_determined_X3_blockCount : GoodIn wsX5_determined (wsV RX5 86 RX3 yX3_blockCount wsX3_blockCount) := goodIn_app (goodIn_of _ (by decide +kernel)) ggX5_determined_X3_blockCount
set_option maxRecDepth 20000 in
theorem ggX5_determined_X1_countLeaving : GoodIn wsX5_determined wsX1_countLeaving := goodIn_r _ [14, 15, 16, 17, 13, 18, 19, 20, 21, 22, 31, 32, 33] (by decide +kernel) (by decide +kernel)
set_option maxRecDepth 20000 in
theorem gX5_determined_X1_countLeaving : GoodIn wsX5_determined (wsV RX5 142 RX1 yX1_countLeaving wsX1_countLeaving) := goodIn_app (goodIn_of _ (by decide +kernel)) ggX5_determined_X1_countLeaving
theorem dX5_determined_0 : decode cX5_determined 0 = .ok (.aload_n 0, 1) := by decide +kernel
theorem dX5_determined_1 : decode cX5_determined 1 = .ok (.getfield 33, 3) := by decide +kernel
theorem dX5_determined_4 : decode cX5_determined 4 = .ok (.lconst 0, 1) := by decide +kernel
theorem dX5_determined_5 : decode cX5_determined 5 = .ok (.aload_n 0, 1) := by decide +kernel
theorem dX5_determined_6 : decode cX5_determined 6 = .ok (.getfield 19, 3) := by decide +kernel
theorem dX5_determined_9 : decode cX5_determined 9 = .ok (.invokevirtual 86, 3) := by decide +kernel
theorem dX5_determined_12 : decode cX5_determined 12 = .ok (.invokevirtual 142, 3) := by decide +kernel
theorem dX5_determined_15 : decode cX5_determined 15 = .ok (.ireturn, 1) := by decide +kernel
set_option maxRecDepth 20000 in
theorem ggX5_isDetermined_X5_isBlock : GoodIn wsX5_isDetermined wsX5_isBlock := goodIn_r _ [8, 9, 10, 11, 12, 13, 14, 15, 16, 29, 30, 31, 32, 33, 34, 35, 36] (by decide +kernel) (by decide +kernel)
set_option maxRecDepth 20000 in
theorem gX5_isDetermined_X5_isBlock : GoodIn wsX5_isDetermined (wsV RX5 89 RX5 yX5_isBlock wsX5_isBlock) := goodIn_app (goodIn_of _ (by decide +kernel)) ggX5_isDetermined_X5_isBlock
set_option maxRecDepth 20000 in
theorem ggX5_isDetermined_X1_fixes : GoodIn wsX5_isDetermined wsX1_fixes := goodIn_r _ [21, 22, 23, 24, 20, 25, 26, 27, 7, 28, 37, 38, 39] (by decide +kernel) (by decide +kernel)
set_option maxRecDepth 20000 in
theorem gX5_isDetermined_X1_fixes : GoodIn wsX5_isDetermined (wsV RX5 145 RX1 yX1_fixes wsX1_fixes) := goodIn_app (goodIn_of _ (by decide +kernel)) ggX5_isDetermined_X1_fixes
theorem dX5_isDetermined_0 : decode cX5_isDetermined 0 = .ok (.aload_n 0, 1) := by decide +kernel
theorem dX5_isDetermined_1 : decode cX5_isDetermined 1 = .ok (.iload_n 1, 1) := by decide +kernel
theorem dX5_isDetermined_2 : decode cX5_isDetermined 2 = .ok (.invokevirtual 89, 3) := by decide +kernel
theorem dX5_isDetermined_5 : decode cX5_isDetermined 5 = .ok (.ifCond .ne 13, 3) := by decide +kernel
theorem dX5_isDetermined_8 : decode cX5_isDetermined 8 = .ok (.new 77, 3) := by decide +kernel
theorem dX5_isDetermined_11 : decode cX5_isDetermined 11 = .ok (.dup, 1) := by decide +kernel
theorem dX5_isDetermined_12 : decode cX5_isDetermined 12 = .ok (.ldc 93, 2) := by decide +kernel
theorem dX5_isDetermined_14 : decode cX5_isDetermined 14 = .ok (.invokespecial 81, 3) := by decide +kernel
theorem dX5_isDetermined_17 : decode cX5_isDetermined 17 = .ok (.athrow, 1) := by decide +kernel
theorem dX5_isDetermined_18 : decode cX5_isDetermined 18 = .ok (.aload_n 0, 1) := by decide +kernel
theorem dX5_isDetermined_19 : decode cX5_isDetermined 19 = .ok (.getfield 33, 3) := by decide +kernel
theorem dX5_isDetermined_22 : decode cX5_isDetermined 22 = .ok (.iload_n 1, 1) := by decide +kernel
theorem dX5_isDetermined_23 : decode cX5_isDetermined 23 = .ok (.invokevirtual 145, 3) := by decide +kernel
theorem dX5_isDetermined_26 : decode cX5_isDetermined 26 = .ok (.ireturn, 1) := by decide +kernel
set_option maxRecDepth 20000 in
theorem ggX5_recovered_X5_isBlock : GoodIn wsX5_recovered wsX5_isBlock := goodIn_r _ [10, 11, 12, 13, 14, 15, 16, 17, 18, 39, 40, 41, 42, 43, 44, 45, 46] (by decide +kernel) (by decide +kernel)
set_option maxRecDepth 20000 in
theorem gX5_recovered_X5_isBlock : GoodIn wsX5_recovered (wsV RX5 89 RX5 yX5_isBlock wsX5_isBlock) := goodIn_app (goodIn_of _ (by decide +kernel)) ggX5_recovered_X5_isBlock
set_option maxRecDepth 20000 in
theorem ggX5_recovered_X1_fixes : GoodIn wsX5_recovered wsX1_fixes := goodIn_r _ [23, 24, 25, 26, 22, 27, 28, 29, 9, 30, 47, 48, 49] (by decide +kernel) (by decide +kernel)
set_option maxRecDepth 20000 in
theorem gX5_recovered_X1_fixes : GoodIn wsX5_recovered (wsV RX5 145 RX1 yX1_fixes wsX1_fixes) := goodIn_app (goodIn_of _ (by decide +kernel)) ggX5_recovered_X1_fixes
set_option maxRecDepth 20000 in
theorem ggX5_recovered_X5_setOf : GoodIn wsX5_recovered wsX5_setOf := goodIn_r _ [30] (by decide +kernel) (by decide +kernel)
set_option maxRecDepth 20000 in
theorem gX5_recovered_X5_setOf : GoodIn wsX5_recovered (va_wsS RX5 150 yX5_setOf wsX5_setOf) := goodIn_app (goodIn_of _ (by decide +kernel)) ggX5_recovered_X5_setOf
set_option maxRecDepth 20000 in
theorem ggX5_recovered_X1_knownValue : GoodIn wsX5_recovered wsX1_knownValue := goodIn_r _ [35, 36, 37, 9, 38, 31, 29, 30, 47, 48, 49] (by decide +kernel) (by decide +kernel)
set_option maxRecDepth 20000 in
theorem gX5_recovered_X1_knownValue : GoodIn wsX5_recovered (wsV RX5 154 RX1 yX1_knownValue wsX1_knownValue) := goodIn_app (goodIn_of _ (by decide +kernel)) ggX5_recovered_X1_knownValue
theorem dX5_recovered_0 : decode cX5_recovered 0 = .ok (.aload_n 0, 1) := by decide +kernel
theorem dX5_recovered_1 : decode cX5_recovered 1 = .ok (.iload_n 1, 1) := by decide +kernel
theorem dX5_recovered_2 : decode cX5_recovered 2 = .ok (.invokevirtual 89, 3) := by decide +kernel
theorem dX5_recovered_5 : decode cX5_recovered 5 = .ok (.ifCond .ne 13, 3) := by decide +kernel
theorem dX5_recovered_8 : decode cX5_recovered 8 = .ok (.new 77, 3) := by decide +kernel
theorem dX5_recovered_11 : decode cX5_recovered 11 = .ok (.dup, 1) := by decide +kernel
theorem dX5_recovered_12 : decode cX5_recovered 12 = .ok (.ldc 93, 2) := by decide +kernel
theorem dX5_recovered_14 : decode cX5_recovered 14 = .ok (.invokespecial 81, 3) := by decide +kernel
theorem dX5_recovered_17 : decode cX5_recovered 17 = .ok (.athrow, 1) := by decide +kernel
theorem dX5_recovered_18 : decode cX5_recovered 18 = .ok (.aload_n 0, 1) := by decide +kernel
theorem dX5_recovered_19 : decode cX5_recovered 19 = .ok (.getfield 33, 3) := by decide +kernel
theorem dX5_recovered_22 : decode cX5_recovered 22 = .ok (.iload_n 1, 1) := by decide +kernel
theorem dX5_recovered_23 : decode cX5_recovered 23 = .ok (.invokevirtual 145, 3) := by decide +kernel
theorem dX5_recovered_26 : decode cX5_recovered 26 = .ok (.ifCond .ne 13, 3) := by decide +kernel
theorem dX5_recovered_29 : decode cX5_recovered 29 = .ok (.new 65, 3) := by decide +kernel
theorem dX5_recovered_32 : decode cX5_recovered 32 = .ok (.dup, 1) := by decide +kernel
theorem dX5_recovered_33 : decode cX5_recovered 33 = .ok (.ldc 148, 2) := by decide +kernel
theorem dX5_recovered_35 : decode cX5_recovered 35 = .ok (.invokespecial 69, 3) := by decide +kernel
theorem dX5_recovered_38 : decode cX5_recovered 38 = .ok (.athrow, 1) := by decide +kernel
theorem dX5_recovered_39 : decode cX5_recovered 39 = .ok (.aload_n 0, 1) := by decide +kernel
theorem dX5_recovered_40 : decode cX5_recovered 40 = .ok (.getfield 33, 3) := by decide +kernel
theorem dX5_recovered_43 : decode cX5_recovered 43 = .ok (.iload_n 1, 1) := by decide +kernel
theorem dX5_recovered_44 : decode cX5_recovered 44 = .ok (.invokestatic 150, 3) := by decide +kernel
theorem dX5_recovered_47 : decode cX5_recovered 47 = .ok (.invokevirtual 154, 3) := by decide +kernel
theorem dX5_recovered_50 : decode cX5_recovered 50 = .ok (.ireturn, 1) := by decide +kernel
set_option maxRecDepth 20000 in
theorem ggX5_wouldHelp_X5_drawn : GoodIn wsX5_wouldHelp wsX5_drawn := goodIn_r _ [6, 7, 8, 9, 10, 11, 12, 13, 14, 15, 16, 17, 18, 19, 20, 21, 22, 23, 24, 25, 26, 27, 28, 29, 30, 31, 32, 33, 34, 35, 36, 37, 38, 39, 40, 41, 42, 43, 44, 45, 46, 47, 48, 49, 50, 51, 52, 53, 54, 5, 55, 69, 70, 71, 72, 73, 74, 75, 76, 77, 78, 79, 80, 81] (by decide +kernel) (by decide +kernel)
set_option maxRecDepth 20000 in
theorem gX5_wouldHelp_X5_drawn : GoodIn wsX5_wouldHelp (wsV RX5 95 RX5 yX5_drawn wsX5_drawn) := goodIn_app (goodIn_of _ (by decide +kernel)) ggX5_wouldHelp_X5_drawn
set_option maxRecDepth 20000 in
theorem ggX5_wouldHelp_X0_blockSet : GoodIn wsX5_wouldHelp wsX0_blockSet := goodIn_r _ [59, 28, 77, 78, 79, 80] (by decide +kernel) (by decide +kernel)
set_option maxRecDepth 20000 in
theorem gX5_wouldHelp_X0_blockSet : GoodIn wsX5_wouldHelp (wsV RX5 107 RX0 yX0_blockSet wsX0_blockSet) := goodIn_app (goodIn_of _ (by decide +kernel)) ggX5_wouldHelp_X0_blockSet
set_option maxRecDepth 20000 in
theorem ggX5_wouldHelp_X1_remainder : GoodIn wsX5_wouldHelp wsX1_remainder := goodIn_r _ [64, 65, 66, 5, 67, 68, 54, 55, 82, 83, 84] (by decide +kernel) (by decide +kernel)
set_option maxRecDepth 20000 in
theorem gX5_wouldHelp_X1_remainder : GoodIn wsX5_wouldHelp (wsV RX5 157 RX1 yX1_remainder wsX1_remainder) := goodIn_app (goodIn_of _ (by decide +kernel)) ggX5_wouldHelp_X1_remainder
theorem dX5_wouldHelp_0 : decode cX5_wouldHelp 0 = .ok (.aload_n 0, 1) := by decide +kernel
theorem dX5_wouldHelp_1 : decode cX5_wouldHelp 1 = .ok (.getfield 33, 3) := by decide +kernel
theorem dX5_wouldHelp_4 : decode cX5_wouldHelp 4 = .ok (.aload_n 0, 1) := by decide +kernel
theorem dX5_wouldHelp_5 : decode cX5_wouldHelp 5 = .ok (.iload_n 1, 1) := by decide +kernel
theorem dX5_wouldHelp_6 : decode cX5_wouldHelp 6 = .ok (.invokevirtual 95, 3) := by decide +kernel
theorem dX5_wouldHelp_9 : decode cX5_wouldHelp 9 = .ok (.invokevirtual 107, 3) := by decide +kernel
theorem dX5_wouldHelp_12 : decode cX5_wouldHelp 12 = .ok (.invokevirtual 157, 3) := by decide +kernel
theorem dX5_wouldHelp_15 : decode cX5_wouldHelp 15 = .ok (.lconst 0, 1) := by decide +kernel
theorem dX5_wouldHelp_16 : decode cX5_wouldHelp 16 = .ok (.lcmp, 1) := by decide +kernel
theorem dX5_wouldHelp_17 : decode cX5_wouldHelp 17 = .ok (.ifCond .eq 7, 3) := by decide +kernel
theorem dX5_wouldHelp_20 : decode cX5_wouldHelp 20 = .ok (.iconst 1, 1) := by decide +kernel
theorem dX5_wouldHelp_21 : decode cX5_wouldHelp 21 = .ok (.goto 4, 3) := by decide +kernel
theorem dX5_wouldHelp_24 : decode cX5_wouldHelp 24 = .ok (.iconst 0, 1) := by decide +kernel
theorem dX5_wouldHelp_25 : decode cX5_wouldHelp 25 = .ok (.ireturn, 1) := by decide +kernel
set_option maxRecDepth 20000 in
theorem ggX5_wouldDetermine_X5_drawn : GoodIn wsX5_wouldDetermine wsX5_drawn := goodIn_r _ [7, 8, 9, 2, 10, 11, 12, 13, 14, 15, 16, 17, 18, 19, 20, 21, 22, 23, 24, 25, 26, 27, 28, 29, 30, 31, 32, 33, 34, 35, 36, 37, 38, 39, 40, 41, 42, 43, 44, 45, 46, 47, 48, 49, 50, 51, 52, 53, 54, 6, 55, 77, 78, 79, 80, 81, 82, 83, 84, 85, 86, 87, 88, 89] (by decide +kernel) (by decide +kernel)
set_option maxRecDepth 20000 in
theorem gX5_wouldDetermine_X5_drawn : GoodIn wsX5_wouldDetermine (wsV RX5 95 RX5 yX5_drawn wsX5_drawn) := goodIn_app (goodIn_of _ (by decide +kernel)) ggX5_wouldDetermine_X5_drawn
set_option maxRecDepth 20000 in
theorem ggX5_wouldDetermine_X0_blockSet : GoodIn wsX5_wouldDetermine wsX0_blockSet := goodIn_r _ [59, 28, 85, 86, 87, 88] (by decide +kernel) (by decide +kernel)
set_option maxRecDepth 20000 in
theorem gX5_wouldDetermine_X0_blockSet : GoodIn wsX5_wouldDetermine (wsV RX5 107 RX0 yX0_blockSet wsX0_blockSet) := goodIn_app (goodIn_of _ (by decide +kernel)) ggX5_wouldDetermine_X0_blockSet
set_option maxRecDepth 20000 in
theorem ggX5_wouldDetermine_X1_remainder : GoodIn wsX5_wouldDetermine wsX1_remainder := goodIn_r _ [64, 65, 66, 6, 67, 68, 54, 55, 90, 91, 92] (by decide +kernel) (by decide +kernel)
set_option maxRecDepth 20000 in
theorem gX5_wouldDetermine_X1_remainder : GoodIn wsX5_wouldDetermine (wsV RX5 157 RX1 yX1_remainder wsX1_remainder) := goodIn_app (goodIn_of _ (by decide +kernel)) ggX5_wouldDetermine_X1_remainder
set_option maxRecDepth 20000 in
theorem ggX5_wouldDetermine_X3_blockCount : GoodIn wsX5_wouldDetermine wsX3_blockCount := goodIn_r _ [14, 15, 16, 82, 83, 84] (by decide +kernel) (by decide +kernel)
set_option maxRecDepth 20000 in
theorem gX5_wouldDetermine_X3_blockCount : GoodIn wsX5_wouldDetermine (wsV RX5 86 RX3 yX3_blockCount wsX3_blockCount) := goodIn_app (goodIn_of _ (by decide +kernel)) ggX5_wouldDetermine_X3_blockCount
set_option maxRecDepth 20000 in
theorem ggX5_wouldDetermine_X1_countLeaving : GoodIn wsX5_wouldDetermine wsX1_countLeaving := goodIn_r _ [72, 73, 74, 75, 63, 76, 65, 54, 6, 55, 90, 91, 92] (by decide +kernel) (by decide +kernel)
set_option maxRecDepth 20000 in
theorem gX5_wouldDetermine_X1_countLeaving : GoodIn wsX5_wouldDetermine (wsV RX5 142 RX1 yX1_countLeaving wsX1_countLeaving) := goodIn_app (goodIn_of _ (by decide +kernel)) ggX5_wouldDetermine_X1_countLeaving
theorem dX5_wouldDetermine_0 : decode cX5_wouldDetermine 0 = .ok (.aload_n 0, 1) := by decide +kernel
theorem dX5_wouldDetermine_1 : decode cX5_wouldDetermine 1 = .ok (.getfield 33, 3) := by decide +kernel
theorem dX5_wouldDetermine_4 : decode cX5_wouldDetermine 4 = .ok (.aload_n 0, 1) := by decide +kernel
theorem dX5_wouldDetermine_5 : decode cX5_wouldDetermine 5 = .ok (.iload_n 1, 1) := by decide +kernel
theorem dX5_wouldDetermine_6 : decode cX5_wouldDetermine 6 = .ok (.invokevirtual 95, 3) := by decide +kernel
theorem dX5_wouldDetermine_9 : decode cX5_wouldDetermine 9 = .ok (.invokevirtual 107, 3) := by decide +kernel
theorem dX5_wouldDetermine_12 : decode cX5_wouldDetermine 12 = .ok (.invokevirtual 157, 3) := by decide +kernel
theorem dX5_wouldDetermine_15 : decode cX5_wouldDetermine 15 = .ok (.lstore_n 2, 1) := by decide +kernel
theorem dX5_wouldDetermine_16 : decode cX5_wouldDetermine 16 = .ok (.lload_n 2, 1) := by decide +kernel
theorem dX5_wouldDetermine_17 : decode cX5_wouldDetermine 17 = .ok (.lconst 0, 1) := by decide +kernel
theorem dX5_wouldDetermine_18 : decode cX5_wouldDetermine 18 = .ok (.lcmp, 1) := by decide +kernel
theorem dX5_wouldDetermine_19 : decode cX5_wouldDetermine 19 = .ok (.ifCond .ne 5, 3) := by decide +kernel
theorem dX5_wouldDetermine_22 : decode cX5_wouldDetermine 22 = .ok (.iconst 0, 1) := by decide +kernel
theorem dX5_wouldDetermine_23 : decode cX5_wouldDetermine 23 = .ok (.ireturn, 1) := by decide +kernel
theorem dX5_wouldDetermine_24 : decode cX5_wouldDetermine 24 = .ok (.aload_n 0, 1) := by decide +kernel
theorem dX5_wouldDetermine_25 : decode cX5_wouldDetermine 25 = .ok (.getfield 33, 3) := by decide +kernel
theorem dX5_wouldDetermine_28 : decode cX5_wouldDetermine 28 = .ok (.lload_n 2, 1) := by decide +kernel
theorem dX5_wouldDetermine_29 : decode cX5_wouldDetermine 29 = .ok (.aload_n 0, 1) := by decide +kernel
theorem dX5_wouldDetermine_30 : decode cX5_wouldDetermine 30 = .ok (.getfield 19, 3) := by decide +kernel
theorem dX5_wouldDetermine_33 : decode cX5_wouldDetermine 33 = .ok (.invokevirtual 86, 3) := by decide +kernel
theorem dX5_wouldDetermine_36 : decode cX5_wouldDetermine 36 = .ok (.invokevirtual 142, 3) := by decide +kernel
theorem dX5_wouldDetermine_39 : decode cX5_wouldDetermine 39 = .ok (.ireturn, 1) := by decide +kernel
set_option maxRecDepth 20000 in
theorem ggX5_nextHelpful_X5_missing : GoodIn wsX5_nextHelpful wsX5_missing := goodIn_r _ [5, 6, 7, 8, 9, 10, 11, 12, 13, 14, 15, 16, 17, 18, 19, 20, 82, 83, 84, 85, 86, 87, 88, 89, 90, 91, 92] (by decide +kernel) (by decide +kernel)
set_option maxRecDepth 20000 in
theorem gX5_nextHelpful_X5_missing : GoodIn wsX5_nextHelpful (wsV RX5 161 RX5 yX5_missing wsX5_missing) := goodIn_app (goodIn_of _ (by decide +kernel)) ggX5_nextHelpful_X5_missing
set_option maxRecDepth 20000 in
theorem ggX5_nextHelpful_X5_wouldHelp : GoodIn wsX5_nextHelpful wsX5_wouldHelp := goodIn_r _ [24, 7, 25, 26, 27, 4, 28, 29, 30, 6, 8, 9, 10, 11, 12, 13, 14, 31, 32, 33, 34, 35, 36, 37, 38, 39, 40, 41, 42, 43, 44, 45, 46, 47, 48, 49, 50, 51, 52, 53, 54, 55, 56, 57, 58, 59, 60, 61, 62, 63, 64, 65, 66, 67, 68, 69, 70, 71, 72, 73, 74, 75, 76, 18, 77, 78, 79, 80, 81, 82, 83, 84, 85, 86, 87, 88, 89, 93, 94, 95, 96, 97, 90, 91, 92] (by decide +kernel) (by decide +kernel)
set_option maxRecDepth 20000 in
theorem gX5_nextHelpful_X5_wouldHelp : GoodIn wsX5_nextHelpful (wsV RX5 164 RX5 yX5_wouldHelp wsX5_wouldHelp) := goodIn_app (goodIn_of _ (by decide +kernel)) ggX5_nextHelpful_X5_wouldHelp
theorem dX5_nextHelpful_0 : decode cX5_nextHelpful 0 = .ok (.aload_n 0, 1) := by decide +kernel
theorem dX5_nextHelpful_1 : decode cX5_nextHelpful 1 = .ok (.invokevirtual 161, 3) := by decide +kernel
theorem dX5_nextHelpful_4 : decode cX5_nextHelpful 4 = .ok (.ifCond .ne 5, 3) := by decide +kernel
theorem dX5_nextHelpful_7 : decode cX5_nextHelpful 7 = .ok (.iconst (-1), 1) := by decide +kernel
theorem dX5_nextHelpful_8 : decode cX5_nextHelpful 8 = .ok (.ireturn, 1) := by decide +kernel
theorem dX5_nextHelpful_9 : decode cX5_nextHelpful 9 = .ok (.iconst 0, 1) := by decide +kernel
theorem dX5_nextHelpful_10 : decode cX5_nextHelpful 10 = .ok (.istore_n 2, 1) := by decide +kernel
theorem dX5_nextHelpful_11 : decode cX5_nextHelpful 11 = .ok (.iload_n 2, 1) := by decide +kernel
theorem dX5_nextHelpful_12 : decode cX5_nextHelpful 12 = .ok (.sipush 500, 3) := by decide +kernel
theorem dX5_nextHelpful_15 : decode cX5_nextHelpful 15 = .ok (.if_icmp .ge 21, 3) := by decide +kernel
theorem dX5_nextHelpful_18 : decode cX5_nextHelpful 18 = .ok (.aload_n 0, 1) := by decide +kernel
theorem dX5_nextHelpful_19 : decode cX5_nextHelpful 19 = .ok (.iload_n 1, 1) := by decide +kernel
theorem dX5_nextHelpful_20 : decode cX5_nextHelpful 20 = .ok (.iload_n 2, 1) := by decide +kernel
theorem dX5_nextHelpful_21 : decode cX5_nextHelpful 21 = .ok (.iadd, 1) := by decide +kernel
theorem dX5_nextHelpful_22 : decode cX5_nextHelpful 22 = .ok (.invokevirtual 164, 3) := by decide +kernel
theorem dX5_nextHelpful_25 : decode cX5_nextHelpful 25 = .ok (.ifCond .eq 5, 3) := by decide +kernel
theorem dX5_nextHelpful_28 : decode cX5_nextHelpful 28 = .ok (.iload_n 2, 1) := by decide +kernel
theorem dX5_nextHelpful_29 : decode cX5_nextHelpful 29 = .ok (.ireturn, 1) := by decide +kernel
theorem dX5_nextHelpful_30 : decode cX5_nextHelpful 30 = .ok (.iinc 2 1, 3) := by decide +kernel
theorem dX5_nextHelpful_33 : decode cX5_nextHelpful 33 = .ok (.goto (-22), 3) := by decide +kernel
theorem dX5_nextHelpful_36 : decode cX5_nextHelpful 36 = .ok (.iconst (-1), 1) := by decide +kernel
theorem dX5_nextHelpful_37 : decode cX5_nextHelpful 37 = .ok (.ireturn, 1) := by decide +kernel
set_option maxRecDepth 20000 in
theorem ggX5_missing_X3_blockCount : GoodIn wsX5_missing wsX3_blockCount := goodIn_r _ [7, 8, 9, 21, 22, 23] (by decide +kernel) (by decide +kernel)
set_option maxRecDepth 20000 in
theorem gX5_missing_X3_blockCount : GoodIn wsX5_missing (wsV RX5 86 RX3 yX3_blockCount wsX3_blockCount) := goodIn_app (goodIn_of _ (by decide +kernel)) ggX5_missing_X3_blockCount
set_option maxRecDepth 20000 in
theorem ggX5_missing_X1_rowCount : GoodIn wsX5_missing wsX1_rowCount := goodIn_r _ [14, 15, 24, 25, 26] (by decide +kernel) (by decide +kernel)
set_option maxRecDepth 20000 in
theorem gX5_missing_X1_rowCount : GoodIn wsX5_missing (wsV RX5 130 RX1 yX1_rowCount wsX1_rowCount) := goodIn_app (goodIn_of _ (by decide +kernel)) ggX5_missing_X1_rowCount
theorem dX5_missing_0 : decode cX5_missing 0 = .ok (.aload_n 0, 1) := by decide +kernel
theorem dX5_missing_1 : decode cX5_missing 1 = .ok (.getfield 19, 3) := by decide +kernel
theorem dX5_missing_4 : decode cX5_missing 4 = .ok (.invokevirtual 86, 3) := by decide +kernel
theorem dX5_missing_7 : decode cX5_missing 7 = .ok (.aload_n 0, 1) := by decide +kernel
theorem dX5_missing_8 : decode cX5_missing 8 = .ok (.getfield 33, 3) := by decide +kernel
theorem dX5_missing_11 : decode cX5_missing 11 = .ok (.invokevirtual 130, 3) := by decide +kernel
theorem dX5_missing_14 : decode cX5_missing 14 = .ok (.isub, 1) := by decide +kernel
theorem dX5_missing_15 : decode cX5_missing 15 = .ok (.ireturn, 1) := by decide +kernel
set_option maxRecDepth 20000 in
theorem ggX5_beginTransfer_X3_begin : GoodIn wsX5_beginTransfer wsX3_begin := goodIn_r _ [8, 9, 10, 11, 12, 13, 14, 15, 98, 99, 100] (by decide +kernel) (by decide +kernel)
set_option maxRecDepth 20000 in
theorem gX5_beginTransfer_X3_begin : GoodIn wsX5_beginTransfer (wsV RX5 167 RX3 yX3_begin wsX3_begin) := goodIn_app (goodIn_of _ (by decide +kernel)) ggX5_beginTransfer_X3_begin
set_option maxRecDepth 20000 in
theorem ggX5_beginTransfer_X2_clear : GoodIn wsX5_beginTransfer wsX2_clear := goodIn_r _ [20, 21, 22, 23, 24, 25, 13, 14, 15, 101, 102, 103, 104, 105, 106] (by decide +kernel) (by decide +kernel)
set_option maxRecDepth 20000 in
theorem gX5_beginTransfer_X2_clear : GoodIn wsX5_beginTransfer (wsV RX5 170 RX2 yX2_clear wsX2_clear) := goodIn_app (goodIn_of _ (by decide +kernel)) ggX5_beginTransfer_X2_clear
set_option maxRecDepth 20000 in
theorem ggX5_beginTransfer_X1_clear : GoodIn wsX5_beginTransfer wsX1_clear := goodIn_r _ [30, 31, 32, 33, 34, 35, 14, 36, 37, 13, 15, 107, 108, 109] (by decide +kernel) (by decide +kernel)
set_option maxRecDepth 20000 in
theorem gX5_beginTransfer_X1_clear : GoodIn wsX5_beginTransfer (wsV RX5 173 RX1 yX1_clear wsX1_clear) := goodIn_app (goodIn_of _ (by decide +kernel)) ggX5_beginTransfer_X1_clear
set_option maxRecDepth 20000 in
theorem ggX5_beginTransfer_X5_setOf : GoodIn wsX5_beginTransfer wsX5_setOf := goodIn_r _ [41] (by decide +kernel) (by decide +kernel)
set_option maxRecDepth 20000 in
theorem gX5_beginTransfer_X5_setOf : GoodIn wsX5_beginTransfer (va_wsS RX5 150 yX5_setOf wsX5_setOf) := goodIn_app (goodIn_of _ (by decide +kernel)) ggX5_beginTransfer_X5_setOf
set_option maxRecDepth 20000 in
theorem ggX5_beginTransfer_X3_coveredBy : GoodIn wsX5_beginTransfer wsX3_coveredBy := goodIn_r _ [45, 9, 39, 40, 41, 98, 99, 100] (by decide +kernel) (by decide +kernel)
set_option maxRecDepth 20000 in
theorem gX5_beginTransfer_X3_coveredBy : GoodIn wsX5_beginTransfer (wsV RX5 174 RX3 yX3_coveredBy wsX3_coveredBy) := goodIn_app (goodIn_of _ (by decide +kernel)) ggX5_beginTransfer_X3_coveredBy
set_option maxRecDepth 20000 in
theorem ggX5_beginTransfer_X5_addEquation : GoodIn wsX5_beginTransfer wsX5_addEquation := goodIn_r _ [49, 2, 3, 50, 51, 52, 19, 53, 21, 54, 55, 56, 57, 29, 58, 32, 33, 31, 59, 60, 61, 62, 63, 40, 64, 38, 39, 41, 65, 66, 67, 68, 69, 70, 71, 72, 73, 74, 75, 76, 77, 93, 94, 95, 96, 97, 101, 102, 103, 104, 105, 106, 107, 108, 109] (by decide +kernel) (by decide +kernel)
set_option maxRecDepth 20000 in
theorem gX5_beginTransfer_X5_addEquation : GoodIn wsX5_beginTransfer (wsV RX5 177 RX5 yX5_addEquation wsX5_addEquation) := goodIn_app (goodIn_of _ (by decide +kernel)) ggX5_beginTransfer_X5_addEquation
set_option maxRecDepth 20000 in
theorem ggX5_beginTransfer_X2_peelOn : GoodIn wsX5_beginTransfer wsX2_peelOn := goodIn_r _ [81, 22, 82, 83, 84, 19, 85, 21, 54, 23, 86, 87, 68, 69, 70, 71, 72, 73, 88, 89, 90, 91, 92, 24, 65, 40, 66, 67, 39, 41, 101, 102, 103, 104, 105, 106] (by decide +kernel) (by decide +kernel)
set_option maxRecDepth 20000 in
theorem gX5_beginTransfer_X2_peelOn : GoodIn wsX5_beginTransfer (wsV RX5 181 RX2 yX2_peelOn wsX2_peelOn) := goodIn_app (goodIn_of _ (by decide +kernel)) ggX5_beginTransfer_X2_peelOn
theorem dX5_beginTransfer_0 : decode cX5_beginTransfer 0 = .ok (.aload_n 0, 1) := by decide +kernel
theorem dX5_beginTransfer_1 : decode cX5_beginTransfer 1 = .ok (.getfield 19, 3) := by decide +kernel
theorem dX5_beginTransfer_4 : decode cX5_beginTransfer 4 = .ok (.iload_n 1, 1) := by decide +kernel
theorem dX5_beginTransfer_5 : decode cX5_beginTransfer 5 = .ok (.iload_n 2, 1) := by decide +kernel
theorem dX5_beginTransfer_6 : decode cX5_beginTransfer 6 = .ok (.invokevirtual 167, 3) := by decide +kernel
theorem dX5_beginTransfer_9 : decode cX5_beginTransfer 9 = .ok (.aload_n 0, 1) := by decide +kernel
theorem dX5_beginTransfer_10 : decode cX5_beginTransfer 10 = .ok (.getfield 26, 3) := by decide +kernel
theorem dX5_beginTransfer_13 : decode cX5_beginTransfer 13 = .ok (.invokevirtual 170, 3) := by decide +kernel
theorem dX5_beginTransfer_16 : decode cX5_beginTransfer 16 = .ok (.aload_n 0, 1) := by decide +kernel
theorem dX5_beginTransfer_17 : decode cX5_beginTransfer 17 = .ok (.getfield 33, 3) := by decide +kernel
theorem dX5_beginTransfer_20 : decode cX5_beginTransfer 20 = .ok (.invokevirtual 173, 3) := by decide +kernel
theorem dX5_beginTransfer_23 : decode cX5_beginTransfer 23 = .ok (.iconst 0, 1) := by decide +kernel
theorem dX5_beginTransfer_24 : decode cX5_beginTransfer 24 = .ok (.istore_n 3, 1) := by decide +kernel
theorem dX5_beginTransfer_25 : decode cX5_beginTransfer 25 = .ok (.iload_n 3, 1) := by decide +kernel
theorem dX5_beginTransfer_26 : decode cX5_beginTransfer 26 = .ok (.iload_n 2, 1) := by decide +kernel
theorem dX5_beginTransfer_27 : decode cX5_beginTransfer 27 = .ok (.if_icmp .ge 29, 3) := by decide +kernel
theorem dX5_beginTransfer_30 : decode cX5_beginTransfer 30 = .ok (.aload_n 0, 1) := by decide +kernel
theorem dX5_beginTransfer_31 : decode cX5_beginTransfer 31 = .ok (.iload_n 1, 1) := by decide +kernel
theorem dX5_beginTransfer_32 : decode cX5_beginTransfer 32 = .ok (.iload_n 3, 1) := by decide +kernel
theorem dX5_beginTransfer_33 : decode cX5_beginTransfer 33 = .ok (.iadd, 1) := by decide +kernel
theorem dX5_beginTransfer_34 : decode cX5_beginTransfer 34 = .ok (.invokestatic 150, 3) := by decide +kernel
theorem dX5_beginTransfer_37 : decode cX5_beginTransfer 37 = .ok (.aload_n 0, 1) := by decide +kernel
theorem dX5_beginTransfer_38 : decode cX5_beginTransfer 38 = .ok (.getfield 19, 3) := by decide +kernel
theorem dX5_beginTransfer_41 : decode cX5_beginTransfer 41 = .ok (.iload_n 3, 1) := by decide +kernel
theorem dX5_beginTransfer_42 : decode cX5_beginTransfer 42 = .ok (.invokevirtual 174, 3) := by decide +kernel
theorem dX5_beginTransfer_45 : decode cX5_beginTransfer 45 = .ok (.lor, 1) := by decide +kernel
theorem dX5_beginTransfer_46 : decode cX5_beginTransfer 46 = .ok (.iconst 0, 1) := by decide +kernel
theorem dX5_beginTransfer_47 : decode cX5_beginTransfer 47 = .ok (.invokevirtual 177, 3) := by decide +kernel
theorem dX5_beginTransfer_50 : decode cX5_beginTransfer 50 = .ok (.iinc 3 1, 3) := by decide +kernel
theorem dX5_beginTransfer_53 : decode cX5_beginTransfer 53 = .ok (.goto (-28), 3) := by decide +kernel
theorem dX5_beginTransfer_56 : decode cX5_beginTransfer 56 = .ok (.aload_n 0, 1) := by decide +kernel
theorem dX5_beginTransfer_57 : decode cX5_beginTransfer 57 = .ok (.getfield 26, 3) := by decide +kernel
theorem dX5_beginTransfer_60 : decode cX5_beginTransfer 60 = .ok (.invokevirtual 181, 3) := by decide +kernel
theorem dX5_beginTransfer_63 : decode cX5_beginTransfer 63 = .ok (.ireturn, 1) := by decide +kernel
set_option maxRecDepth 20000 in
theorem ggX5_isBlock_X3_blockCount : GoodIn wsX5_isBlock wsX3_blockCount := goodIn_r _ [6, 7, 8, 14, 15, 16] (by decide +kernel) (by decide +kernel)
set_option maxRecDepth 20000 in
theorem gX5_isBlock_X3_blockCount : GoodIn wsX5_isBlock (wsV RX5 86 RX3 yX3_blockCount wsX3_blockCount) := goodIn_app (goodIn_of _ (by decide +kernel)) ggX5_isBlock_X3_blockCount
theorem dX5_isBlock_0 : decode cX5_isBlock 0 = .ok (.iload_n 1, 1) := by decide +kernel
theorem dX5_isBlock_1 : decode cX5_isBlock 1 = .ok (.ifCond .lt 18, 3) := by decide +kernel
theorem dX5_isBlock_4 : decode cX5_isBlock 4 = .ok (.iload_n 1, 1) := by decide +kernel
theorem dX5_isBlock_5 : decode cX5_isBlock 5 = .ok (.aload_n 0, 1) := by decide +kernel
theorem dX5_isBlock_6 : decode cX5_isBlock 6 = .ok (.getfield 19, 3) := by decide +kernel
theorem dX5_isBlock_9 : decode cX5_isBlock 9 = .ok (.invokevirtual 86, 3) := by decide +kernel
theorem dX5_isBlock_12 : decode cX5_isBlock 12 = .ok (.if_icmp .ge 7, 3) := by decide +kernel
theorem dX5_isBlock_15 : decode cX5_isBlock 15 = .ok (.iconst 1, 1) := by decide +kernel
theorem dX5_isBlock_16 : decode cX5_isBlock 16 = .ok (.goto 4, 3) := by decide +kernel
theorem dX5_isBlock_19 : decode cX5_isBlock 19 = .ok (.iconst 0, 1) := by decide +kernel
theorem dX5_isBlock_20 : decode cX5_isBlock 20 = .ok (.ireturn, 1) := by decide +kernel
set_option maxRecDepth 20000 in
theorem ggX5_drawn_X3_blockCount : GoodIn wsX5_drawn wsX3_blockCount := goodIn_r _ [8, 9, 10, 56, 57, 58] (by decide +kernel) (by decide +kernel)
set_option maxRecDepth 20000 in
theorem gX5_drawn_X3_blockCount : GoodIn wsX5_drawn (wsV RX5 86 RX3 yX3_blockCount wsX3_blockCount) := goodIn_app (goodIn_of _ (by decide +kernel)) ggX5_drawn_X3_blockCount
set_option maxRecDepth 20000 in
theorem ggX5_drawn_X0_draw : GoodIn wsX5_drawn wsX0_draw := goodIn_r _ [15, 16, 17, 18, 19, 20, 21, 22, 23, 24, 25, 26, 27, 28, 29, 30, 31, 32, 14, 33, 34, 35, 36, 37, 38, 39, 40, 41, 42, 43, 44, 45, 46, 47, 48, 49, 50, 59, 60, 61, 62, 63] (by decide +kernel) (by decide +kernel)
set_option maxRecDepth 20000 in
theorem gX5_drawn_X0_draw : GoodIn wsX5_drawn (wsV RX5 184 RX0 yX0_draw wsX0_draw) := goodIn_app (goodIn_of _ (by decide +kernel)) ggX5_drawn_X0_draw
theorem dX5_drawn_0 : decode cX5_drawn 0 = .ok (.aload_n 0, 1) := by decide +kernel
theorem dX5_drawn_1 : decode cX5_drawn 1 = .ok (.getfield 40, 3) := by decide +kernel
theorem dX5_drawn_4 : decode cX5_drawn 4 = .ok (.iload_n 1, 1) := by decide +kernel
theorem dX5_drawn_5 : decode cX5_drawn 5 = .ok (.aload_n 0, 1) := by decide +kernel
theorem dX5_drawn_6 : decode cX5_drawn 6 = .ok (.getfield 12, 3) := by decide +kernel
theorem dX5_drawn_9 : decode cX5_drawn 9 = .ok (.aload_n 0, 1) := by decide +kernel
theorem dX5_drawn_10 : decode cX5_drawn 10 = .ok (.getfield 19, 3) := by decide +kernel
theorem dX5_drawn_13 : decode cX5_drawn 13 = .ok (.invokevirtual 86, 3) := by decide +kernel
theorem dX5_drawn_16 : decode cX5_drawn 16 = .ok (.invokevirtual 184, 3) := by decide +kernel
theorem dX5_drawn_19 : decode cX5_drawn 19 = .ok (.aload_n 0, 1) := by decide +kernel
theorem dX5_drawn_20 : decode cX5_drawn 20 = .ok (.getfield 40, 3) := by decide +kernel
theorem dX5_drawn_23 : decode cX5_drawn 23 = .ok (.areturn, 1) := by decide +kernel
set_option maxRecDepth 20000 in
theorem ggX5_canTake_X2_equationCount : GoodIn wsX5_canTake wsX2_equationCount := goodIn_r _ [8, 9, 42, 43, 44, 45, 46, 47] (by decide +kernel) (by decide +kernel)
set_option maxRecDepth 20000 in
theorem gX5_canTake_X2_equationCount : GoodIn wsX5_canTake (wsV RX5 127 RX2 yX2_equationCount wsX2_equationCount) := goodIn_app (goodIn_of _ (by decide +kernel)) ggX5_canTake_X2_equationCount
set_option maxRecDepth 20000 in
theorem ggX5_canTake_X3_parityCount : GoodIn wsX5_canTake wsX3_parityCount := goodIn_r _ [14, 15, 48, 49, 50] (by decide +kernel) (by decide +kernel)
set_option maxRecDepth 20000 in
theorem gX5_canTake_X3_parityCount : GoodIn wsX5_canTake (wsV RX5 188 RX3 yX3_parityCount wsX3_parityCount) := goodIn_app (goodIn_of _ (by decide +kernel)) ggX5_canTake_X3_parityCount
set_option maxRecDepth 20000 in
theorem ggX5_canTake_X1_contradicts : GoodIn wsX5_canTake wsX1_contradicts := goodIn_r _ [20, 21, 22, 23, 19, 24, 25, 26, 27, 28, 29, 30, 31, 32, 33, 34, 35, 36, 51, 52, 53] (by decide +kernel) (by decide +kernel)
set_option maxRecDepth 20000 in
theorem gX5_canTake_X1_contradicts : GoodIn wsX5_canTake (wsV RX5 191 RX1 yX1_contradicts wsX1_contradicts) := goodIn_app (goodIn_of _ (by decide +kernel)) ggX5_canTake_X1_contradicts
theorem dX5_canTake_0 : decode cX5_canTake 0 = .ok (.aload_n 0, 1) := by decide +kernel
theorem dX5_canTake_1 : decode cX5_canTake 1 = .ok (.getfield 26, 3) := by decide +kernel
theorem dX5_canTake_4 : decode cX5_canTake 4 = .ok (.invokevirtual 127, 3) := by decide +kernel
theorem dX5_canTake_7 : decode cX5_canTake 7 = .ok (.aload_n 0, 1) := by decide +kernel
theorem dX5_canTake_8 : decode cX5_canTake 8 = .ok (.getfield 19, 3) := by decide +kernel
theorem dX5_canTake_11 : decode cX5_canTake 11 = .ok (.invokevirtual 188, 3) := by decide +kernel
theorem dX5_canTake_14 : decode cX5_canTake 14 = .ok (.isub, 1) := by decide +kernel
theorem dX5_canTake_15 : decode cX5_canTake 15 = .ok (.istore 4, 2) := by decide +kernel
theorem dX5_canTake_17 : decode cX5_canTake 17 = .ok (.iload 4, 2) := by decide +kernel
theorem dX5_canTake_19 : decode cX5_canTake 19 = .ok (.bipush 120, 2) := by decide +kernel
theorem dX5_canTake_21 : decode cX5_canTake 21 = .ok (.if_icmp .ge 19, 3) := by decide +kernel
theorem dX5_canTake_24 : decode cX5_canTake 24 = .ok (.aload_n 0, 1) := by decide +kernel
theorem dX5_canTake_25 : decode cX5_canTake 25 = .ok (.getfield 33, 3) := by decide +kernel
theorem dX5_canTake_28 : decode cX5_canTake 28 = .ok (.lload_n 1, 1) := by decide +kernel
theorem dX5_canTake_29 : decode cX5_canTake 29 = .ok (.iload_n 3, 1) := by decide +kernel
theorem dX5_canTake_30 : decode cX5_canTake 30 = .ok (.invokevirtual 191, 3) := by decide +kernel
theorem dX5_canTake_33 : decode cX5_canTake 33 = .ok (.ifCond .ne 7, 3) := by decide +kernel
theorem dX5_canTake_36 : decode cX5_canTake 36 = .ok (.iconst 1, 1) := by decide +kernel
theorem dX5_canTake_37 : decode cX5_canTake 37 = .ok (.goto 4, 3) := by decide +kernel
theorem dX5_canTake_40 : decode cX5_canTake 40 = .ok (.iconst 0, 1) := by decide +kernel
theorem dX5_canTake_41 : decode cX5_canTake 41 = .ok (.ireturn, 1) := by decide +kernel
set_option maxRecDepth 20000 in
theorem ggX5_take_X5_addEquation : GoodIn wsX5_take wsX5_addEquation := goodIn_r _ [6, 1, 7, 8, 9, 10, 11, 12, 13, 14, 15, 16, 17, 18, 19, 20, 21, 22, 23, 24, 25, 26, 27, 5, 28, 29, 30, 31, 32, 33, 34, 35, 36, 37, 38, 39, 40, 41, 42, 43, 44, 63, 64, 65, 66, 67, 68, 69, 70, 71, 72, 73, 74, 75, 76] (by decide +kernel) (by decide +kernel)
set_option maxRecDepth 20000 in
theorem gX5_take_X5_addEquation : GoodIn wsX5_take (wsV RX5 177 RX5 yX5_addEquation wsX5_addEquation) := goodIn_app (goodIn_of _ (by decide +kernel)) ggX5_take_X5_addEquation
set_option maxRecDepth 20000 in
theorem ggX5_take_X2_peelOn : GoodIn wsX5_take wsX2_peelOn := goodIn_r _ [48, 49, 50, 51, 52, 11, 53, 13, 14, 54, 55, 56, 35, 36, 37, 38, 39, 40, 57, 58, 59, 60, 61, 62, 32, 5, 33, 34, 30, 31, 68, 69, 70, 71, 72, 73] (by decide +kernel) (by decide +kernel)
set_option maxRecDepth 20000 in
theorem gX5_take_X2_peelOn : GoodIn wsX5_take (wsV RX5 181 RX2 yX2_peelOn wsX2_peelOn) := goodIn_app (goodIn_of _ (by decide +kernel)) ggX5_take_X2_peelOn
theorem dX5_take_0 : decode cX5_take 0 = .ok (.aload_n 0, 1) := by decide +kernel
theorem dX5_take_1 : decode cX5_take 1 = .ok (.lload_n 1, 1) := by decide +kernel
theorem dX5_take_2 : decode cX5_take 2 = .ok (.iload_n 3, 1) := by decide +kernel
theorem dX5_take_3 : decode cX5_take 3 = .ok (.invokevirtual 177, 3) := by decide +kernel
theorem dX5_take_6 : decode cX5_take 6 = .ok (.aload_n 0, 1) := by decide +kernel
theorem dX5_take_7 : decode cX5_take 7 = .ok (.getfield 26, 3) := by decide +kernel
theorem dX5_take_10 : decode cX5_take 10 = .ok (.invokevirtual 181, 3) := by decide +kernel
theorem dX5_take_13 : decode cX5_take 13 = .ok (.ireturn, 1) := by decide +kernel
set_option maxRecDepth 20000 in
theorem ggX5_addEquation_X2_addEquation : GoodIn wsX5_addEquation wsX2_addEquation := goodIn_r _ [7, 8, 9, 46, 47, 48, 49, 50, 51] (by decide +kernel) (by decide +kernel)
set_option maxRecDepth 20000 in
theorem gX5_addEquation_X2_addEquation : GoodIn wsX5_addEquation (wsV RX5 194 RX2 yX2_addEquation wsX2_addEquation) := goodIn_app (goodIn_of _ (by decide +kernel)) ggX5_addEquation_X2_addEquation
set_option maxRecDepth 20000 in
theorem ggX5_addEquation_X1_addEquation : GoodIn wsX5_addEquation wsX1_addEquation := goodIn_r _ [14, 15, 16, 17, 18, 19, 20, 13, 21, 22, 23, 24, 25, 26, 27, 28, 29, 30, 31, 32, 33, 34, 35, 36, 37, 38, 39, 40, 52, 53, 54] (by decide +kernel) (by decide +kernel)
set_option maxRecDepth 20000 in
theorem gX5_addEquation_X1_addEquation : GoodIn wsX5_addEquation (wsV RX5 197 RX1 yX1_addEquation wsX1_addEquation) := goodIn_app (goodIn_of _ (by decide +kernel)) ggX5_addEquation_X1_addEquation
theorem dX5_addEquation_0 : decode cX5_addEquation 0 = .ok (.aload_n 0, 1) := by decide +kernel
theorem dX5_addEquation_1 : decode cX5_addEquation 1 = .ok (.getfield 26, 3) := by decide +kernel
theorem dX5_addEquation_4 : decode cX5_addEquation 4 = .ok (.lload_n 1, 1) := by decide +kernel
theorem dX5_addEquation_5 : decode cX5_addEquation 5 = .ok (.invokevirtual 194, 3) := by decide +kernel
theorem dX5_addEquation_8 : decode cX5_addEquation 8 = .ok (.aload_n 0, 1) := by decide +kernel
theorem dX5_addEquation_9 : decode cX5_addEquation 9 = .ok (.getfield 33, 3) := by decide +kernel
theorem dX5_addEquation_12 : decode cX5_addEquation 12 = .ok (.lload_n 1, 1) := by decide +kernel
theorem dX5_addEquation_13 : decode cX5_addEquation 13 = .ok (.iload_n 3, 1) := by decide +kernel
theorem dX5_addEquation_14 : decode cX5_addEquation 14 = .ok (.invokevirtual 197, 3) := by decide +kernel
theorem dX5_addEquation_17 : decode cX5_addEquation 17 = .ok (.return_, 1) := by decide +kernel
theorem dX5_setOf_0 : decode cX5_setOf 0 = .ok (.lconst 1, 1) := by decide +kernel
theorem dX5_setOf_1 : decode cX5_setOf 1 = .ok (.iload_n 0, 1) := by decide +kernel
theorem dX5_setOf_2 : decode cX5_setOf 2 = .ok (.lshl, 1) := by decide +kernel
theorem dX5_setOf_3 : decode cX5_setOf 3 = .ok (.lreturn, 1) := by decide +kernel
set_option maxRecDepth 20000 in
theorem ggX5_holds_X5_setOf : GoodIn wsX5_holds wsX5_setOf := goodIn_r _ [4] (by decide +kernel) (by decide +kernel)
set_option maxRecDepth 20000 in
theorem gX5_holds_X5_setOf : GoodIn wsX5_holds (va_wsS RX5 150 yX5_setOf wsX5_setOf) := goodIn_app (goodIn_of _ (by decide +kernel)) ggX5_holds_X5_setOf
theorem dX5_holds_0 : decode cX5_holds 0 = .ok (.lload_n 0, 1) := by decide +kernel
theorem dX5_holds_1 : decode cX5_holds 1 = .ok (.iload_n 2, 1) := by decide +kernel
theorem dX5_holds_2 : decode cX5_holds 2 = .ok (.invokestatic 150, 3) := by decide +kernel
theorem dX5_holds_5 : decode cX5_holds 5 = .ok (.land, 1) := by decide +kernel
theorem dX5_holds_6 : decode cX5_holds 6 = .ok (.lconst 0, 1) := by decide +kernel
theorem dX5_holds_7 : decode cX5_holds 7 = .ok (.lcmp, 1) := by decide +kernel
theorem dX5_holds_8 : decode cX5_holds 8 = .ok (.ifCond .eq 7, 3) := by decide +kernel
theorem dX5_holds_11 : decode cX5_holds 11 = .ok (.iconst 1, 1) := by decide +kernel
theorem dX5_holds_12 : decode cX5_holds 12 = .ok (.goto 4, 3) := by decide +kernel
theorem dX5_holds_15 : decode cX5_holds 15 = .ok (.iconst 0, 1) := by decide +kernel
theorem dX5_holds_16 : decode cX5_holds 16 = .ok (.ireturn, 1) := by decide +kernel
set_option maxRecDepth 20000 in
theorem ggX5_lowestOf_J13_bitCount_95d88 : GoodIn wsX5_lowestOf wsJ13_bitCount_95d88 := goodIn_r _ [4, 5, 6, 7] (by decide +kernel) (by decide +kernel)
set_option maxRecDepth 20000 in
theorem gX5_lowestOf_J13_bitCount_95d88 : GoodIn wsX5_lowestOf (va_wsS RX5 198 yJ13_bitCount_95d88 wsJ13_bitCount_95d88) := goodIn_app (goodIn_of _ (by decide +kernel)) ggX5_lowestOf_J13_bitCount_95d88
theorem dX5_lowestOf_0 : decode cX5_lowestOf 0 = .ok (.lload_n 0, 1) := by decide +kernel
theorem dX5_lowestOf_1 : decode cX5_lowestOf 1 = .ok (.lload_n 0, 1) := by decide +kernel
theorem dX5_lowestOf_2 : decode cX5_lowestOf 2 = .ok (.lneg, 1) := by decide +kernel
theorem dX5_lowestOf_3 : decode cX5_lowestOf 3 = .ok (.land, 1) := by decide +kernel
theorem dX5_lowestOf_4 : decode cX5_lowestOf 4 = .ok (.lconst 1, 1) := by decide +kernel
theorem dX5_lowestOf_5 : decode cX5_lowestOf 5 = .ok (.lsub, 1) := by decide +kernel
theorem dX5_lowestOf_6 : decode cX5_lowestOf 6 = .ok (.invokestatic 198, 3) := by decide +kernel
theorem dX5_lowestOf_9 : decode cX5_lowestOf 9 = .ok (.ireturn, 1) := by decide +kernel
set_option maxRecDepth 20000 in
theorem ggX6_init_X6_clear : GoodIn wsX6_init wsX6_clear := goodIn_r _ [23, 24, 25, 26, 27, 13, 14, 15, 28, 29, 30, 31, 32, 33, 34, 35, 36, 37, 38, 39, 40, 41, 42, 43, 44, 45, 46, 47, 48, 49] (by decide +kernel) (by decide +kernel)
set_option maxRecDepth 20000 in
theorem gX6_init_X6_clear : GoodIn wsX6_init (wsV RX6 51 RX6 yX6_clear wsX6_clear) := goodIn_app (goodIn_of _ (by decide +kernel)) ggX6_init_X6_clear
theorem dX6_init_0 : decode cX6_init 0 = .ok (.aload_n 0, 1) := by decide +kernel
theorem dX6_init_1 : decode cX6_init 1 = .ok (.invokespecial 1, 3) := by decide +kernel
theorem dX6_init_4 : decode cX6_init 4 = .ok (.aload_n 0, 1) := by decide +kernel
theorem dX6_init_5 : decode cX6_init 5 = .ok (.bipush 13, 2) := by decide +kernel
theorem dX6_init_7 : decode cX6_init 7 = .ok (.newarray .int, 2) := by decide +kernel
theorem dX6_init_9 : decode cX6_init 9 = .ok (.putfield 7, 3) := by decide +kernel
theorem dX6_init_12 : decode cX6_init 12 = .ok (.aload_n 0, 1) := by decide +kernel
theorem dX6_init_13 : decode cX6_init 13 = .ok (.iconst 1, 1) := by decide +kernel
theorem dX6_init_14 : decode cX6_init 14 = .ok (.putfield 13, 3) := by decide +kernel
theorem dX6_init_17 : decode cX6_init 17 = .ok (.aload_n 0, 1) := by decide +kernel
theorem dX6_init_18 : decode cX6_init 18 = .ok (.iconst 1, 1) := by decide +kernel
theorem dX6_init_19 : decode cX6_init 19 = .ok (.putfield 17, 3) := by decide +kernel
theorem dX6_init_22 : decode cX6_init 22 = .ok (.aload_n 0, 1) := by decide +kernel
theorem dX6_init_23 : decode cX6_init 23 = .ok (.bipush 32, 2) := by decide +kernel
theorem dX6_init_25 : decode cX6_init 25 = .ok (.newarray .int, 2) := by decide +kernel
theorem dX6_init_27 : decode cX6_init 27 = .ok (.putfield 20, 3) := by decide +kernel
theorem dX6_init_30 : decode cX6_init 30 = .ok (.aload_n 0, 1) := by decide +kernel
theorem dX6_init_31 : decode cX6_init 31 = .ok (.bipush 126, 2) := by decide +kernel
theorem dX6_init_33 : decode cX6_init 33 = .ok (.newarray .long, 2) := by decide +kernel
theorem dX6_init_35 : decode cX6_init 35 = .ok (.putfield 23, 3) := by decide +kernel
theorem dX6_init_38 : decode cX6_init 38 = .ok (.aload_n 0, 1) := by decide +kernel
theorem dX6_init_39 : decode cX6_init 39 = .ok (.bipush 126, 2) := by decide +kernel
theorem dX6_init_41 : decode cX6_init 41 = .ok (.newarray .int, 2) := by decide +kernel
theorem dX6_init_43 : decode cX6_init 43 = .ok (.putfield 27, 3) := by decide +kernel
theorem dX6_init_46 : decode cX6_init 46 = .ok (.aload_n 0, 1) := by decide +kernel
theorem dX6_init_47 : decode cX6_init 47 = .ok (.bipush 38, 2) := by decide +kernel
theorem dX6_init_49 : decode cX6_init 49 = .ok (.newarray .int, 2) := by decide +kernel
theorem dX6_init_51 : decode cX6_init 51 = .ok (.putfield 30, 3) := by decide +kernel
theorem dX6_init_54 : decode cX6_init 54 = .ok (.aload_n 0, 1) := by decide +kernel
theorem dX6_init_55 : decode cX6_init 55 = .ok (.bipush 38, 2) := by decide +kernel
theorem dX6_init_57 : decode cX6_init 57 = .ok (.newarray .int, 2) := by decide +kernel
theorem dX6_init_59 : decode cX6_init 59 = .ok (.putfield 33, 3) := by decide +kernel
theorem dX6_init_62 : decode cX6_init 62 = .ok (.aload_n 0, 1) := by decide +kernel
theorem dX6_init_63 : decode cX6_init 63 = .ok (.bipush 38, 2) := by decide +kernel
theorem dX6_init_65 : decode cX6_init 65 = .ok (.newarray .long, 2) := by decide +kernel
theorem dX6_init_67 : decode cX6_init 67 = .ok (.putfield 36, 3) := by decide +kernel
theorem dX6_init_70 : decode cX6_init 70 = .ok (.aload_n 0, 1) := by decide +kernel
theorem dX6_init_71 : decode cX6_init 71 = .ok (.bipush 38, 2) := by decide +kernel
theorem dX6_init_73 : decode cX6_init 73 = .ok (.newarray .int, 2) := by decide +kernel
theorem dX6_init_75 : decode cX6_init 75 = .ok (.putfield 39, 3) := by decide +kernel
theorem dX6_init_78 : decode cX6_init 78 = .ok (.aload_n 0, 1) := by decide +kernel
theorem dX6_init_79 : decode cX6_init 79 = .ok (.bipush 38, 2) := by decide +kernel
theorem dX6_init_81 : decode cX6_init 81 = .ok (.newarray .long, 2) := by decide +kernel
theorem dX6_init_83 : decode cX6_init 83 = .ok (.putfield 42, 3) := by decide +kernel
theorem dX6_init_86 : decode cX6_init 86 = .ok (.aload_n 0, 1) := by decide +kernel
theorem dX6_init_87 : decode cX6_init 87 = .ok (.bipush 38, 2) := by decide +kernel
theorem dX6_init_89 : decode cX6_init 89 = .ok (.newarray .int, 2) := by decide +kernel
theorem dX6_init_91 : decode cX6_init 91 = .ok (.putfield 45, 3) := by decide +kernel
theorem dX6_init_94 : decode cX6_init 94 = .ok (.aload_n 0, 1) := by decide +kernel
theorem dX6_init_95 : decode cX6_init 95 = .ok (.bipush 38, 2) := by decide +kernel
theorem dX6_init_97 : decode cX6_init 97 = .ok (.newarray .int, 2) := by decide +kernel
theorem dX6_init_99 : decode cX6_init 99 = .ok (.putfield 48, 3) := by decide +kernel
theorem dX6_init_102 : decode cX6_init 102 = .ok (.aload_n 0, 1) := by decide +kernel
theorem dX6_init_103 : decode cX6_init 103 = .ok (.getfield 7, 3) := by decide +kernel
theorem dX6_init_106 : decode cX6_init 106 = .ok (.iconst 1, 1) := by decide +kernel
theorem dX6_init_107 : decode cX6_init 107 = .ok (.iconst 3, 1) := by decide +kernel
theorem dX6_init_108 : decode cX6_init 108 = .ok (.iastore, 1) := by decide +kernel
theorem dX6_init_109 : decode cX6_init 109 = .ok (.aload_n 0, 1) := by decide +kernel
theorem dX6_init_110 : decode cX6_init 110 = .ok (.getfield 7, 3) := by decide +kernel
theorem dX6_init_113 : decode cX6_init 113 = .ok (.iconst 2, 1) := by decide +kernel
theorem dX6_init_114 : decode cX6_init 114 = .ok (.bipush 20, 2) := by decide +kernel
theorem dX6_init_116 : decode cX6_init 116 = .ok (.iastore, 1) := by decide +kernel
theorem dX6_init_117 : decode cX6_init 117 = .ok (.aload_n 0, 1) := by decide +kernel
theorem dX6_init_118 : decode cX6_init 118 = .ok (.getfield 7, 3) := by decide +kernel
theorem dX6_init_121 : decode cX6_init 121 = .ok (.iconst 3, 1) := by decide +kernel
theorem dX6_init_122 : decode cX6_init 122 = .ok (.bipush 8, 2) := by decide +kernel
theorem dX6_init_124 : decode cX6_init 124 = .ok (.iastore, 1) := by decide +kernel
theorem dX6_init_125 : decode cX6_init 125 = .ok (.aload_n 0, 1) := by decide +kernel
theorem dX6_init_126 : decode cX6_init 126 = .ok (.getfield 7, 3) := by decide +kernel
theorem dX6_init_129 : decode cX6_init 129 = .ok (.iconst 4, 1) := by decide +kernel
theorem dX6_init_130 : decode cX6_init 130 = .ok (.iconst 4, 1) := by decide +kernel
theorem dX6_init_131 : decode cX6_init 131 = .ok (.iastore, 1) := by decide +kernel
theorem dX6_init_132 : decode cX6_init 132 = .ok (.aload_n 0, 1) := by decide +kernel
theorem dX6_init_133 : decode cX6_init 133 = .ok (.getfield 7, 3) := by decide +kernel
theorem dX6_init_136 : decode cX6_init 136 = .ok (.iconst 5, 1) := by decide +kernel
theorem dX6_init_137 : decode cX6_init 137 = .ok (.iconst 3, 1) := by decide +kernel
theorem dX6_init_138 : decode cX6_init 138 = .ok (.iastore, 1) := by decide +kernel
theorem dX6_init_139 : decode cX6_init 139 = .ok (.aload_n 0, 1) := by decide +kernel
theorem dX6_init_140 : decode cX6_init 140 = .ok (.getfield 7, 3) := by decide +kernel
theorem dX6_init_143 : decode cX6_init 143 = .ok (.bipush 6, 2) := by decide +kernel
theorem dX6_init_145 : decode cX6_init 145 = .ok (.iconst 2, 1) := by decide +kernel
theorem dX6_init_146 : decode cX6_init 146 = .ok (.iastore, 1) := by decide +kernel
theorem dX6_init_147 : decode cX6_init 147 = .ok (.bipush 7, 2) := by decide +kernel
theorem dX6_init_149 : decode cX6_init 149 = .ok (.istore_n 1, 1) := by decide +kernel
theorem dX6_init_150 : decode cX6_init 150 = .ok (.iload_n 1, 1) := by decide +kernel
theorem dX6_init_151 : decode cX6_init 151 = .ok (.bipush 12, 2) := by decide +kernel
theorem dX6_init_153 : decode cX6_init 153 = .ok (.if_icmp .gt 16, 3) := by decide +kernel
theorem dX6_init_156 : decode cX6_init 156 = .ok (.aload_n 0, 1) := by decide +kernel
theorem dX6_init_157 : decode cX6_init 157 = .ok (.getfield 7, 3) := by decide +kernel
theorem dX6_init_160 : decode cX6_init 160 = .ok (.iload_n 1, 1) := by decide +kernel
theorem dX6_init_161 : decode cX6_init 161 = .ok (.iconst 1, 1) := by decide +kernel
theorem dX6_init_162 : decode cX6_init 162 = .ok (.iastore, 1) := by decide +kernel
theorem dX6_init_163 : decode cX6_init 163 = .ok (.iinc 1 1, 3) := by decide +kernel
theorem dX6_init_166 : decode cX6_init 166 = .ok (.goto (-16), 3) := by decide +kernel
theorem dX6_init_169 : decode cX6_init 169 = .ok (.aload_n 0, 1) := by decide +kernel
theorem dX6_init_170 : decode cX6_init 170 = .ok (.invokevirtual 51, 3) := by decide +kernel
theorem dX6_init_173 : decode cX6_init 173 = .ok (.return_, 1) := by decide +kernel
theorem dX6_thrown_0 : decode cX6_thrown 0 = .ok (.aload_n 0, 1) := by decide +kernel
theorem dX6_thrown_1 : decode cX6_thrown 1 = .ok (.getfield 54, 3) := by decide +kernel
theorem dX6_thrown_4 : decode cX6_thrown 4 = .ok (.ireturn, 1) := by decide +kernel
theorem dX6_refused_0 : decode cX6_refused 0 = .ok (.aload_n 0, 1) := by decide +kernel
theorem dX6_refused_1 : decode cX6_refused 1 = .ok (.iload_n 1, 1) := by decide +kernel
theorem dX6_refused_2 : decode cX6_refused 2 = .ok (.putfield 54, 3) := by decide +kernel
theorem dX6_refused_5 : decode cX6_refused 5 = .ok (.iload_n 1, 1) := by decide +kernel
theorem dX6_refused_6 : decode cX6_refused 6 = .ok (.ifCond .eq 7, 3) := by decide +kernel
theorem dX6_refused_9 : decode cX6_refused 9 = .ok (.iconst 1, 1) := by decide +kernel
theorem dX6_refused_10 : decode cX6_refused 10 = .ok (.goto 4, 3) := by decide +kernel
theorem dX6_refused_13 : decode cX6_refused 13 = .ok (.iconst 0, 1) := by decide +kernel
theorem dX6_refused_14 : decode cX6_refused 14 = .ok (.ireturn, 1) := by decide +kernel
theorem dX6_told_0 : decode cX6_told 0 = .ok (.aload_n 0, 1) := by decide +kernel
theorem dX6_told_1 : decode cX6_told 1 = .ok (.iconst 0, 1) := by decide +kernel
theorem dX6_told_2 : decode cX6_told 2 = .ok (.putfield 54, 3) := by decide +kernel
theorem dX6_told_5 : decode cX6_told 5 = .ok (.iload_n 1, 1) := by decide +kernel
theorem dX6_told_6 : decode cX6_told 6 = .ok (.ireturn, 1) := by decide +kernel
theorem dX6_within_0 : decode cX6_within 0 = .ok (.iload_n 0, 1) := by decide +kernel
theorem dX6_within_1 : decode cX6_within 1 = .ok (.iload_n 1, 1) := by decide +kernel
theorem dX6_within_2 : decode cX6_within 2 = .ok (.if_icmp .lt 12, 3) := by decide +kernel
theorem dX6_within_5 : decode cX6_within 5 = .ok (.iload_n 0, 1) := by decide +kernel
theorem dX6_within_6 : decode cX6_within 6 = .ok (.iload_n 2, 1) := by decide +kernel
theorem dX6_within_7 : decode cX6_within 7 = .ok (.if_icmp .gt 7, 3) := by decide +kernel
theorem dX6_within_10 : decode cX6_within 10 = .ok (.iconst 1, 1) := by decide +kernel
theorem dX6_within_11 : decode cX6_within 11 = .ok (.goto 4, 3) := by decide +kernel
theorem dX6_within_14 : decode cX6_within 14 = .ok (.iconst 0, 1) := by decide +kernel
theorem dX6_within_15 : decode cX6_within 15 = .ok (.ireturn, 1) := by decide +kernel
set_option maxRecDepth 20000 in
theorem ggX6_isBlock_X6_within : GoodIn wsX6_isBlock wsX6_within := goodIn_r _ [5] (by decide +kernel) (by decide +kernel)
set_option maxRecDepth 20000 in
theorem gX6_isBlock_X6_within : GoodIn wsX6_isBlock (va_wsS RX6 57 yX6_within wsX6_within) := goodIn_app (goodIn_of _ (by decide +kernel)) ggX6_isBlock_X6_within
theorem dX6_isBlock_0 : decode cX6_isBlock 0 = .ok (.iload_n 1, 1) := by decide +kernel
theorem dX6_isBlock_1 : decode cX6_isBlock 1 = .ok (.iconst 0, 1) := by decide +kernel
theorem dX6_isBlock_2 : decode cX6_isBlock 2 = .ok (.aload_n 0, 1) := by decide +kernel
theorem dX6_isBlock_3 : decode cX6_isBlock 3 = .ok (.getfield 17, 3) := by decide +kernel
theorem dX6_isBlock_6 : decode cX6_isBlock 6 = .ok (.iconst 1, 1) := by decide +kernel
theorem dX6_isBlock_7 : decode cX6_isBlock 7 = .ok (.isub, 1) := by decide +kernel
theorem dX6_isBlock_8 : decode cX6_isBlock 8 = .ok (.invokestatic 57, 3) := by decide +kernel
theorem dX6_isBlock_11 : decode cX6_isBlock 11 = .ok (.ireturn, 1) := by decide +kernel
set_option maxRecDepth 20000 in
theorem ggX6_noBlock_X6_isBlock : GoodIn wsX6_noBlock wsX6_isBlock := goodIn_r _ [5, 6, 7, 8, 4, 9, 15, 16, 17, 18, 19, 20, 21, 22, 23, 24, 25, 26, 27, 28, 29, 30, 31, 32, 33, 34, 35, 36] (by decide +kernel) (by decide +kernel)
set_option maxRecDepth 20000 in
theorem gX6_noBlock_X6_isBlock : GoodIn wsX6_noBlock (wsV RX6 61 RX6 yX6_isBlock wsX6_isBlock) := goodIn_app (goodIn_of _ (by decide +kernel)) ggX6_noBlock_X6_isBlock
set_option maxRecDepth 20000 in
theorem ggX6_noBlock_X6_refused : GoodIn wsX6_noBlock wsX6_refused := goodIn_r _ [13, 14, 15, 16, 17, 18, 19, 20, 21, 22, 23, 24, 25, 26, 27, 28, 29, 30, 31, 32, 33, 34, 35, 36] (by decide +kernel) (by decide +kernel)
set_option maxRecDepth 20000 in
theorem gX6_noBlock_X6_refused : GoodIn wsX6_noBlock (wsV RX6 65 RX6 yX6_refused wsX6_refused) := goodIn_app (goodIn_of _ (by decide +kernel)) ggX6_noBlock_X6_refused
theorem dX6_noBlock_0 : decode cX6_noBlock 0 = .ok (.aload_n 0, 1) := by decide +kernel
theorem dX6_noBlock_1 : decode cX6_noBlock 1 = .ok (.aload_n 0, 1) := by decide +kernel
theorem dX6_noBlock_2 : decode cX6_noBlock 2 = .ok (.iload_n 1, 1) := by decide +kernel
theorem dX6_noBlock_3 : decode cX6_noBlock 3 = .ok (.invokevirtual 61, 3) := by decide +kernel
theorem dX6_noBlock_6 : decode cX6_noBlock 6 = .ok (.ifCond .eq 7, 3) := by decide +kernel
theorem dX6_noBlock_9 : decode cX6_noBlock 9 = .ok (.iconst 0, 1) := by decide +kernel
theorem dX6_noBlock_10 : decode cX6_noBlock 10 = .ok (.goto 4, 3) := by decide +kernel
theorem dX6_noBlock_13 : decode cX6_noBlock 13 = .ok (.iconst 1, 1) := by decide +kernel
theorem dX6_noBlock_14 : decode cX6_noBlock 14 = .ok (.invokevirtual 65, 3) := by decide +kernel
theorem dX6_noBlock_17 : decode cX6_noBlock 17 = .ok (.ireturn, 1) := by decide +kernel
theorem dX6_clear_0 : decode cX6_clear 0 = .ok (.aload_n 0, 1) := by decide +kernel
theorem dX6_clear_1 : decode cX6_clear 1 = .ok (.iconst 0, 1) := by decide +kernel
theorem dX6_clear_2 : decode cX6_clear 2 = .ok (.putfield 68, 3) := by decide +kernel
theorem dX6_clear_5 : decode cX6_clear 5 = .ok (.aload_n 0, 1) := by decide +kernel
theorem dX6_clear_6 : decode cX6_clear 6 = .ok (.iconst 0, 1) := by decide +kernel
theorem dX6_clear_7 : decode cX6_clear 7 = .ok (.putfield 71, 3) := by decide +kernel
theorem dX6_clear_10 : decode cX6_clear 10 = .ok (.aload_n 0, 1) := by decide +kernel
theorem dX6_clear_11 : decode cX6_clear 11 = .ok (.iconst 0, 1) := by decide +kernel
theorem dX6_clear_12 : decode cX6_clear 12 = .ok (.putfield 74, 3) := by decide +kernel
theorem dX6_clear_15 : decode cX6_clear 15 = .ok (.aload_n 0, 1) := by decide +kernel
theorem dX6_clear_16 : decode cX6_clear 16 = .ok (.lconst 0, 1) := by decide +kernel
theorem dX6_clear_17 : decode cX6_clear 17 = .ok (.putfield 77, 3) := by decide +kernel
theorem dX6_clear_20 : decode cX6_clear 20 = .ok (.iconst 0, 1) := by decide +kernel
theorem dX6_clear_21 : decode cX6_clear 21 = .ok (.istore_n 1, 1) := by decide +kernel
theorem dX6_clear_22 : decode cX6_clear 22 = .ok (.iload_n 1, 1) := by decide +kernel
theorem dX6_clear_23 : decode cX6_clear 23 = .ok (.bipush 38, 2) := by decide +kernel
theorem dX6_clear_25 : decode cX6_clear 25 = .ok (.if_icmp .ge 30, 3) := by decide +kernel
theorem dX6_clear_28 : decode cX6_clear 28 = .ok (.aload_n 0, 1) := by decide +kernel
theorem dX6_clear_29 : decode cX6_clear 29 = .ok (.getfield 33, 3) := by decide +kernel
theorem dX6_clear_32 : decode cX6_clear 32 = .ok (.iload_n 1, 1) := by decide +kernel
theorem dX6_clear_33 : decode cX6_clear 33 = .ok (.iconst (-1), 1) := by decide +kernel
theorem dX6_clear_34 : decode cX6_clear 34 = .ok (.iastore, 1) := by decide +kernel
theorem dX6_clear_35 : decode cX6_clear 35 = .ok (.aload_n 0, 1) := by decide +kernel
theorem dX6_clear_36 : decode cX6_clear 36 = .ok (.getfield 36, 3) := by decide +kernel
theorem dX6_clear_39 : decode cX6_clear 39 = .ok (.iload_n 1, 1) := by decide +kernel
theorem dX6_clear_40 : decode cX6_clear 40 = .ok (.lconst 0, 1) := by decide +kernel
theorem dX6_clear_41 : decode cX6_clear 41 = .ok (.lastore, 1) := by decide +kernel
theorem dX6_clear_42 : decode cX6_clear 42 = .ok (.aload_n 0, 1) := by decide +kernel
theorem dX6_clear_43 : decode cX6_clear 43 = .ok (.getfield 39, 3) := by decide +kernel
theorem dX6_clear_46 : decode cX6_clear 46 = .ok (.iload_n 1, 1) := by decide +kernel
theorem dX6_clear_47 : decode cX6_clear 47 = .ok (.iconst 0, 1) := by decide +kernel
theorem dX6_clear_48 : decode cX6_clear 48 = .ok (.iastore, 1) := by decide +kernel
theorem dX6_clear_49 : decode cX6_clear 49 = .ok (.iinc 1 1, 3) := by decide +kernel
theorem dX6_clear_52 : decode cX6_clear 52 = .ok (.goto (-30), 3) := by decide +kernel
theorem dX6_clear_55 : decode cX6_clear 55 = .ok (.return_, 1) := by decide +kernel
theorem dX6_covers_0 : decode cX6_covers 0 = .ok (.iload_n 1, 1) := by decide +kernel
theorem dX6_covers_1 : decode cX6_covers 1 = .ok (.iconst 1, 1) := by decide +kernel
theorem dX6_covers_2 : decode cX6_covers 2 = .ok (.iadd, 1) := by decide +kernel
theorem dX6_covers_3 : decode cX6_covers 3 = .ok (.iload_n 0, 1) := by decide +kernel
theorem dX6_covers_4 : decode cX6_covers 4 = .ok (.ishr, 1) := by decide +kernel
theorem dX6_covers_5 : decode cX6_covers 5 = .ok (.iconst 1, 1) := by decide +kernel
theorem dX6_covers_6 : decode cX6_covers 6 = .ok (.iand, 1) := by decide +kernel
theorem dX6_covers_7 : decode cX6_covers 7 = .ok (.iconst 1, 1) := by decide +kernel
theorem dX6_covers_8 : decode cX6_covers 8 = .ok (.if_icmp .ne 7, 3) := by decide +kernel
theorem dX6_covers_11 : decode cX6_covers 11 = .ok (.iconst 1, 1) := by decide +kernel
theorem dX6_covers_12 : decode cX6_covers 12 = .ok (.goto 4, 3) := by decide +kernel
theorem dX6_covers_15 : decode cX6_covers 15 = .ok (.iconst 0, 1) := by decide +kernel
theorem dX6_covers_16 : decode cX6_covers 16 = .ok (.ireturn, 1) := by decide +kernel
set_option maxRecDepth 20000 in
theorem ggX6_valueAt_X6_covers : GoodIn wsX6_valueAt wsX6_covers := goodIn_r _ [6] (by decide +kernel) (by decide +kernel)
set_option maxRecDepth 20000 in
theorem gX6_valueAt_X6_covers : GoodIn wsX6_valueAt (va_wsS RX6 81 yX6_covers wsX6_covers) := goodIn_app (goodIn_of _ (by decide +kernel)) ggX6_valueAt_X6_covers
theorem dX6_valueAt_0 : decode cX6_valueAt 0 = .ok (.iload_n 1, 1) := by decide +kernel
theorem dX6_valueAt_1 : decode cX6_valueAt 1 = .ok (.aload_n 0, 1) := by decide +kernel
theorem dX6_valueAt_2 : decode cX6_valueAt 2 = .ok (.getfield 13, 3) := by decide +kernel
theorem dX6_valueAt_5 : decode cX6_valueAt 5 = .ok (.if_icmp .ge 10, 3) := by decide +kernel
theorem dX6_valueAt_8 : decode cX6_valueAt 8 = .ok (.aload_n 0, 1) := by decide +kernel
theorem dX6_valueAt_9 : decode cX6_valueAt 9 = .ok (.getfield 20, 3) := by decide +kernel
theorem dX6_valueAt_12 : decode cX6_valueAt 12 = .ok (.iload_n 1, 1) := by decide +kernel
theorem dX6_valueAt_13 : decode cX6_valueAt 13 = .ok (.iaload, 1) := by decide +kernel
theorem dX6_valueAt_14 : decode cX6_valueAt 14 = .ok (.ireturn, 1) := by decide +kernel
theorem dX6_valueAt_15 : decode cX6_valueAt 15 = .ok (.iconst 0, 1) := by decide +kernel
theorem dX6_valueAt_16 : decode cX6_valueAt 16 = .ok (.istore_n 2, 1) := by decide +kernel
theorem dX6_valueAt_17 : decode cX6_valueAt 17 = .ok (.iconst 0, 1) := by decide +kernel
theorem dX6_valueAt_18 : decode cX6_valueAt 18 = .ok (.istore_n 3, 1) := by decide +kernel
theorem dX6_valueAt_19 : decode cX6_valueAt 19 = .ok (.iload_n 3, 1) := by decide +kernel
theorem dX6_valueAt_20 : decode cX6_valueAt 20 = .ok (.aload_n 0, 1) := by decide +kernel
theorem dX6_valueAt_21 : decode cX6_valueAt 21 = .ok (.getfield 13, 3) := by decide +kernel
theorem dX6_valueAt_24 : decode cX6_valueAt 24 = .ok (.if_icmp .ge 35, 3) := by decide +kernel
theorem dX6_valueAt_27 : decode cX6_valueAt 27 = .ok (.iload_n 2, 1) := by decide +kernel
theorem dX6_valueAt_28 : decode cX6_valueAt 28 = .ok (.iload_n 1, 1) := by decide +kernel
theorem dX6_valueAt_29 : decode cX6_valueAt 29 = .ok (.aload_n 0, 1) := by decide +kernel
theorem dX6_valueAt_30 : decode cX6_valueAt 30 = .ok (.getfield 13, 3) := by decide +kernel
theorem dX6_valueAt_33 : decode cX6_valueAt 33 = .ok (.isub, 1) := by decide +kernel
theorem dX6_valueAt_34 : decode cX6_valueAt 34 = .ok (.iload_n 3, 1) := by decide +kernel
theorem dX6_valueAt_35 : decode cX6_valueAt 35 = .ok (.invokestatic 81, 3) := by decide +kernel
theorem dX6_valueAt_38 : decode cX6_valueAt 38 = .ok (.ifCond .eq 12, 3) := by decide +kernel
theorem dX6_valueAt_41 : decode cX6_valueAt 41 = .ok (.aload_n 0, 1) := by decide +kernel
theorem dX6_valueAt_42 : decode cX6_valueAt 42 = .ok (.getfield 20, 3) := by decide +kernel
theorem dX6_valueAt_45 : decode cX6_valueAt 45 = .ok (.iload_n 3, 1) := by decide +kernel
theorem dX6_valueAt_46 : decode cX6_valueAt 46 = .ok (.iaload, 1) := by decide +kernel
theorem dX6_valueAt_47 : decode cX6_valueAt 47 = .ok (.goto 4, 3) := by decide +kernel
theorem dX6_valueAt_50 : decode cX6_valueAt 50 = .ok (.iconst 0, 1) := by decide +kernel
theorem dX6_valueAt_51 : decode cX6_valueAt 51 = .ok (.ixor, 1) := by decide +kernel
theorem dX6_valueAt_52 : decode cX6_valueAt 52 = .ok (.istore_n 2, 1) := by decide +kernel
theorem dX6_valueAt_53 : decode cX6_valueAt 53 = .ok (.iinc 3 1, 3) := by decide +kernel
theorem dX6_valueAt_56 : decode cX6_valueAt 56 = .ok (.goto (-37), 3) := by decide +kernel
theorem dX6_valueAt_59 : decode cX6_valueAt 59 = .ok (.iload_n 2, 1) := by decide +kernel
theorem dX6_valueAt_60 : decode cX6_valueAt 60 = .ok (.ireturn, 1) := by decide +kernel
theorem dX6_draw_0 : decode cX6_draw 0 = .ok (.aload_n 0, 1) := by decide +kernel
theorem dX6_draw_1 : decode cX6_draw 1 = .ok (.aload_n 0, 1) := by decide +kernel
theorem dX6_draw_2 : decode cX6_draw 2 = .ok (.getfield 85, 3) := by decide +kernel
theorem dX6_draw_5 : decode cX6_draw 5 = .ok (.ldc2_w 88, 3) := by decide +kernel
theorem dX6_draw_8 : decode cX6_draw 8 = .ok (.lmul, 1) := by decide +kernel
theorem dX6_draw_9 : decode cX6_draw 9 = .ok (.ldc2_w 90, 3) := by decide +kernel
theorem dX6_draw_12 : decode cX6_draw 12 = .ok (.ladd, 1) := by decide +kernel
theorem dX6_draw_13 : decode cX6_draw 13 = .ok (.putfield 85, 3) := by decide +kernel
theorem dX6_draw_16 : decode cX6_draw 16 = .ok (.aload_n 0, 1) := by decide +kernel
theorem dX6_draw_17 : decode cX6_draw 17 = .ok (.getfield 85, 3) := by decide +kernel
theorem dX6_draw_20 : decode cX6_draw 20 = .ok (.bipush 33, 2) := by decide +kernel
theorem dX6_draw_22 : decode cX6_draw 22 = .ok (.lushr, 1) := by decide +kernel
theorem dX6_draw_23 : decode cX6_draw 23 = .ok (.iload_n 1, 1) := by decide +kernel
theorem dX6_draw_24 : decode cX6_draw 24 = .ok (.i2l, 1) := by decide +kernel
theorem dX6_draw_25 : decode cX6_draw 25 = .ok (.lrem, 1) := by decide +kernel
theorem dX6_draw_26 : decode cX6_draw 26 = .ok (.l2i, 1) := by decide +kernel
theorem dX6_draw_27 : decode cX6_draw 27 = .ok (.ireturn, 1) := by decide +kernel
set_option maxRecDepth 20000 in
theorem ggX6_drawDrop_X6_draw : GoodIn wsX6_drawDrop wsX6_draw := goodIn_r _ [10, 1, 11, 12, 13, 14, 15, 16, 17, 18, 19, 20, 21, 22, 23, 24, 25, 26, 27, 28, 29, 30, 31, 32, 33, 34] (by decide +kernel) (by decide +kernel)
set_option maxRecDepth 20000 in
theorem gX6_drawDrop_X6_draw : GoodIn wsX6_drawDrop (wsV RX6 92 RX6 yX6_draw wsX6_draw) := goodIn_app (goodIn_of _ (by decide +kernel)) ggX6_drawDrop_X6_draw
theorem dX6_drawDrop_0 : decode cX6_drawDrop 0 = .ok (.aload_n 0, 1) := by decide +kernel
theorem dX6_drawDrop_1 : decode cX6_drawDrop 1 = .ok (.iload_n 1, 1) := by decide +kernel
theorem dX6_drawDrop_2 : decode cX6_drawDrop 2 = .ok (.i2l, 1) := by decide +kernel
theorem dX6_drawDrop_3 : decode cX6_drawDrop 3 = .ok (.putfield 85, 3) := by decide +kernel
theorem dX6_drawDrop_6 : decode cX6_drawDrop 6 = .ok (.iconst 0, 1) := by decide +kernel
theorem dX6_drawDrop_7 : decode cX6_drawDrop 7 = .ok (.istore_n 2, 1) := by decide +kernel
theorem dX6_drawDrop_8 : decode cX6_drawDrop 8 = .ok (.iconst 1, 1) := by decide +kernel
theorem dX6_drawDrop_9 : decode cX6_drawDrop 9 = .ok (.istore_n 3, 1) := by decide +kernel
theorem dX6_drawDrop_10 : decode cX6_drawDrop 10 = .ok (.iload_n 3, 1) := by decide +kernel
theorem dX6_drawDrop_11 : decode cX6_drawDrop 11 = .ok (.bipush 12, 2) := by decide +kernel
theorem dX6_drawDrop_13 : decode cX6_drawDrop 13 = .ok (.if_icmp .gt 18, 3) := by decide +kernel
theorem dX6_drawDrop_16 : decode cX6_drawDrop 16 = .ok (.iload_n 2, 1) := by decide +kernel
theorem dX6_drawDrop_17 : decode cX6_drawDrop 17 = .ok (.aload_n 0, 1) := by decide +kernel
theorem dX6_drawDrop_18 : decode cX6_drawDrop 18 = .ok (.getfield 7, 3) := by decide +kernel
theorem dX6_drawDrop_21 : decode cX6_drawDrop 21 = .ok (.iload_n 3, 1) := by decide +kernel
theorem dX6_drawDrop_22 : decode cX6_drawDrop 22 = .ok (.iaload, 1) := by decide +kernel
theorem dX6_drawDrop_23 : decode cX6_drawDrop 23 = .ok (.iadd, 1) := by decide +kernel
theorem dX6_drawDrop_24 : decode cX6_drawDrop 24 = .ok (.istore_n 2, 1) := by decide +kernel
theorem dX6_drawDrop_25 : decode cX6_drawDrop 25 = .ok (.iinc 3 1, 3) := by decide +kernel
theorem dX6_drawDrop_28 : decode cX6_drawDrop 28 = .ok (.goto (-18), 3) := by decide +kernel
theorem dX6_drawDrop_31 : decode cX6_drawDrop 31 = .ok (.aload_n 0, 1) := by decide +kernel
theorem dX6_drawDrop_32 : decode cX6_drawDrop 32 = .ok (.iload_n 2, 1) := by decide +kernel
theorem dX6_drawDrop_33 : decode cX6_drawDrop 33 = .ok (.invokevirtual 92, 3) := by decide +kernel
theorem dX6_drawDrop_36 : decode cX6_drawDrop 36 = .ok (.istore_n 3, 1) := by decide +kernel
theorem dX6_drawDrop_37 : decode cX6_drawDrop 37 = .ok (.iconst 0, 1) := by decide +kernel
theorem dX6_drawDrop_38 : decode cX6_drawDrop 38 = .ok (.istore 4, 2) := by decide +kernel
theorem dX6_drawDrop_40 : decode cX6_drawDrop 40 = .ok (.iconst 0, 1) := by decide +kernel
theorem dX6_drawDrop_41 : decode cX6_drawDrop 41 = .ok (.istore 5, 2) := by decide +kernel
theorem dX6_drawDrop_43 : decode cX6_drawDrop 43 = .ok (.iload 5, 2) := by decide +kernel
theorem dX6_drawDrop_45 : decode cX6_drawDrop 45 = .ok (.iload_n 3, 1) := by decide +kernel
theorem dX6_drawDrop_46 : decode cX6_drawDrop 46 = .ok (.if_icmp .gt 21, 3) := by decide +kernel
theorem dX6_drawDrop_49 : decode cX6_drawDrop 49 = .ok (.iinc 4 1, 3) := by decide +kernel
theorem dX6_drawDrop_52 : decode cX6_drawDrop 52 = .ok (.iload 5, 2) := by decide +kernel
theorem dX6_drawDrop_54 : decode cX6_drawDrop 54 = .ok (.aload_n 0, 1) := by decide +kernel
theorem dX6_drawDrop_55 : decode cX6_drawDrop 55 = .ok (.getfield 7, 3) := by decide +kernel
theorem dX6_drawDrop_58 : decode cX6_drawDrop 58 = .ok (.iload 4, 2) := by decide +kernel
theorem dX6_drawDrop_60 : decode cX6_drawDrop 60 = .ok (.iaload, 1) := by decide +kernel
theorem dX6_drawDrop_61 : decode cX6_drawDrop 61 = .ok (.iadd, 1) := by decide +kernel
theorem dX6_drawDrop_62 : decode cX6_drawDrop 62 = .ok (.istore 5, 2) := by decide +kernel
theorem dX6_drawDrop_64 : decode cX6_drawDrop 64 = .ok (.goto (-21), 3) := by decide +kernel
theorem dX6_drawDrop_67 : decode cX6_drawDrop 67 = .ok (.aload_n 0, 1) := by decide +kernel
theorem dX6_drawDrop_68 : decode cX6_drawDrop 68 = .ok (.iload 4, 2) := by decide +kernel
theorem dX6_drawDrop_70 : decode cX6_drawDrop 70 = .ok (.aload_n 0, 1) := by decide +kernel
theorem dX6_drawDrop_71 : decode cX6_drawDrop 71 = .ok (.getfield 17, 3) := by decide +kernel
theorem dX6_drawDrop_74 : decode cX6_drawDrop 74 = .ok (.if_icmp .ge 8, 3) := by decide +kernel
theorem dX6_drawDrop_77 : decode cX6_drawDrop 77 = .ok (.iload 4, 2) := by decide +kernel
theorem dX6_drawDrop_79 : decode cX6_drawDrop 79 = .ok (.goto 7, 3) := by decide +kernel
theorem dX6_drawDrop_82 : decode cX6_drawDrop 82 = .ok (.aload_n 0, 1) := by decide +kernel
theorem dX6_drawDrop_83 : decode cX6_drawDrop 83 = .ok (.getfield 17, 3) := by decide +kernel
theorem dX6_drawDrop_86 : decode cX6_drawDrop 86 = .ok (.putfield 96, 3) := by decide +kernel
theorem dX6_drawDrop_89 : decode cX6_drawDrop 89 = .ok (.iconst 0, 1) := by decide +kernel
theorem dX6_drawDrop_90 : decode cX6_drawDrop 90 = .ok (.istore 6, 2) := by decide +kernel
theorem dX6_drawDrop_92 : decode cX6_drawDrop 92 = .ok (.iload 6, 2) := by decide +kernel
theorem dX6_drawDrop_94 : decode cX6_drawDrop 94 = .ok (.aload_n 0, 1) := by decide +kernel
theorem dX6_drawDrop_95 : decode cX6_drawDrop 95 = .ok (.getfield 17, 3) := by decide +kernel
theorem dX6_drawDrop_98 : decode cX6_drawDrop 98 = .ok (.if_icmp .ge 18, 3) := by decide +kernel
theorem dX6_drawDrop_101 : decode cX6_drawDrop 101 = .ok (.aload_n 0, 1) := by decide +kernel
theorem dX6_drawDrop_102 : decode cX6_drawDrop 102 = .ok (.getfield 48, 3) := by decide +kernel
theorem dX6_drawDrop_105 : decode cX6_drawDrop 105 = .ok (.iload 6, 2) := by decide +kernel
theorem dX6_drawDrop_107 : decode cX6_drawDrop 107 = .ok (.iload 6, 2) := by decide +kernel
theorem dX6_drawDrop_109 : decode cX6_drawDrop 109 = .ok (.iastore, 1) := by decide +kernel
theorem dX6_drawDrop_110 : decode cX6_drawDrop 110 = .ok (.iinc 6 1, 3) := by decide +kernel
theorem dX6_drawDrop_113 : decode cX6_drawDrop 113 = .ok (.goto (-21), 3) := by decide +kernel
theorem dX6_drawDrop_116 : decode cX6_drawDrop 116 = .ok (.iconst 0, 1) := by decide +kernel
theorem dX6_drawDrop_117 : decode cX6_drawDrop 117 = .ok (.istore 6, 2) := by decide +kernel
theorem dX6_drawDrop_119 : decode cX6_drawDrop 119 = .ok (.iload 6, 2) := by decide +kernel
theorem dX6_drawDrop_121 : decode cX6_drawDrop 121 = .ok (.aload_n 0, 1) := by decide +kernel
theorem dX6_drawDrop_122 : decode cX6_drawDrop 122 = .ok (.getfield 96, 3) := by decide +kernel
theorem dX6_drawDrop_125 : decode cX6_drawDrop 125 = .ok (.if_icmp .ge 57, 3) := by decide +kernel
theorem dX6_drawDrop_128 : decode cX6_drawDrop 128 = .ok (.iload 6, 2) := by decide +kernel
theorem dX6_drawDrop_130 : decode cX6_drawDrop 130 = .ok (.aload_n 0, 1) := by decide +kernel
theorem dX6_drawDrop_131 : decode cX6_drawDrop 131 = .ok (.aload_n 0, 1) := by decide +kernel
theorem dX6_drawDrop_132 : decode cX6_drawDrop 132 = .ok (.getfield 17, 3) := by decide +kernel
theorem dX6_drawDrop_135 : decode cX6_drawDrop 135 = .ok (.iload 6, 2) := by decide +kernel
theorem dX6_drawDrop_137 : decode cX6_drawDrop 137 = .ok (.isub, 1) := by decide +kernel
theorem dX6_drawDrop_138 : decode cX6_drawDrop 138 = .ok (.invokevirtual 92, 3) := by decide +kernel
theorem dX6_drawDrop_141 : decode cX6_drawDrop 141 = .ok (.iadd, 1) := by decide +kernel
theorem dX6_drawDrop_142 : decode cX6_drawDrop 142 = .ok (.istore 7, 2) := by decide +kernel
theorem dX6_drawDrop_144 : decode cX6_drawDrop 144 = .ok (.aload_n 0, 1) := by decide +kernel
theorem dX6_drawDrop_145 : decode cX6_drawDrop 145 = .ok (.getfield 48, 3) := by decide +kernel
theorem dX6_drawDrop_148 : decode cX6_drawDrop 148 = .ok (.iload 6, 2) := by decide +kernel
theorem dX6_drawDrop_150 : decode cX6_drawDrop 150 = .ok (.iaload, 1) := by decide +kernel
theorem dX6_drawDrop_151 : decode cX6_drawDrop 151 = .ok (.istore 8, 2) := by decide +kernel
theorem dX6_drawDrop_153 : decode cX6_drawDrop 153 = .ok (.aload_n 0, 1) := by decide +kernel
theorem dX6_drawDrop_154 : decode cX6_drawDrop 154 = .ok (.getfield 48, 3) := by decide +kernel
theorem dX6_drawDrop_157 : decode cX6_drawDrop 157 = .ok (.iload 6, 2) := by decide +kernel
theorem dX6_drawDrop_159 : decode cX6_drawDrop 159 = .ok (.aload_n 0, 1) := by decide +kernel
theorem dX6_drawDrop_160 : decode cX6_drawDrop 160 = .ok (.getfield 48, 3) := by decide +kernel
theorem dX6_drawDrop_163 : decode cX6_drawDrop 163 = .ok (.iload 7, 2) := by decide +kernel
theorem dX6_drawDrop_165 : decode cX6_drawDrop 165 = .ok (.iaload, 1) := by decide +kernel
theorem dX6_drawDrop_166 : decode cX6_drawDrop 166 = .ok (.iastore, 1) := by decide +kernel
theorem dX6_drawDrop_167 : decode cX6_drawDrop 167 = .ok (.aload_n 0, 1) := by decide +kernel
theorem dX6_drawDrop_168 : decode cX6_drawDrop 168 = .ok (.getfield 48, 3) := by decide +kernel
theorem dX6_drawDrop_171 : decode cX6_drawDrop 171 = .ok (.iload 7, 2) := by decide +kernel
theorem dX6_drawDrop_173 : decode cX6_drawDrop 173 = .ok (.iload 8, 2) := by decide +kernel
theorem dX6_drawDrop_175 : decode cX6_drawDrop 175 = .ok (.iastore, 1) := by decide +kernel
theorem dX6_drawDrop_176 : decode cX6_drawDrop 176 = .ok (.iinc 6 1, 3) := by decide +kernel
theorem dX6_drawDrop_179 : decode cX6_drawDrop 179 = .ok (.goto (-60), 3) := by decide +kernel
theorem dX6_drawDrop_182 : decode cX6_drawDrop 182 = .ok (.return_, 1) := by decide +kernel
set_option maxRecDepth 20000 in
theorem ggX6_maskOf_X6_drawDrop : GoodIn wsX6_maskOf wsX6_drawDrop := goodIn_r _ [7, 8, 9, 10, 1, 2, 11, 12, 13, 6, 14, 15, 16, 17, 18, 19, 20, 21, 22, 23, 24, 25, 26, 27, 28, 29, 30, 31, 32, 33, 34, 35, 36, 37, 38] (by decide +kernel) (by decide +kernel)
set_option maxRecDepth 20000 in
theorem gX6_maskOf_X6_drawDrop : GoodIn wsX6_maskOf (wsV RX6 99 RX6 yX6_drawDrop wsX6_drawDrop) := goodIn_app (goodIn_of _ (by decide +kernel)) ggX6_maskOf_X6_drawDrop
theorem dX6_maskOf_0 : decode cX6_maskOf 0 = .ok (.aload_n 0, 1) := by decide +kernel
theorem dX6_maskOf_1 : decode cX6_maskOf 1 = .ok (.iload_n 1, 1) := by decide +kernel
theorem dX6_maskOf_2 : decode cX6_maskOf 2 = .ok (.invokevirtual 99, 3) := by decide +kernel
theorem dX6_maskOf_5 : decode cX6_maskOf 5 = .ok (.lconst 0, 1) := by decide +kernel
theorem dX6_maskOf_6 : decode cX6_maskOf 6 = .ok (.lstore_n 2, 1) := by decide +kernel
theorem dX6_maskOf_7 : decode cX6_maskOf 7 = .ok (.iconst 0, 1) := by decide +kernel
theorem dX6_maskOf_8 : decode cX6_maskOf 8 = .ok (.istore 4, 2) := by decide +kernel
theorem dX6_maskOf_10 : decode cX6_maskOf 10 = .ok (.iload 4, 2) := by decide +kernel
theorem dX6_maskOf_12 : decode cX6_maskOf 12 = .ok (.aload_n 0, 1) := by decide +kernel
theorem dX6_maskOf_13 : decode cX6_maskOf 13 = .ok (.getfield 96, 3) := by decide +kernel
theorem dX6_maskOf_16 : decode cX6_maskOf 16 = .ok (.if_icmp .ge 21, 3) := by decide +kernel
theorem dX6_maskOf_19 : decode cX6_maskOf 19 = .ok (.lload_n 2, 1) := by decide +kernel
theorem dX6_maskOf_20 : decode cX6_maskOf 20 = .ok (.lconst 1, 1) := by decide +kernel
theorem dX6_maskOf_21 : decode cX6_maskOf 21 = .ok (.aload_n 0, 1) := by decide +kernel
theorem dX6_maskOf_22 : decode cX6_maskOf 22 = .ok (.getfield 48, 3) := by decide +kernel
theorem dX6_maskOf_25 : decode cX6_maskOf 25 = .ok (.iload 4, 2) := by decide +kernel
theorem dX6_maskOf_27 : decode cX6_maskOf 27 = .ok (.iaload, 1) := by decide +kernel
theorem dX6_maskOf_28 : decode cX6_maskOf 28 = .ok (.lshl, 1) := by decide +kernel
theorem dX6_maskOf_29 : decode cX6_maskOf 29 = .ok (.lor, 1) := by decide +kernel
theorem dX6_maskOf_30 : decode cX6_maskOf 30 = .ok (.lstore_n 2, 1) := by decide +kernel
theorem dX6_maskOf_31 : decode cX6_maskOf 31 = .ok (.iinc 4 1, 3) := by decide +kernel
theorem dX6_maskOf_34 : decode cX6_maskOf 34 = .ok (.goto (-24), 3) := by decide +kernel
theorem dX6_maskOf_37 : decode cX6_maskOf 37 = .ok (.lload_n 2, 1) := by decide +kernel
theorem dX6_maskOf_38 : decode cX6_maskOf 38 = .ok (.lreturn, 1) := by decide +kernel
set_option maxRecDepth 20000 in
theorem ggX6_numberOf_X6_drawDrop : GoodIn wsX6_numberOf wsX6_drawDrop := goodIn_r _ [7, 8, 9, 10, 1, 2, 11, 12, 13, 6, 14, 15, 16, 26, 27, 28, 29, 30, 31, 32, 33, 34, 35, 36, 37, 38, 39, 40, 41, 42, 43, 44, 45, 46, 47] (by decide +kernel) (by decide +kernel)
set_option maxRecDepth 20000 in
theorem gX6_numberOf_X6_drawDrop : GoodIn wsX6_numberOf (wsV RX6 99 RX6 yX6_drawDrop wsX6_drawDrop) := goodIn_app (goodIn_of _ (by decide +kernel)) ggX6_numberOf_X6_drawDrop
set_option maxRecDepth 20000 in
theorem ggX6_numberOf_X6_valueAt : GoodIn wsX6_numberOf wsX6_valueAt := goodIn_r _ [20, 21, 22, 23, 24, 6, 25, 26, 27, 28, 29, 30, 31, 32, 33, 34, 35, 36, 37, 38, 39, 40, 41, 42, 43, 44, 45, 46, 47] (by decide +kernel) (by decide +kernel)
set_option maxRecDepth 20000 in
theorem gX6_numberOf_X6_valueAt : GoodIn wsX6_numberOf (wsV RX6 103 RX6 yX6_valueAt wsX6_valueAt) := goodIn_app (goodIn_of _ (by decide +kernel)) ggX6_numberOf_X6_valueAt
theorem dX6_numberOf_0 : decode cX6_numberOf 0 = .ok (.aload_n 0, 1) := by decide +kernel
theorem dX6_numberOf_1 : decode cX6_numberOf 1 = .ok (.iload_n 1, 1) := by decide +kernel
theorem dX6_numberOf_2 : decode cX6_numberOf 2 = .ok (.invokevirtual 99, 3) := by decide +kernel
theorem dX6_numberOf_5 : decode cX6_numberOf 5 = .ok (.iconst 0, 1) := by decide +kernel
theorem dX6_numberOf_6 : decode cX6_numberOf 6 = .ok (.istore_n 2, 1) := by decide +kernel
theorem dX6_numberOf_7 : decode cX6_numberOf 7 = .ok (.iconst 0, 1) := by decide +kernel
theorem dX6_numberOf_8 : decode cX6_numberOf 8 = .ok (.istore_n 3, 1) := by decide +kernel
theorem dX6_numberOf_9 : decode cX6_numberOf 9 = .ok (.iload_n 3, 1) := by decide +kernel
theorem dX6_numberOf_10 : decode cX6_numberOf 10 = .ok (.aload_n 0, 1) := by decide +kernel
theorem dX6_numberOf_11 : decode cX6_numberOf 11 = .ok (.getfield 96, 3) := by decide +kernel
theorem dX6_numberOf_14 : decode cX6_numberOf 14 = .ok (.if_icmp .ge 22, 3) := by decide +kernel
theorem dX6_numberOf_17 : decode cX6_numberOf 17 = .ok (.iload_n 2, 1) := by decide +kernel
theorem dX6_numberOf_18 : decode cX6_numberOf 18 = .ok (.aload_n 0, 1) := by decide +kernel
theorem dX6_numberOf_19 : decode cX6_numberOf 19 = .ok (.aload_n 0, 1) := by decide +kernel
theorem dX6_numberOf_20 : decode cX6_numberOf 20 = .ok (.getfield 48, 3) := by decide +kernel
theorem dX6_numberOf_23 : decode cX6_numberOf 23 = .ok (.iload_n 3, 1) := by decide +kernel
theorem dX6_numberOf_24 : decode cX6_numberOf 24 = .ok (.iaload, 1) := by decide +kernel
theorem dX6_numberOf_25 : decode cX6_numberOf 25 = .ok (.invokevirtual 103, 3) := by decide +kernel
theorem dX6_numberOf_28 : decode cX6_numberOf 28 = .ok (.ixor, 1) := by decide +kernel
theorem dX6_numberOf_29 : decode cX6_numberOf 29 = .ok (.istore_n 2, 1) := by decide +kernel
theorem dX6_numberOf_30 : decode cX6_numberOf 30 = .ok (.iinc 3 1, 3) := by decide +kernel
theorem dX6_numberOf_33 : decode cX6_numberOf 33 = .ok (.goto (-24), 3) := by decide +kernel
theorem dX6_numberOf_36 : decode cX6_numberOf 36 = .ok (.iload_n 2, 1) := by decide +kernel
theorem dX6_numberOf_37 : decode cX6_numberOf 37 = .ok (.ireturn, 1) := by decide +kernel
theorem dX6_reduce_0 : decode cX6_reduce 0 = .ok (.aload_n 0, 1) := by decide +kernel
theorem dX6_reduce_1 : decode cX6_reduce 1 = .ok (.lload_n 1, 1) := by decide +kernel
theorem dX6_reduce_2 : decode cX6_reduce 2 = .ok (.putfield 106, 3) := by decide +kernel
theorem dX6_reduce_5 : decode cX6_reduce 5 = .ok (.aload_n 0, 1) := by decide +kernel
theorem dX6_reduce_6 : decode cX6_reduce 6 = .ok (.iload_n 3, 1) := by decide +kernel
theorem dX6_reduce_7 : decode cX6_reduce 7 = .ok (.putfield 109, 3) := by decide +kernel
theorem dX6_reduce_10 : decode cX6_reduce 10 = .ok (.iconst 0, 1) := by decide +kernel
theorem dX6_reduce_11 : decode cX6_reduce 11 = .ok (.istore 4, 2) := by decide +kernel
theorem dX6_reduce_13 : decode cX6_reduce 13 = .ok (.iload 4, 2) := by decide +kernel
theorem dX6_reduce_15 : decode cX6_reduce 15 = .ok (.aload_n 0, 1) := by decide +kernel
theorem dX6_reduce_16 : decode cX6_reduce 16 = .ok (.getfield 17, 3) := by decide +kernel
theorem dX6_reduce_19 : decode cX6_reduce 19 = .ok (.if_icmp .ge 67, 3) := by decide +kernel
theorem dX6_reduce_22 : decode cX6_reduce 22 = .ok (.aload_n 0, 1) := by decide +kernel
theorem dX6_reduce_23 : decode cX6_reduce 23 = .ok (.getfield 106, 3) := by decide +kernel
theorem dX6_reduce_26 : decode cX6_reduce 26 = .ok (.iload 4, 2) := by decide +kernel
theorem dX6_reduce_28 : decode cX6_reduce 28 = .ok (.lshr, 1) := by decide +kernel
theorem dX6_reduce_29 : decode cX6_reduce 29 = .ok (.lconst 1, 1) := by decide +kernel
theorem dX6_reduce_30 : decode cX6_reduce 30 = .ok (.land, 1) := by decide +kernel
theorem dX6_reduce_31 : decode cX6_reduce 31 = .ok (.lconst 1, 1) := by decide +kernel
theorem dX6_reduce_32 : decode cX6_reduce 32 = .ok (.lcmp, 1) := by decide +kernel
theorem dX6_reduce_33 : decode cX6_reduce 33 = .ok (.ifCond .ne 47, 3) := by decide +kernel
theorem dX6_reduce_36 : decode cX6_reduce 36 = .ok (.aload_n 0, 1) := by decide +kernel
theorem dX6_reduce_37 : decode cX6_reduce 37 = .ok (.getfield 36, 3) := by decide +kernel
theorem dX6_reduce_40 : decode cX6_reduce 40 = .ok (.iload 4, 2) := by decide +kernel
theorem dX6_reduce_42 : decode cX6_reduce 42 = .ok (.laload, 1) := by decide +kernel
theorem dX6_reduce_43 : decode cX6_reduce 43 = .ok (.lconst 0, 1) := by decide +kernel
theorem dX6_reduce_44 : decode cX6_reduce 44 = .ok (.lcmp, 1) := by decide +kernel
theorem dX6_reduce_45 : decode cX6_reduce 45 = .ok (.ifCond .eq 35, 3) := by decide +kernel
theorem dX6_reduce_48 : decode cX6_reduce 48 = .ok (.aload_n 0, 1) := by decide +kernel
theorem dX6_reduce_49 : decode cX6_reduce 49 = .ok (.dup, 1) := by decide +kernel
theorem dX6_reduce_50 : decode cX6_reduce 50 = .ok (.getfield 106, 3) := by decide +kernel
theorem dX6_reduce_53 : decode cX6_reduce 53 = .ok (.aload_n 0, 1) := by decide +kernel
theorem dX6_reduce_54 : decode cX6_reduce 54 = .ok (.getfield 36, 3) := by decide +kernel
theorem dX6_reduce_57 : decode cX6_reduce 57 = .ok (.iload 4, 2) := by decide +kernel
theorem dX6_reduce_59 : decode cX6_reduce 59 = .ok (.laload, 1) := by decide +kernel
theorem dX6_reduce_60 : decode cX6_reduce 60 = .ok (.lxor, 1) := by decide +kernel
theorem dX6_reduce_61 : decode cX6_reduce 61 = .ok (.putfield 106, 3) := by decide +kernel
theorem dX6_reduce_64 : decode cX6_reduce 64 = .ok (.aload_n 0, 1) := by decide +kernel
theorem dX6_reduce_65 : decode cX6_reduce 65 = .ok (.dup, 1) := by decide +kernel
theorem dX6_reduce_66 : decode cX6_reduce 66 = .ok (.getfield 109, 3) := by decide +kernel
theorem dX6_reduce_69 : decode cX6_reduce 69 = .ok (.aload_n 0, 1) := by decide +kernel
theorem dX6_reduce_70 : decode cX6_reduce 70 = .ok (.getfield 39, 3) := by decide +kernel
theorem dX6_reduce_73 : decode cX6_reduce 73 = .ok (.iload 4, 2) := by decide +kernel
theorem dX6_reduce_75 : decode cX6_reduce 75 = .ok (.iaload, 1) := by decide +kernel
theorem dX6_reduce_76 : decode cX6_reduce 76 = .ok (.ixor, 1) := by decide +kernel
theorem dX6_reduce_77 : decode cX6_reduce 77 = .ok (.putfield 109, 3) := by decide +kernel
theorem dX6_reduce_80 : decode cX6_reduce 80 = .ok (.iinc 4 1, 3) := by decide +kernel
theorem dX6_reduce_83 : decode cX6_reduce 83 = .ok (.goto (-70), 3) := by decide +kernel
theorem dX6_reduce_86 : decode cX6_reduce 86 = .ok (.return_, 1) := by decide +kernel
theorem dX6_layRow_0 : decode cX6_layRow 0 = .ok (.aload_n 0, 1) := by decide +kernel
theorem dX6_layRow_1 : decode cX6_layRow 1 = .ok (.getfield 106, 3) := by decide +kernel
theorem dX6_layRow_4 : decode cX6_layRow 4 = .ok (.lconst 0, 1) := by decide +kernel
theorem dX6_layRow_5 : decode cX6_layRow 5 = .ok (.lcmp, 1) := by decide +kernel
theorem dX6_layRow_6 : decode cX6_layRow 6 = .ok (.ifCond .ne 4, 3) := by decide +kernel
theorem dX6_layRow_9 : decode cX6_layRow 9 = .ok (.return_, 1) := by decide +kernel
theorem dX6_layRow_10 : decode cX6_layRow 10 = .ok (.iconst 0, 1) := by decide +kernel
theorem dX6_layRow_11 : decode cX6_layRow 11 = .ok (.istore_n 1, 1) := by decide +kernel
theorem dX6_layRow_12 : decode cX6_layRow 12 = .ok (.aload_n 0, 1) := by decide +kernel
theorem dX6_layRow_13 : decode cX6_layRow 13 = .ok (.getfield 106, 3) := by decide +kernel
theorem dX6_layRow_16 : decode cX6_layRow 16 = .ok (.iload_n 1, 1) := by decide +kernel
theorem dX6_layRow_17 : decode cX6_layRow 17 = .ok (.lshr, 1) := by decide +kernel
theorem dX6_layRow_18 : decode cX6_layRow 18 = .ok (.lconst 1, 1) := by decide +kernel
theorem dX6_layRow_19 : decode cX6_layRow 19 = .ok (.land, 1) := by decide +kernel
theorem dX6_layRow_20 : decode cX6_layRow 20 = .ok (.lconst 0, 1) := by decide +kernel
theorem dX6_layRow_21 : decode cX6_layRow 21 = .ok (.lcmp, 1) := by decide +kernel
theorem dX6_layRow_22 : decode cX6_layRow 22 = .ok (.ifCond .ne 9, 3) := by decide +kernel
theorem dX6_layRow_25 : decode cX6_layRow 25 = .ok (.iinc 1 1, 3) := by decide +kernel
theorem dX6_layRow_28 : decode cX6_layRow 28 = .ok (.goto (-16), 3) := by decide +kernel
theorem dX6_layRow_31 : decode cX6_layRow 31 = .ok (.iconst 0, 1) := by decide +kernel
theorem dX6_layRow_32 : decode cX6_layRow 32 = .ok (.istore_n 2, 1) := by decide +kernel
theorem dX6_layRow_33 : decode cX6_layRow 33 = .ok (.iload_n 2, 1) := by decide +kernel
theorem dX6_layRow_34 : decode cX6_layRow 34 = .ok (.aload_n 0, 1) := by decide +kernel
theorem dX6_layRow_35 : decode cX6_layRow 35 = .ok (.getfield 17, 3) := by decide +kernel
theorem dX6_layRow_38 : decode cX6_layRow 38 = .ok (.if_icmp .ge 50, 3) := by decide +kernel
theorem dX6_layRow_41 : decode cX6_layRow 41 = .ok (.aload_n 0, 1) := by decide +kernel
theorem dX6_layRow_42 : decode cX6_layRow 42 = .ok (.getfield 36, 3) := by decide +kernel
theorem dX6_layRow_45 : decode cX6_layRow 45 = .ok (.iload_n 2, 1) := by decide +kernel
theorem dX6_layRow_46 : decode cX6_layRow 46 = .ok (.laload, 1) := by decide +kernel
theorem dX6_layRow_47 : decode cX6_layRow 47 = .ok (.iload_n 1, 1) := by decide +kernel
theorem dX6_layRow_48 : decode cX6_layRow 48 = .ok (.lshr, 1) := by decide +kernel
theorem dX6_layRow_49 : decode cX6_layRow 49 = .ok (.lconst 1, 1) := by decide +kernel
theorem dX6_layRow_50 : decode cX6_layRow 50 = .ok (.land, 1) := by decide +kernel
theorem dX6_layRow_51 : decode cX6_layRow 51 = .ok (.lconst 1, 1) := by decide +kernel
theorem dX6_layRow_52 : decode cX6_layRow 52 = .ok (.lcmp, 1) := by decide +kernel
theorem dX6_layRow_53 : decode cX6_layRow 53 = .ok (.ifCond .ne 29, 3) := by decide +kernel
theorem dX6_layRow_56 : decode cX6_layRow 56 = .ok (.aload_n 0, 1) := by decide +kernel
theorem dX6_layRow_57 : decode cX6_layRow 57 = .ok (.getfield 36, 3) := by decide +kernel
theorem dX6_layRow_60 : decode cX6_layRow 60 = .ok (.iload_n 2, 1) := by decide +kernel
theorem dX6_layRow_61 : decode cX6_layRow 61 = .ok (.dup2, 1) := by decide +kernel
theorem dX6_layRow_62 : decode cX6_layRow 62 = .ok (.laload, 1) := by decide +kernel
theorem dX6_layRow_63 : decode cX6_layRow 63 = .ok (.aload_n 0, 1) := by decide +kernel
theorem dX6_layRow_64 : decode cX6_layRow 64 = .ok (.getfield 106, 3) := by decide +kernel
theorem dX6_layRow_67 : decode cX6_layRow 67 = .ok (.lxor, 1) := by decide +kernel
theorem dX6_layRow_68 : decode cX6_layRow 68 = .ok (.lastore, 1) := by decide +kernel
theorem dX6_layRow_69 : decode cX6_layRow 69 = .ok (.aload_n 0, 1) := by decide +kernel
theorem dX6_layRow_70 : decode cX6_layRow 70 = .ok (.getfield 39, 3) := by decide +kernel
theorem dX6_layRow_73 : decode cX6_layRow 73 = .ok (.iload_n 2, 1) := by decide +kernel
theorem dX6_layRow_74 : decode cX6_layRow 74 = .ok (.dup2, 1) := by decide +kernel
theorem dX6_layRow_75 : decode cX6_layRow 75 = .ok (.iaload, 1) := by decide +kernel
theorem dX6_layRow_76 : decode cX6_layRow 76 = .ok (.aload_n 0, 1) := by decide +kernel
theorem dX6_layRow_77 : decode cX6_layRow 77 = .ok (.getfield 109, 3) := by decide +kernel
theorem dX6_layRow_80 : decode cX6_layRow 80 = .ok (.ixor, 1) := by decide +kernel
theorem dX6_layRow_81 : decode cX6_layRow 81 = .ok (.iastore, 1) := by decide +kernel
theorem dX6_layRow_82 : decode cX6_layRow 82 = .ok (.iinc 2 1, 3) := by decide +kernel
theorem dX6_layRow_85 : decode cX6_layRow 85 = .ok (.goto (-52), 3) := by decide +kernel
theorem dX6_layRow_88 : decode cX6_layRow 88 = .ok (.aload_n 0, 1) := by decide +kernel
theorem dX6_layRow_89 : decode cX6_layRow 89 = .ok (.getfield 36, 3) := by decide +kernel
theorem dX6_layRow_92 : decode cX6_layRow 92 = .ok (.iload_n 1, 1) := by decide +kernel
theorem dX6_layRow_93 : decode cX6_layRow 93 = .ok (.aload_n 0, 1) := by decide +kernel
theorem dX6_layRow_94 : decode cX6_layRow 94 = .ok (.getfield 106, 3) := by decide +kernel
theorem dX6_layRow_97 : decode cX6_layRow 97 = .ok (.lastore, 1) := by decide +kernel
theorem dX6_layRow_98 : decode cX6_layRow 98 = .ok (.aload_n 0, 1) := by decide +kernel
theorem dX6_layRow_99 : decode cX6_layRow 99 = .ok (.getfield 39, 3) := by decide +kernel
theorem dX6_layRow_102 : decode cX6_layRow 102 = .ok (.iload_n 1, 1) := by decide +kernel
theorem dX6_layRow_103 : decode cX6_layRow 103 = .ok (.aload_n 0, 1) := by decide +kernel
theorem dX6_layRow_104 : decode cX6_layRow 104 = .ok (.getfield 109, 3) := by decide +kernel
theorem dX6_layRow_107 : decode cX6_layRow 107 = .ok (.iastore, 1) := by decide +kernel
theorem dX6_layRow_108 : decode cX6_layRow 108 = .ok (.return_, 1) := by decide +kernel
set_option maxRecDepth 20000 in
theorem ggX6_addEquation_X6_reduce : GoodIn wsX6_addEquation wsX6_reduce := goodIn_r _ [8, 9, 10, 11, 12, 13, 18, 19, 20, 21, 22, 23, 24, 25, 26, 27, 28, 29, 30, 31, 32, 33, 34, 35, 36, 37, 38, 39] (by decide +kernel) (by decide +kernel)
set_option maxRecDepth 20000 in
theorem gX6_addEquation_X6_reduce : GoodIn wsX6_addEquation (wsV RX6 112 RX6 yX6_reduce wsX6_reduce) := goodIn_app (goodIn_of _ (by decide +kernel)) ggX6_addEquation_X6_reduce
set_option maxRecDepth 20000 in
theorem ggX6_addEquation_X6_layRow : GoodIn wsX6_addEquation wsX6_layRow := goodIn_r _ [17, 9, 11, 12, 13, 10, 18, 19, 20, 21, 22, 23, 24, 25, 26, 27, 28, 29, 30, 31, 32, 33, 34, 35, 36, 37, 38, 39] (by decide +kernel) (by decide +kernel)
set_option maxRecDepth 20000 in
theorem gX6_addEquation_X6_layRow : GoodIn wsX6_addEquation (wsV RX6 116 RX6 yX6_layRow wsX6_layRow) := goodIn_app (goodIn_of _ (by decide +kernel)) ggX6_addEquation_X6_layRow
theorem dX6_addEquation_0 : decode cX6_addEquation 0 = .ok (.aload_n 0, 1) := by decide +kernel
theorem dX6_addEquation_1 : decode cX6_addEquation 1 = .ok (.getfield 23, 3) := by decide +kernel
theorem dX6_addEquation_4 : decode cX6_addEquation 4 = .ok (.aload_n 0, 1) := by decide +kernel
theorem dX6_addEquation_5 : decode cX6_addEquation 5 = .ok (.getfield 68, 3) := by decide +kernel
theorem dX6_addEquation_8 : decode cX6_addEquation 8 = .ok (.lload_n 1, 1) := by decide +kernel
theorem dX6_addEquation_9 : decode cX6_addEquation 9 = .ok (.lastore, 1) := by decide +kernel
theorem dX6_addEquation_10 : decode cX6_addEquation 10 = .ok (.aload_n 0, 1) := by decide +kernel
theorem dX6_addEquation_11 : decode cX6_addEquation 11 = .ok (.getfield 27, 3) := by decide +kernel
theorem dX6_addEquation_14 : decode cX6_addEquation 14 = .ok (.aload_n 0, 1) := by decide +kernel
theorem dX6_addEquation_15 : decode cX6_addEquation 15 = .ok (.getfield 68, 3) := by decide +kernel
theorem dX6_addEquation_18 : decode cX6_addEquation 18 = .ok (.iload_n 3, 1) := by decide +kernel
theorem dX6_addEquation_19 : decode cX6_addEquation 19 = .ok (.iastore, 1) := by decide +kernel
theorem dX6_addEquation_20 : decode cX6_addEquation 20 = .ok (.aload_n 0, 1) := by decide +kernel
theorem dX6_addEquation_21 : decode cX6_addEquation 21 = .ok (.dup, 1) := by decide +kernel
theorem dX6_addEquation_22 : decode cX6_addEquation 22 = .ok (.getfield 68, 3) := by decide +kernel
theorem dX6_addEquation_25 : decode cX6_addEquation 25 = .ok (.iconst 1, 1) := by decide +kernel
theorem dX6_addEquation_26 : decode cX6_addEquation 26 = .ok (.iadd, 1) := by decide +kernel
theorem dX6_addEquation_27 : decode cX6_addEquation 27 = .ok (.putfield 68, 3) := by decide +kernel
theorem dX6_addEquation_30 : decode cX6_addEquation 30 = .ok (.aload_n 0, 1) := by decide +kernel
theorem dX6_addEquation_31 : decode cX6_addEquation 31 = .ok (.lload_n 1, 1) := by decide +kernel
theorem dX6_addEquation_32 : decode cX6_addEquation 32 = .ok (.iload_n 3, 1) := by decide +kernel
theorem dX6_addEquation_33 : decode cX6_addEquation 33 = .ok (.invokevirtual 112, 3) := by decide +kernel
theorem dX6_addEquation_36 : decode cX6_addEquation 36 = .ok (.aload_n 0, 1) := by decide +kernel
theorem dX6_addEquation_37 : decode cX6_addEquation 37 = .ok (.invokevirtual 116, 3) := by decide +kernel
theorem dX6_addEquation_40 : decode cX6_addEquation 40 = .ok (.return_, 1) := by decide +kernel
theorem dX6_peel_0 : decode cX6_peel 0 = .ok (.aload_n 0, 1) := by decide +kernel
theorem dX6_peel_1 : decode cX6_peel 1 = .ok (.getfield 74, 3) := by decide +kernel
theorem dX6_peel_4 : decode cX6_peel 4 = .ok (.istore_n 1, 1) := by decide +kernel
theorem dX6_peel_5 : decode cX6_peel 5 = .ok (.iconst 1, 1) := by decide +kernel
theorem dX6_peel_6 : decode cX6_peel 6 = .ok (.istore_n 2, 1) := by decide +kernel
theorem dX6_peel_7 : decode cX6_peel 7 = .ok (.iload_n 2, 1) := by decide +kernel
theorem dX6_peel_8 : decode cX6_peel 8 = .ok (.ifCond .eq 135, 3) := by decide +kernel
theorem dX6_peel_11 : decode cX6_peel 11 = .ok (.iconst 0, 1) := by decide +kernel
theorem dX6_peel_12 : decode cX6_peel 12 = .ok (.istore_n 2, 1) := by decide +kernel
theorem dX6_peel_13 : decode cX6_peel 13 = .ok (.iconst 0, 1) := by decide +kernel
theorem dX6_peel_14 : decode cX6_peel 14 = .ok (.istore_n 3, 1) := by decide +kernel
theorem dX6_peel_15 : decode cX6_peel 15 = .ok (.iload_n 3, 1) := by decide +kernel
theorem dX6_peel_16 : decode cX6_peel 16 = .ok (.aload_n 0, 1) := by decide +kernel
theorem dX6_peel_17 : decode cX6_peel 17 = .ok (.getfield 68, 3) := by decide +kernel
theorem dX6_peel_20 : decode cX6_peel 20 = .ok (.if_icmp .ge 120, 3) := by decide +kernel
theorem dX6_peel_23 : decode cX6_peel 23 = .ok (.iload_n 2, 1) := by decide +kernel
theorem dX6_peel_24 : decode cX6_peel 24 = .ok (.ifCond .ne 116, 3) := by decide +kernel
theorem dX6_peel_27 : decode cX6_peel 27 = .ok (.aload_n 0, 1) := by decide +kernel
theorem dX6_peel_28 : decode cX6_peel 28 = .ok (.getfield 23, 3) := by decide +kernel
theorem dX6_peel_31 : decode cX6_peel 31 = .ok (.iload_n 3, 1) := by decide +kernel
theorem dX6_peel_32 : decode cX6_peel 32 = .ok (.laload, 1) := by decide +kernel
theorem dX6_peel_33 : decode cX6_peel 33 = .ok (.aload_n 0, 1) := by decide +kernel
theorem dX6_peel_34 : decode cX6_peel 34 = .ok (.getfield 77, 3) := by decide +kernel
theorem dX6_peel_37 : decode cX6_peel 37 = .ok (.ldc2_w 119, 3) := by decide +kernel
theorem dX6_peel_40 : decode cX6_peel 40 = .ok (.lxor, 1) := by decide +kernel
theorem dX6_peel_41 : decode cX6_peel 41 = .ok (.land, 1) := by decide +kernel
theorem dX6_peel_42 : decode cX6_peel 42 = .ok (.lstore 4, 2) := by decide +kernel
theorem dX6_peel_44 : decode cX6_peel 44 = .ok (.lload 4, 2) := by decide +kernel
theorem dX6_peel_46 : decode cX6_peel 46 = .ok (.lconst 0, 1) := by decide +kernel
theorem dX6_peel_47 : decode cX6_peel 47 = .ok (.lcmp, 1) := by decide +kernel
theorem dX6_peel_48 : decode cX6_peel 48 = .ok (.ifCond .eq 19, 3) := by decide +kernel
theorem dX6_peel_51 : decode cX6_peel 51 = .ok (.lload 4, 2) := by decide +kernel
theorem dX6_peel_53 : decode cX6_peel 53 = .ok (.lload 4, 2) := by decide +kernel
theorem dX6_peel_55 : decode cX6_peel 55 = .ok (.lconst 1, 1) := by decide +kernel
theorem dX6_peel_56 : decode cX6_peel 56 = .ok (.lsub, 1) := by decide +kernel
theorem dX6_peel_57 : decode cX6_peel 57 = .ok (.land, 1) := by decide +kernel
theorem dX6_peel_58 : decode cX6_peel 58 = .ok (.lconst 0, 1) := by decide +kernel
theorem dX6_peel_59 : decode cX6_peel 59 = .ok (.lcmp, 1) := by decide +kernel
theorem dX6_peel_60 : decode cX6_peel 60 = .ok (.ifCond .ne 7, 3) := by decide +kernel
theorem dX6_peel_63 : decode cX6_peel 63 = .ok (.iconst 1, 1) := by decide +kernel
theorem dX6_peel_64 : decode cX6_peel 64 = .ok (.goto 4, 3) := by decide +kernel
theorem dX6_peel_67 : decode cX6_peel 67 = .ok (.iconst 0, 1) := by decide +kernel
theorem dX6_peel_68 : decode cX6_peel 68 = .ok (.istore_n 2, 1) := by decide +kernel
theorem dX6_peel_69 : decode cX6_peel 69 = .ok (.iload_n 2, 1) := by decide +kernel
theorem dX6_peel_70 : decode cX6_peel 70 = .ok (.ifCond .eq 64, 3) := by decide +kernel
theorem dX6_peel_73 : decode cX6_peel 73 = .ok (.iconst 0, 1) := by decide +kernel
theorem dX6_peel_74 : decode cX6_peel 74 = .ok (.istore 6, 2) := by decide +kernel
theorem dX6_peel_76 : decode cX6_peel 76 = .ok (.lload 4, 2) := by decide +kernel
theorem dX6_peel_78 : decode cX6_peel 78 = .ok (.iload 6, 2) := by decide +kernel
theorem dX6_peel_80 : decode cX6_peel 80 = .ok (.lshr, 1) := by decide +kernel
theorem dX6_peel_81 : decode cX6_peel 81 = .ok (.lconst 1, 1) := by decide +kernel
theorem dX6_peel_82 : decode cX6_peel 82 = .ok (.land, 1) := by decide +kernel
theorem dX6_peel_83 : decode cX6_peel 83 = .ok (.lconst 0, 1) := by decide +kernel
theorem dX6_peel_84 : decode cX6_peel 84 = .ok (.lcmp, 1) := by decide +kernel
theorem dX6_peel_85 : decode cX6_peel 85 = .ok (.ifCond .ne 9, 3) := by decide +kernel
theorem dX6_peel_88 : decode cX6_peel 88 = .ok (.iinc 6 1, 3) := by decide +kernel
theorem dX6_peel_91 : decode cX6_peel 91 = .ok (.goto (-15), 3) := by decide +kernel
theorem dX6_peel_94 : decode cX6_peel 94 = .ok (.aload_n 0, 1) := by decide +kernel
theorem dX6_peel_95 : decode cX6_peel 95 = .ok (.getfield 30, 3) := by decide +kernel
theorem dX6_peel_98 : decode cX6_peel 98 = .ok (.aload_n 0, 1) := by decide +kernel
theorem dX6_peel_99 : decode cX6_peel 99 = .ok (.getfield 74, 3) := by decide +kernel
theorem dX6_peel_102 : decode cX6_peel 102 = .ok (.iload 6, 2) := by decide +kernel
theorem dX6_peel_104 : decode cX6_peel 104 = .ok (.iastore, 1) := by decide +kernel
theorem dX6_peel_105 : decode cX6_peel 105 = .ok (.aload_n 0, 1) := by decide +kernel
theorem dX6_peel_106 : decode cX6_peel 106 = .ok (.getfield 33, 3) := by decide +kernel
theorem dX6_peel_109 : decode cX6_peel 109 = .ok (.iload 6, 2) := by decide +kernel
theorem dX6_peel_111 : decode cX6_peel 111 = .ok (.iload_n 3, 1) := by decide +kernel
theorem dX6_peel_112 : decode cX6_peel 112 = .ok (.iastore, 1) := by decide +kernel
theorem dX6_peel_113 : decode cX6_peel 113 = .ok (.aload_n 0, 1) := by decide +kernel
theorem dX6_peel_114 : decode cX6_peel 114 = .ok (.dup, 1) := by decide +kernel
theorem dX6_peel_115 : decode cX6_peel 115 = .ok (.getfield 74, 3) := by decide +kernel
theorem dX6_peel_118 : decode cX6_peel 118 = .ok (.iconst 1, 1) := by decide +kernel
theorem dX6_peel_119 : decode cX6_peel 119 = .ok (.iadd, 1) := by decide +kernel
theorem dX6_peel_120 : decode cX6_peel 120 = .ok (.putfield 74, 3) := by decide +kernel
theorem dX6_peel_123 : decode cX6_peel 123 = .ok (.aload_n 0, 1) := by decide +kernel
theorem dX6_peel_124 : decode cX6_peel 124 = .ok (.dup, 1) := by decide +kernel
theorem dX6_peel_125 : decode cX6_peel 125 = .ok (.getfield 77, 3) := by decide +kernel
theorem dX6_peel_128 : decode cX6_peel 128 = .ok (.lload 4, 2) := by decide +kernel
theorem dX6_peel_130 : decode cX6_peel 130 = .ok (.lor, 1) := by decide +kernel
theorem dX6_peel_131 : decode cX6_peel 131 = .ok (.putfield 77, 3) := by decide +kernel
theorem dX6_peel_134 : decode cX6_peel 134 = .ok (.iinc 3 1, 3) := by decide +kernel
theorem dX6_peel_137 : decode cX6_peel 137 = .ok (.goto (-122), 3) := by decide +kernel
theorem dX6_peel_140 : decode cX6_peel 140 = .ok (.goto (-133), 3) := by decide +kernel
theorem dX6_peel_143 : decode cX6_peel 143 = .ok (.aload_n 0, 1) := by decide +kernel
theorem dX6_peel_144 : decode cX6_peel 144 = .ok (.getfield 74, 3) := by decide +kernel
theorem dX6_peel_147 : decode cX6_peel 147 = .ok (.iload_n 1, 1) := by decide +kernel
theorem dX6_peel_148 : decode cX6_peel 148 = .ok (.isub, 1) := by decide +kernel
theorem dX6_peel_149 : decode cX6_peel 149 = .ok (.ireturn, 1) := by decide +kernel
theorem dX6_rankOf_0 : decode cX6_rankOf 0 = .ok (.iconst 0, 1) := by decide +kernel
theorem dX6_rankOf_1 : decode cX6_rankOf 1 = .ok (.istore_n 1, 1) := by decide +kernel
theorem dX6_rankOf_2 : decode cX6_rankOf 2 = .ok (.iconst 0, 1) := by decide +kernel
theorem dX6_rankOf_3 : decode cX6_rankOf 3 = .ok (.istore_n 2, 1) := by decide +kernel
theorem dX6_rankOf_4 : decode cX6_rankOf 4 = .ok (.iload_n 2, 1) := by decide +kernel
theorem dX6_rankOf_5 : decode cX6_rankOf 5 = .ok (.aload_n 0, 1) := by decide +kernel
theorem dX6_rankOf_6 : decode cX6_rankOf 6 = .ok (.getfield 17, 3) := by decide +kernel
theorem dX6_rankOf_9 : decode cX6_rankOf 9 = .ok (.if_icmp .ge 28, 3) := by decide +kernel
theorem dX6_rankOf_12 : decode cX6_rankOf 12 = .ok (.iload_n 1, 1) := by decide +kernel
theorem dX6_rankOf_13 : decode cX6_rankOf 13 = .ok (.aload_n 0, 1) := by decide +kernel
theorem dX6_rankOf_14 : decode cX6_rankOf 14 = .ok (.getfield 36, 3) := by decide +kernel
theorem dX6_rankOf_17 : decode cX6_rankOf 17 = .ok (.iload_n 2, 1) := by decide +kernel
theorem dX6_rankOf_18 : decode cX6_rankOf 18 = .ok (.laload, 1) := by decide +kernel
theorem dX6_rankOf_19 : decode cX6_rankOf 19 = .ok (.lconst 0, 1) := by decide +kernel
theorem dX6_rankOf_20 : decode cX6_rankOf 20 = .ok (.lcmp, 1) := by decide +kernel
theorem dX6_rankOf_21 : decode cX6_rankOf 21 = .ok (.ifCond .eq 7, 3) := by decide +kernel
theorem dX6_rankOf_24 : decode cX6_rankOf 24 = .ok (.iconst 1, 1) := by decide +kernel
theorem dX6_rankOf_25 : decode cX6_rankOf 25 = .ok (.goto 4, 3) := by decide +kernel
theorem dX6_rankOf_28 : decode cX6_rankOf 28 = .ok (.iconst 0, 1) := by decide +kernel
theorem dX6_rankOf_29 : decode cX6_rankOf 29 = .ok (.iadd, 1) := by decide +kernel
theorem dX6_rankOf_30 : decode cX6_rankOf 30 = .ok (.istore_n 1, 1) := by decide +kernel
theorem dX6_rankOf_31 : decode cX6_rankOf 31 = .ok (.iinc 2 1, 3) := by decide +kernel
theorem dX6_rankOf_34 : decode cX6_rankOf 34 = .ok (.goto (-30), 3) := by decide +kernel
theorem dX6_rankOf_37 : decode cX6_rankOf 37 = .ok (.iload_n 1, 1) := by decide +kernel
theorem dX6_rankOf_38 : decode cX6_rankOf 38 = .ok (.ireturn, 1) := by decide +kernel
theorem dX6_determinedMany_0 : decode cX6_determinedMany 0 = .ok (.iconst 0, 1) := by decide +kernel
theorem dX6_determinedMany_1 : decode cX6_determinedMany 1 = .ok (.istore_n 1, 1) := by decide +kernel
theorem dX6_determinedMany_2 : decode cX6_determinedMany 2 = .ok (.iconst 0, 1) := by decide +kernel
theorem dX6_determinedMany_3 : decode cX6_determinedMany 3 = .ok (.istore_n 2, 1) := by decide +kernel
theorem dX6_determinedMany_4 : decode cX6_determinedMany 4 = .ok (.iload_n 2, 1) := by decide +kernel
theorem dX6_determinedMany_5 : decode cX6_determinedMany 5 = .ok (.aload_n 0, 1) := by decide +kernel
theorem dX6_determinedMany_6 : decode cX6_determinedMany 6 = .ok (.getfield 17, 3) := by decide +kernel
theorem dX6_determinedMany_9 : decode cX6_determinedMany 9 = .ok (.if_icmp .ge 30, 3) := by decide +kernel
theorem dX6_determinedMany_12 : decode cX6_determinedMany 12 = .ok (.iload_n 1, 1) := by decide +kernel
theorem dX6_determinedMany_13 : decode cX6_determinedMany 13 = .ok (.aload_n 0, 1) := by decide +kernel
theorem dX6_determinedMany_14 : decode cX6_determinedMany 14 = .ok (.getfield 36, 3) := by decide +kernel
theorem dX6_determinedMany_17 : decode cX6_determinedMany 17 = .ok (.iload_n 2, 1) := by decide +kernel
theorem dX6_determinedMany_18 : decode cX6_determinedMany 18 = .ok (.laload, 1) := by decide +kernel
theorem dX6_determinedMany_19 : decode cX6_determinedMany 19 = .ok (.lconst 1, 1) := by decide +kernel
theorem dX6_determinedMany_20 : decode cX6_determinedMany 20 = .ok (.iload_n 2, 1) := by decide +kernel
theorem dX6_determinedMany_21 : decode cX6_determinedMany 21 = .ok (.lshl, 1) := by decide +kernel
theorem dX6_determinedMany_22 : decode cX6_determinedMany 22 = .ok (.lcmp, 1) := by decide +kernel
theorem dX6_determinedMany_23 : decode cX6_determinedMany 23 = .ok (.ifCond .ne 7, 3) := by decide +kernel
theorem dX6_determinedMany_26 : decode cX6_determinedMany 26 = .ok (.iconst 1, 1) := by decide +kernel
theorem dX6_determinedMany_27 : decode cX6_determinedMany 27 = .ok (.goto 4, 3) := by decide +kernel
theorem dX6_determinedMany_30 : decode cX6_determinedMany 30 = .ok (.iconst 0, 1) := by decide +kernel
theorem dX6_determinedMany_31 : decode cX6_determinedMany 31 = .ok (.iadd, 1) := by decide +kernel
theorem dX6_determinedMany_32 : decode cX6_determinedMany 32 = .ok (.istore_n 1, 1) := by decide +kernel
theorem dX6_determinedMany_33 : decode cX6_determinedMany 33 = .ok (.iinc 2 1, 3) := by decide +kernel
theorem dX6_determinedMany_36 : decode cX6_determinedMany 36 = .ok (.goto (-32), 3) := by decide +kernel
theorem dX6_determinedMany_39 : decode cX6_determinedMany 39 = .ok (.iload_n 1, 1) := by decide +kernel
theorem dX6_determinedMany_40 : decode cX6_determinedMany 40 = .ok (.ireturn, 1) := by decide +kernel
set_option maxRecDepth 20000 in
theorem ggX6_start_X6_within : GoodIn wsX6_start wsX6_within := goodIn_r _ [7] (by decide +kernel) (by decide +kernel)
set_option maxRecDepth 20000 in
theorem gX6_start_X6_within : GoodIn wsX6_start (va_wsS RX6 57 yX6_within wsX6_within) := goodIn_app (goodIn_of _ (by decide +kernel)) ggX6_start_X6_within
set_option maxRecDepth 20000 in
theorem ggX6_start_X6_refused : GoodIn wsX6_start wsX6_refused := goodIn_r _ [11, 12, 49, 50, 51, 52, 53, 54, 55, 56, 57, 58, 59, 60, 61, 62, 63, 64, 65, 66, 67, 68, 69, 70] (by decide +kernel) (by decide +kernel)
set_option maxRecDepth 20000 in
theorem gX6_start_X6_refused : GoodIn wsX6_start (wsV RX6 65 RX6 yX6_refused wsX6_refused) := goodIn_app (goodIn_of _ (by decide +kernel)) ggX6_start_X6_refused
set_option maxRecDepth 20000 in
theorem ggX6_start_X6_clear : GoodIn wsX6_start wsX6_clear := goodIn_r _ [16, 17, 18, 19, 20, 21, 22, 23, 49, 50, 51, 52, 53, 54, 55, 56, 57, 58, 59, 60, 61, 62, 63, 64, 65, 66, 67, 68, 69, 70] (by decide +kernel) (by decide +kernel)
set_option maxRecDepth 20000 in
theorem gX6_start_X6_clear : GoodIn wsX6_start (wsV RX6 51 RX6 yX6_clear wsX6_clear) := goodIn_app (goodIn_of _ (by decide +kernel)) ggX6_start_X6_clear
set_option maxRecDepth 20000 in
theorem ggX6_start_X6_covers : GoodIn wsX6_start wsX6_covers := goodIn_r _ [26] (by decide +kernel) (by decide +kernel)
set_option maxRecDepth 20000 in
theorem gX6_start_X6_covers : GoodIn wsX6_start (va_wsS RX6 81 yX6_covers wsX6_covers) := goodIn_app (goodIn_of _ (by decide +kernel)) ggX6_start_X6_covers
set_option maxRecDepth 20000 in
theorem ggX6_start_X6_addEquation : GoodIn wsX6_start wsX6_addEquation := goodIn_r _ [30, 31, 17, 32, 33, 34, 35, 6, 36, 37, 38, 2, 22, 23, 39, 40, 41, 42, 49, 50, 51, 52, 53, 54, 55, 56, 57, 58, 59, 60, 61, 62, 63, 64, 65, 66, 67, 68, 69, 70] (by decide +kernel) (by decide +kernel)
set_option maxRecDepth 20000 in
theorem gX6_start_X6_addEquation : GoodIn wsX6_start (wsV RX6 121 RX6 yX6_addEquation wsX6_addEquation) := goodIn_app (goodIn_of _ (by decide +kernel)) ggX6_start_X6_addEquation
set_option maxRecDepth 20000 in
theorem ggX6_start_X6_peel : GoodIn wsX6_start wsX6_peel := goodIn_r _ [46, 19, 17, 31, 20, 47, 48, 21, 49, 50, 51, 52, 53, 54, 55, 56, 57, 58, 59, 60, 61, 62, 63, 64, 65, 66, 67, 68, 69, 70] (by decide +kernel) (by decide +kernel)
set_option maxRecDepth 20000 in
theorem gX6_start_X6_peel : GoodIn wsX6_start (wsV RX6 124 RX6 yX6_peel wsX6_peel) := goodIn_app (goodIn_of _ (by decide +kernel)) ggX6_start_X6_peel
theorem dX6_start_0 : decode cX6_start 0 = .ok (.aload_n 0, 1) := by decide +kernel
theorem dX6_start_1 : decode cX6_start 1 = .ok (.iload_n 1, 1) := by decide +kernel
theorem dX6_start_2 : decode cX6_start 2 = .ok (.iconst 1, 1) := by decide +kernel
theorem dX6_start_3 : decode cX6_start 3 = .ok (.bipush 32, 2) := by decide +kernel
theorem dX6_start_5 : decode cX6_start 5 = .ok (.invokestatic 57, 3) := by decide +kernel
theorem dX6_start_8 : decode cX6_start 8 = .ok (.ifCond .eq 17, 3) := by decide +kernel
theorem dX6_start_11 : decode cX6_start 11 = .ok (.iload_n 2, 1) := by decide +kernel
theorem dX6_start_12 : decode cX6_start 12 = .ok (.iconst 0, 1) := by decide +kernel
theorem dX6_start_13 : decode cX6_start 13 = .ok (.bipush 6, 2) := by decide +kernel
theorem dX6_start_15 : decode cX6_start 15 = .ok (.invokestatic 57, 3) := by decide +kernel
theorem dX6_start_18 : decode cX6_start 18 = .ok (.ifCond .eq 7, 3) := by decide +kernel
theorem dX6_start_21 : decode cX6_start 21 = .ok (.iconst 0, 1) := by decide +kernel
theorem dX6_start_22 : decode cX6_start 22 = .ok (.goto 4, 3) := by decide +kernel
theorem dX6_start_25 : decode cX6_start 25 = .ok (.iconst 1, 1) := by decide +kernel
theorem dX6_start_26 : decode cX6_start 26 = .ok (.invokevirtual 65, 3) := by decide +kernel
theorem dX6_start_29 : decode cX6_start 29 = .ok (.ifCond .eq 5, 3) := by decide +kernel
theorem dX6_start_32 : decode cX6_start 32 = .ok (.iconst 0, 1) := by decide +kernel
theorem dX6_start_33 : decode cX6_start 33 = .ok (.ireturn, 1) := by decide +kernel
theorem dX6_start_34 : decode cX6_start 34 = .ok (.aload_n 0, 1) := by decide +kernel
theorem dX6_start_35 : decode cX6_start 35 = .ok (.iload_n 1, 1) := by decide +kernel
theorem dX6_start_36 : decode cX6_start 36 = .ok (.putfield 13, 3) := by decide +kernel
theorem dX6_start_39 : decode cX6_start 39 = .ok (.aload_n 0, 1) := by decide +kernel
theorem dX6_start_40 : decode cX6_start 40 = .ok (.iload_n 1, 1) := by decide +kernel
theorem dX6_start_41 : decode cX6_start 41 = .ok (.iload_n 2, 1) := by decide +kernel
theorem dX6_start_42 : decode cX6_start 42 = .ok (.iadd, 1) := by decide +kernel
theorem dX6_start_43 : decode cX6_start 43 = .ok (.putfield 17, 3) := by decide +kernel
theorem dX6_start_46 : decode cX6_start 46 = .ok (.iconst 0, 1) := by decide +kernel
theorem dX6_start_47 : decode cX6_start 47 = .ok (.istore_n 3, 1) := by decide +kernel
theorem dX6_start_48 : decode cX6_start 48 = .ok (.iload_n 3, 1) := by decide +kernel
theorem dX6_start_49 : decode cX6_start 49 = .ok (.bipush 32, 2) := by decide +kernel
theorem dX6_start_51 : decode cX6_start 51 = .ok (.if_icmp .ge 16, 3) := by decide +kernel
theorem dX6_start_54 : decode cX6_start 54 = .ok (.aload_n 0, 1) := by decide +kernel
theorem dX6_start_55 : decode cX6_start 55 = .ok (.getfield 20, 3) := by decide +kernel
theorem dX6_start_58 : decode cX6_start 58 = .ok (.iload_n 3, 1) := by decide +kernel
theorem dX6_start_59 : decode cX6_start 59 = .ok (.iconst 0, 1) := by decide +kernel
theorem dX6_start_60 : decode cX6_start 60 = .ok (.iastore, 1) := by decide +kernel
theorem dX6_start_61 : decode cX6_start 61 = .ok (.iinc 3 1, 3) := by decide +kernel
theorem dX6_start_64 : decode cX6_start 64 = .ok (.goto (-16), 3) := by decide +kernel
theorem dX6_start_67 : decode cX6_start 67 = .ok (.aload_n 0, 1) := by decide +kernel
theorem dX6_start_68 : decode cX6_start 68 = .ok (.invokevirtual 51, 3) := by decide +kernel
theorem dX6_start_71 : decode cX6_start 71 = .ok (.iconst 0, 1) := by decide +kernel
theorem dX6_start_72 : decode cX6_start 72 = .ok (.istore_n 3, 1) := by decide +kernel
theorem dX6_start_73 : decode cX6_start 73 = .ok (.iload_n 3, 1) := by decide +kernel
theorem dX6_start_74 : decode cX6_start 74 = .ok (.iload_n 2, 1) := by decide +kernel
theorem dX6_start_75 : decode cX6_start 75 = .ok (.if_icmp .ge 60, 3) := by decide +kernel
theorem dX6_start_78 : decode cX6_start 78 = .ok (.lconst 1, 1) := by decide +kernel
theorem dX6_start_79 : decode cX6_start 79 = .ok (.iload_n 1, 1) := by decide +kernel
theorem dX6_start_80 : decode cX6_start 80 = .ok (.iload_n 3, 1) := by decide +kernel
theorem dX6_start_81 : decode cX6_start 81 = .ok (.iadd, 1) := by decide +kernel
theorem dX6_start_82 : decode cX6_start 82 = .ok (.lshl, 1) := by decide +kernel
theorem dX6_start_83 : decode cX6_start 83 = .ok (.lstore 4, 2) := by decide +kernel
theorem dX6_start_85 : decode cX6_start 85 = .ok (.iconst 0, 1) := by decide +kernel
theorem dX6_start_86 : decode cX6_start 86 = .ok (.istore 6, 2) := by decide +kernel
theorem dX6_start_88 : decode cX6_start 88 = .ok (.iload 6, 2) := by decide +kernel
theorem dX6_start_90 : decode cX6_start 90 = .ok (.iload_n 1, 1) := by decide +kernel
theorem dX6_start_91 : decode cX6_start 91 = .ok (.if_icmp .ge 31, 3) := by decide +kernel
theorem dX6_start_94 : decode cX6_start 94 = .ok (.lload 4, 2) := by decide +kernel
theorem dX6_start_96 : decode cX6_start 96 = .ok (.iload_n 3, 1) := by decide +kernel
theorem dX6_start_97 : decode cX6_start 97 = .ok (.iload 6, 2) := by decide +kernel
theorem dX6_start_99 : decode cX6_start 99 = .ok (.invokestatic 81, 3) := by decide +kernel
theorem dX6_start_102 : decode cX6_start 102 = .ok (.ifCond .eq 10, 3) := by decide +kernel
theorem dX6_start_105 : decode cX6_start 105 = .ok (.lconst 1, 1) := by decide +kernel
theorem dX6_start_106 : decode cX6_start 106 = .ok (.iload 6, 2) := by decide +kernel
theorem dX6_start_108 : decode cX6_start 108 = .ok (.lshl, 1) := by decide +kernel
theorem dX6_start_109 : decode cX6_start 109 = .ok (.goto 4, 3) := by decide +kernel
theorem dX6_start_112 : decode cX6_start 112 = .ok (.lconst 0, 1) := by decide +kernel
theorem dX6_start_113 : decode cX6_start 113 = .ok (.lor, 1) := by decide +kernel
theorem dX6_start_114 : decode cX6_start 114 = .ok (.lstore 4, 2) := by decide +kernel
theorem dX6_start_116 : decode cX6_start 116 = .ok (.iinc 6 1, 3) := by decide +kernel
theorem dX6_start_119 : decode cX6_start 119 = .ok (.goto (-31), 3) := by decide +kernel
theorem dX6_start_122 : decode cX6_start 122 = .ok (.aload_n 0, 1) := by decide +kernel
theorem dX6_start_123 : decode cX6_start 123 = .ok (.lload 4, 2) := by decide +kernel
theorem dX6_start_125 : decode cX6_start 125 = .ok (.iconst 0, 1) := by decide +kernel
theorem dX6_start_126 : decode cX6_start 126 = .ok (.invokevirtual 121, 3) := by decide +kernel
theorem dX6_start_129 : decode cX6_start 129 = .ok (.iinc 3 1, 3) := by decide +kernel
theorem dX6_start_132 : decode cX6_start 132 = .ok (.goto (-59), 3) := by decide +kernel
theorem dX6_start_135 : decode cX6_start 135 = .ok (.aload_n 0, 1) := by decide +kernel
theorem dX6_start_136 : decode cX6_start 136 = .ok (.invokevirtual 124, 3) := by decide +kernel
theorem dX6_start_139 : decode cX6_start 139 = .ok (.ireturn, 1) := by decide +kernel
set_option maxRecDepth 20000 in
theorem ggX6_setWeight_X6_within : GoodIn wsX6_setWeight wsX6_within := goodIn_r _ [5] (by decide +kernel) (by decide +kernel)
set_option maxRecDepth 20000 in
theorem gX6_setWeight_X6_within : GoodIn wsX6_setWeight (va_wsS RX6 57 yX6_within wsX6_within) := goodIn_app (goodIn_of _ (by decide +kernel)) ggX6_setWeight_X6_within
set_option maxRecDepth 20000 in
theorem ggX6_setWeight_X6_refused : GoodIn wsX6_setWeight wsX6_refused := goodIn_r _ [9, 10, 11, 12, 13, 14, 15, 16, 17, 18, 19, 20, 21, 22, 23, 24, 25, 26, 27, 28, 29, 30, 31, 32] (by decide +kernel) (by decide +kernel)
set_option maxRecDepth 20000 in
theorem gX6_setWeight_X6_refused : GoodIn wsX6_setWeight (wsV RX6 65 RX6 yX6_refused wsX6_refused) := goodIn_app (goodIn_of _ (by decide +kernel)) ggX6_setWeight_X6_refused
theorem dX6_setWeight_0 : decode cX6_setWeight 0 = .ok (.iload_n 1, 1) := by decide +kernel
theorem dX6_setWeight_1 : decode cX6_setWeight 1 = .ok (.iconst 1, 1) := by decide +kernel
theorem dX6_setWeight_2 : decode cX6_setWeight 2 = .ok (.bipush 12, 2) := by decide +kernel
theorem dX6_setWeight_4 : decode cX6_setWeight 4 = .ok (.invokestatic 57, 3) := by decide +kernel
theorem dX6_setWeight_7 : decode cX6_setWeight 7 = .ok (.ifCond .eq 18, 3) := by decide +kernel
theorem dX6_setWeight_10 : decode cX6_setWeight 10 = .ok (.iload_n 2, 1) := by decide +kernel
theorem dX6_setWeight_11 : decode cX6_setWeight 11 = .ok (.iconst 0, 1) := by decide +kernel
theorem dX6_setWeight_12 : decode cX6_setWeight 12 = .ok (.sipush 1000, 3) := by decide +kernel
theorem dX6_setWeight_15 : decode cX6_setWeight 15 = .ok (.invokestatic 57, 3) := by decide +kernel
theorem dX6_setWeight_18 : decode cX6_setWeight 18 = .ok (.ifCond .eq 7, 3) := by decide +kernel
theorem dX6_setWeight_21 : decode cX6_setWeight 21 = .ok (.iconst 1, 1) := by decide +kernel
theorem dX6_setWeight_22 : decode cX6_setWeight 22 = .ok (.goto 4, 3) := by decide +kernel
theorem dX6_setWeight_25 : decode cX6_setWeight 25 = .ok (.iconst 0, 1) := by decide +kernel
theorem dX6_setWeight_26 : decode cX6_setWeight 26 = .ok (.istore_n 3, 1) := by decide +kernel
theorem dX6_setWeight_27 : decode cX6_setWeight 27 = .ok (.iconst 0, 1) := by decide +kernel
theorem dX6_setWeight_28 : decode cX6_setWeight 28 = .ok (.istore 4, 2) := by decide +kernel
theorem dX6_setWeight_30 : decode cX6_setWeight 30 = .ok (.iconst 1, 1) := by decide +kernel
theorem dX6_setWeight_31 : decode cX6_setWeight 31 = .ok (.istore 5, 2) := by decide +kernel
theorem dX6_setWeight_33 : decode cX6_setWeight 33 = .ok (.iload 5, 2) := by decide +kernel
theorem dX6_setWeight_35 : decode cX6_setWeight 35 = .ok (.bipush 12, 2) := by decide +kernel
theorem dX6_setWeight_37 : decode cX6_setWeight 37 = .ok (.if_icmp .gt 31, 3) := by decide +kernel
theorem dX6_setWeight_40 : decode cX6_setWeight 40 = .ok (.iload 4, 2) := by decide +kernel
theorem dX6_setWeight_42 : decode cX6_setWeight 42 = .ok (.iload 5, 2) := by decide +kernel
theorem dX6_setWeight_44 : decode cX6_setWeight 44 = .ok (.iload_n 1, 1) := by decide +kernel
theorem dX6_setWeight_45 : decode cX6_setWeight 45 = .ok (.if_icmp .ne 7, 3) := by decide +kernel
theorem dX6_setWeight_48 : decode cX6_setWeight 48 = .ok (.iconst 0, 1) := by decide +kernel
theorem dX6_setWeight_49 : decode cX6_setWeight 49 = .ok (.goto 10, 3) := by decide +kernel
theorem dX6_setWeight_52 : decode cX6_setWeight 52 = .ok (.aload_n 0, 1) := by decide +kernel
theorem dX6_setWeight_53 : decode cX6_setWeight 53 = .ok (.getfield 7, 3) := by decide +kernel
theorem dX6_setWeight_56 : decode cX6_setWeight 56 = .ok (.iload 5, 2) := by decide +kernel
theorem dX6_setWeight_58 : decode cX6_setWeight 58 = .ok (.iaload, 1) := by decide +kernel
theorem dX6_setWeight_59 : decode cX6_setWeight 59 = .ok (.iadd, 1) := by decide +kernel
theorem dX6_setWeight_60 : decode cX6_setWeight 60 = .ok (.istore 4, 2) := by decide +kernel
theorem dX6_setWeight_62 : decode cX6_setWeight 62 = .ok (.iinc 5 1, 3) := by decide +kernel
theorem dX6_setWeight_65 : decode cX6_setWeight 65 = .ok (.goto (-32), 3) := by decide +kernel
theorem dX6_setWeight_68 : decode cX6_setWeight 68 = .ok (.aload_n 0, 1) := by decide +kernel
theorem dX6_setWeight_69 : decode cX6_setWeight 69 = .ok (.iload_n 3, 1) := by decide +kernel
theorem dX6_setWeight_70 : decode cX6_setWeight 70 = .ok (.ifCond .ne 7, 3) := by decide +kernel
theorem dX6_setWeight_73 : decode cX6_setWeight 73 = .ok (.iconst 1, 1) := by decide +kernel
theorem dX6_setWeight_74 : decode cX6_setWeight 74 = .ok (.goto 15, 3) := by decide +kernel
theorem dX6_setWeight_77 : decode cX6_setWeight 77 = .ok (.iload 4, 2) := by decide +kernel
theorem dX6_setWeight_79 : decode cX6_setWeight 79 = .ok (.iload_n 2, 1) := by decide +kernel
theorem dX6_setWeight_80 : decode cX6_setWeight 80 = .ok (.iadd, 1) := by decide +kernel
theorem dX6_setWeight_81 : decode cX6_setWeight 81 = .ok (.ifCond .ne 7, 3) := by decide +kernel
theorem dX6_setWeight_84 : decode cX6_setWeight 84 = .ok (.iconst 2, 1) := by decide +kernel
theorem dX6_setWeight_85 : decode cX6_setWeight 85 = .ok (.goto 4, 3) := by decide +kernel
theorem dX6_setWeight_88 : decode cX6_setWeight 88 = .ok (.iconst 0, 1) := by decide +kernel
theorem dX6_setWeight_89 : decode cX6_setWeight 89 = .ok (.invokevirtual 65, 3) := by decide +kernel
theorem dX6_setWeight_92 : decode cX6_setWeight 92 = .ok (.ifCond .eq 5, 3) := by decide +kernel
theorem dX6_setWeight_95 : decode cX6_setWeight 95 = .ok (.iconst 0, 1) := by decide +kernel
theorem dX6_setWeight_96 : decode cX6_setWeight 96 = .ok (.ireturn, 1) := by decide +kernel
theorem dX6_setWeight_97 : decode cX6_setWeight 97 = .ok (.aload_n 0, 1) := by decide +kernel
theorem dX6_setWeight_98 : decode cX6_setWeight 98 = .ok (.getfield 7, 3) := by decide +kernel
theorem dX6_setWeight_101 : decode cX6_setWeight 101 = .ok (.iload_n 1, 1) := by decide +kernel
theorem dX6_setWeight_102 : decode cX6_setWeight 102 = .ok (.iaload, 1) := by decide +kernel
theorem dX6_setWeight_103 : decode cX6_setWeight 103 = .ok (.istore 5, 2) := by decide +kernel
theorem dX6_setWeight_105 : decode cX6_setWeight 105 = .ok (.aload_n 0, 1) := by decide +kernel
theorem dX6_setWeight_106 : decode cX6_setWeight 106 = .ok (.getfield 7, 3) := by decide +kernel
theorem dX6_setWeight_109 : decode cX6_setWeight 109 = .ok (.iload_n 1, 1) := by decide +kernel
theorem dX6_setWeight_110 : decode cX6_setWeight 110 = .ok (.iload_n 2, 1) := by decide +kernel
theorem dX6_setWeight_111 : decode cX6_setWeight 111 = .ok (.iastore, 1) := by decide +kernel
theorem dX6_setWeight_112 : decode cX6_setWeight 112 = .ok (.iload 5, 2) := by decide +kernel
theorem dX6_setWeight_114 : decode cX6_setWeight 114 = .ok (.ireturn, 1) := by decide +kernel
set_option maxRecDepth 20000 in
theorem ggX6_setBlock_X6_within : GoodIn wsX6_setBlock wsX6_within := goodIn_r _ [6] (by decide +kernel) (by decide +kernel)
set_option maxRecDepth 20000 in
theorem gX6_setBlock_X6_within : GoodIn wsX6_setBlock (va_wsS RX6 57 yX6_within wsX6_within) := goodIn_app (goodIn_of _ (by decide +kernel)) ggX6_setBlock_X6_within
set_option maxRecDepth 20000 in
theorem ggX6_setBlock_X6_refused : GoodIn wsX6_setBlock wsX6_refused := goodIn_r _ [10, 11, 12, 13, 14, 15, 16, 17, 18, 19, 20, 21, 22, 23, 24, 25, 26, 27, 28, 29, 30, 31, 32, 33] (by decide +kernel) (by decide +kernel)
set_option maxRecDepth 20000 in
theorem gX6_setBlock_X6_refused : GoodIn wsX6_setBlock (wsV RX6 65 RX6 yX6_refused wsX6_refused) := goodIn_app (goodIn_of _ (by decide +kernel)) ggX6_setBlock_X6_refused
theorem dX6_setBlock_0 : decode cX6_setBlock 0 = .ok (.aload_n 0, 1) := by decide +kernel
theorem dX6_setBlock_1 : decode cX6_setBlock 1 = .ok (.iload_n 1, 1) := by decide +kernel
theorem dX6_setBlock_2 : decode cX6_setBlock 2 = .ok (.iconst 0, 1) := by decide +kernel
theorem dX6_setBlock_3 : decode cX6_setBlock 3 = .ok (.aload_n 0, 1) := by decide +kernel
theorem dX6_setBlock_4 : decode cX6_setBlock 4 = .ok (.getfield 13, 3) := by decide +kernel
theorem dX6_setBlock_7 : decode cX6_setBlock 7 = .ok (.iconst 1, 1) := by decide +kernel
theorem dX6_setBlock_8 : decode cX6_setBlock 8 = .ok (.isub, 1) := by decide +kernel
theorem dX6_setBlock_9 : decode cX6_setBlock 9 = .ok (.invokestatic 57, 3) := by decide +kernel
theorem dX6_setBlock_12 : decode cX6_setBlock 12 = .ok (.ifCond .eq 7, 3) := by decide +kernel
theorem dX6_setBlock_15 : decode cX6_setBlock 15 = .ok (.iconst 0, 1) := by decide +kernel
theorem dX6_setBlock_16 : decode cX6_setBlock 16 = .ok (.goto 4, 3) := by decide +kernel
theorem dX6_setBlock_19 : decode cX6_setBlock 19 = .ok (.iconst 1, 1) := by decide +kernel
theorem dX6_setBlock_20 : decode cX6_setBlock 20 = .ok (.invokevirtual 65, 3) := by decide +kernel
theorem dX6_setBlock_23 : decode cX6_setBlock 23 = .ok (.ifCond .eq 5, 3) := by decide +kernel
theorem dX6_setBlock_26 : decode cX6_setBlock 26 = .ok (.iconst 0, 1) := by decide +kernel
theorem dX6_setBlock_27 : decode cX6_setBlock 27 = .ok (.ireturn, 1) := by decide +kernel
theorem dX6_setBlock_28 : decode cX6_setBlock 28 = .ok (.aload_n 0, 1) := by decide +kernel
theorem dX6_setBlock_29 : decode cX6_setBlock 29 = .ok (.getfield 20, 3) := by decide +kernel
theorem dX6_setBlock_32 : decode cX6_setBlock 32 = .ok (.iload_n 1, 1) := by decide +kernel
theorem dX6_setBlock_33 : decode cX6_setBlock 33 = .ok (.iaload, 1) := by decide +kernel
theorem dX6_setBlock_34 : decode cX6_setBlock 34 = .ok (.istore_n 3, 1) := by decide +kernel
theorem dX6_setBlock_35 : decode cX6_setBlock 35 = .ok (.aload_n 0, 1) := by decide +kernel
theorem dX6_setBlock_36 : decode cX6_setBlock 36 = .ok (.getfield 20, 3) := by decide +kernel
theorem dX6_setBlock_39 : decode cX6_setBlock 39 = .ok (.iload_n 1, 1) := by decide +kernel
theorem dX6_setBlock_40 : decode cX6_setBlock 40 = .ok (.iload_n 2, 1) := by decide +kernel
theorem dX6_setBlock_41 : decode cX6_setBlock 41 = .ok (.iastore, 1) := by decide +kernel
theorem dX6_setBlock_42 : decode cX6_setBlock 42 = .ok (.iload_n 3, 1) := by decide +kernel
theorem dX6_setBlock_43 : decode cX6_setBlock 43 = .ok (.ireturn, 1) := by decide +kernel
set_option maxRecDepth 20000 in
theorem ggX6_blocks_X6_told : GoodIn wsX6_blocks wsX6_told := goodIn_r _ [6, 7, 8, 9, 10, 11, 12, 13, 14, 15, 16, 17, 18, 19, 20, 21, 22, 23, 24, 25, 26, 27, 28, 29] (by decide +kernel) (by decide +kernel)
set_option maxRecDepth 20000 in
theorem gX6_blocks_X6_told : GoodIn wsX6_blocks (wsV RX6 128 RX6 yX6_told wsX6_told) := goodIn_app (goodIn_of _ (by decide +kernel)) ggX6_blocks_X6_told
theorem dX6_blocks_0 : decode cX6_blocks 0 = .ok (.aload_n 0, 1) := by decide +kernel
theorem dX6_blocks_1 : decode cX6_blocks 1 = .ok (.aload_n 0, 1) := by decide +kernel
theorem dX6_blocks_2 : decode cX6_blocks 2 = .ok (.getfield 17, 3) := by decide +kernel
theorem dX6_blocks_5 : decode cX6_blocks 5 = .ok (.invokevirtual 128, 3) := by decide +kernel
theorem dX6_blocks_8 : decode cX6_blocks 8 = .ok (.ireturn, 1) := by decide +kernel
set_option maxRecDepth 20000 in
theorem ggX6_blockAt_X6_noBlock : GoodIn wsX6_blockAt wsX6_noBlock := goodIn_r _ [5, 6, 7, 8, 4, 9, 10, 11, 12, 13, 14, 15, 16, 17, 18, 28, 29, 30, 31, 32, 33, 34, 35, 36, 37, 38, 39, 40, 41, 42, 43, 44, 45, 46, 47, 48, 49] (by decide +kernel) (by decide +kernel)
set_option maxRecDepth 20000 in
theorem gX6_blockAt_X6_noBlock : GoodIn wsX6_blockAt (wsV RX6 131 RX6 yX6_noBlock wsX6_noBlock) := goodIn_app (goodIn_of _ (by decide +kernel)) ggX6_blockAt_X6_noBlock
set_option maxRecDepth 20000 in
theorem ggX6_blockAt_X6_valueAt : GoodIn wsX6_blockAt wsX6_valueAt := goodIn_r _ [22, 23, 24, 25, 26, 4, 27, 28, 29, 30, 31, 32, 33, 34, 35, 36, 37, 38, 39, 40, 41, 42, 43, 44, 45, 46, 47, 48, 49] (by decide +kernel) (by decide +kernel)
set_option maxRecDepth 20000 in
theorem gX6_blockAt_X6_valueAt : GoodIn wsX6_blockAt (wsV RX6 103 RX6 yX6_valueAt wsX6_valueAt) := goodIn_app (goodIn_of _ (by decide +kernel)) ggX6_blockAt_X6_valueAt
theorem dX6_blockAt_0 : decode cX6_blockAt 0 = .ok (.aload_n 0, 1) := by decide +kernel
theorem dX6_blockAt_1 : decode cX6_blockAt 1 = .ok (.iload_n 1, 1) := by decide +kernel
theorem dX6_blockAt_2 : decode cX6_blockAt 2 = .ok (.invokevirtual 131, 3) := by decide +kernel
theorem dX6_blockAt_5 : decode cX6_blockAt 5 = .ok (.ifCond .eq 7, 3) := by decide +kernel
theorem dX6_blockAt_8 : decode cX6_blockAt 8 = .ok (.iconst 0, 1) := by decide +kernel
theorem dX6_blockAt_9 : decode cX6_blockAt 9 = .ok (.goto 8, 3) := by decide +kernel
theorem dX6_blockAt_12 : decode cX6_blockAt 12 = .ok (.aload_n 0, 1) := by decide +kernel
theorem dX6_blockAt_13 : decode cX6_blockAt 13 = .ok (.iload_n 1, 1) := by decide +kernel
theorem dX6_blockAt_14 : decode cX6_blockAt 14 = .ok (.invokevirtual 103, 3) := by decide +kernel
theorem dX6_blockAt_17 : decode cX6_blockAt 17 = .ok (.ireturn, 1) := by decide +kernel
set_option maxRecDepth 20000 in
theorem ggX6_degree_X6_drawDrop : GoodIn wsX6_degree wsX6_drawDrop := goodIn_r _ [6, 7, 8, 9, 1, 10, 11, 12, 13, 5, 14, 15, 16, 22, 23, 24, 25, 26, 27, 28, 29, 30, 31, 32, 33, 34, 35, 36, 37, 38, 39, 40, 41, 42, 43] (by decide +kernel) (by decide +kernel)
set_option maxRecDepth 20000 in
theorem gX6_degree_X6_drawDrop : GoodIn wsX6_degree (wsV RX6 99 RX6 yX6_drawDrop wsX6_drawDrop) := goodIn_app (goodIn_of _ (by decide +kernel)) ggX6_degree_X6_drawDrop
set_option maxRecDepth 20000 in
theorem ggX6_degree_X6_told : GoodIn wsX6_degree wsX6_told := goodIn_r _ [20, 21, 22, 23, 24, 25, 26, 27, 28, 29, 30, 31, 32, 33, 34, 35, 36, 37, 38, 39, 40, 41, 42, 43] (by decide +kernel) (by decide +kernel)
set_option maxRecDepth 20000 in
theorem gX6_degree_X6_told : GoodIn wsX6_degree (wsV RX6 128 RX6 yX6_told wsX6_told) := goodIn_app (goodIn_of _ (by decide +kernel)) ggX6_degree_X6_told
theorem dX6_degree_0 : decode cX6_degree 0 = .ok (.aload_n 0, 1) := by decide +kernel
theorem dX6_degree_1 : decode cX6_degree 1 = .ok (.iload_n 1, 1) := by decide +kernel
theorem dX6_degree_2 : decode cX6_degree 2 = .ok (.invokevirtual 99, 3) := by decide +kernel
theorem dX6_degree_5 : decode cX6_degree 5 = .ok (.aload_n 0, 1) := by decide +kernel
theorem dX6_degree_6 : decode cX6_degree 6 = .ok (.aload_n 0, 1) := by decide +kernel
theorem dX6_degree_7 : decode cX6_degree 7 = .ok (.getfield 96, 3) := by decide +kernel
theorem dX6_degree_10 : decode cX6_degree 10 = .ok (.invokevirtual 128, 3) := by decide +kernel
theorem dX6_degree_13 : decode cX6_degree 13 = .ok (.ireturn, 1) := by decide +kernel
set_option maxRecDepth 20000 in
theorem ggX6_blockOf_X6_drawDrop : GoodIn wsX6_blockOf wsX6_drawDrop := goodIn_r _ [7, 8, 9, 10, 1, 2, 11, 12, 13, 6, 14, 15, 16, 25, 26, 27, 28, 29, 30, 31, 32, 33, 34, 35, 36, 37, 38, 39, 40, 41, 42, 43, 44, 45, 46] (by decide +kernel) (by decide +kernel)
set_option maxRecDepth 20000 in
theorem gX6_blockOf_X6_drawDrop : GoodIn wsX6_blockOf (wsV RX6 99 RX6 yX6_drawDrop wsX6_drawDrop) := goodIn_app (goodIn_of _ (by decide +kernel)) ggX6_blockOf_X6_drawDrop
set_option maxRecDepth 20000 in
theorem ggX6_blockOf_X6_within : GoodIn wsX6_blockOf wsX6_within := goodIn_r _ [19] (by decide +kernel) (by decide +kernel)
set_option maxRecDepth 20000 in
theorem gX6_blockOf_X6_within : GoodIn wsX6_blockOf (va_wsS RX6 57 yX6_within wsX6_within) := goodIn_app (goodIn_of _ (by decide +kernel)) ggX6_blockOf_X6_within
set_option maxRecDepth 20000 in
theorem ggX6_blockOf_X6_refused : GoodIn wsX6_blockOf wsX6_refused := goodIn_r _ [23, 24, 25, 26, 27, 28, 29, 30, 31, 32, 33, 34, 35, 36, 37, 38, 39, 40, 41, 42, 43, 44, 45, 46] (by decide +kernel) (by decide +kernel)
set_option maxRecDepth 20000 in
theorem gX6_blockOf_X6_refused : GoodIn wsX6_blockOf (wsV RX6 65 RX6 yX6_refused wsX6_refused) := goodIn_app (goodIn_of _ (by decide +kernel)) ggX6_blockOf_X6_refused
theorem dX6_blockOf_0 : decode cX6_blockOf 0 = .ok (.aload_n 0, 1) := by decide +kernel
theorem dX6_blockOf_1 : decode cX6_blockOf 1 = .ok (.iload_n 1, 1) := by decide +kernel
theorem dX6_blockOf_2 : decode cX6_blockOf 2 = .ok (.invokevirtual 99, 3) := by decide +kernel
theorem dX6_blockOf_5 : decode cX6_blockOf 5 = .ok (.aload_n 0, 1) := by decide +kernel
theorem dX6_blockOf_6 : decode cX6_blockOf 6 = .ok (.iload_n 2, 1) := by decide +kernel
theorem dX6_blockOf_7 : decode cX6_blockOf 7 = .ok (.iconst 0, 1) := by decide +kernel
theorem dX6_blockOf_8 : decode cX6_blockOf 8 = .ok (.aload_n 0, 1) := by decide +kernel
theorem dX6_blockOf_9 : decode cX6_blockOf 9 = .ok (.getfield 96, 3) := by decide +kernel
theorem dX6_blockOf_12 : decode cX6_blockOf 12 = .ok (.iconst 1, 1) := by decide +kernel
theorem dX6_blockOf_13 : decode cX6_blockOf 13 = .ok (.isub, 1) := by decide +kernel
theorem dX6_blockOf_14 : decode cX6_blockOf 14 = .ok (.invokestatic 57, 3) := by decide +kernel
theorem dX6_blockOf_17 : decode cX6_blockOf 17 = .ok (.ifCond .eq 7, 3) := by decide +kernel
theorem dX6_blockOf_20 : decode cX6_blockOf 20 = .ok (.iconst 0, 1) := by decide +kernel
theorem dX6_blockOf_21 : decode cX6_blockOf 21 = .ok (.goto 4, 3) := by decide +kernel
theorem dX6_blockOf_24 : decode cX6_blockOf 24 = .ok (.iconst 1, 1) := by decide +kernel
theorem dX6_blockOf_25 : decode cX6_blockOf 25 = .ok (.invokevirtual 65, 3) := by decide +kernel
theorem dX6_blockOf_28 : decode cX6_blockOf 28 = .ok (.ifCond .eq 7, 3) := by decide +kernel
theorem dX6_blockOf_31 : decode cX6_blockOf 31 = .ok (.iconst 0, 1) := by decide +kernel
theorem dX6_blockOf_32 : decode cX6_blockOf 32 = .ok (.goto 9, 3) := by decide +kernel
theorem dX6_blockOf_35 : decode cX6_blockOf 35 = .ok (.aload_n 0, 1) := by decide +kernel
theorem dX6_blockOf_36 : decode cX6_blockOf 36 = .ok (.getfield 48, 3) := by decide +kernel
theorem dX6_blockOf_39 : decode cX6_blockOf 39 = .ok (.iload_n 2, 1) := by decide +kernel
theorem dX6_blockOf_40 : decode cX6_blockOf 40 = .ok (.iaload, 1) := by decide +kernel
theorem dX6_blockOf_41 : decode cX6_blockOf 41 = .ok (.ireturn, 1) := by decide +kernel
set_option maxRecDepth 20000 in
theorem ggX6_valueOf_X6_numberOf : GoodIn wsX6_valueOf wsX6_numberOf := goodIn_r _ [5, 6, 7, 8, 9, 10, 4, 11, 12, 13, 14, 15, 16, 17, 18, 19, 20, 21, 22, 23, 24, 25, 26, 27, 28, 29, 35, 36, 37, 38, 39, 40, 41, 42, 43, 44, 45, 46, 47, 48, 49, 50, 51, 52, 53, 54, 55, 56] (by decide +kernel) (by decide +kernel)
set_option maxRecDepth 20000 in
theorem gX6_valueOf_X6_numberOf : GoodIn wsX6_valueOf (wsV RX6 134 RX6 yX6_numberOf wsX6_numberOf) := goodIn_app (goodIn_of _ (by decide +kernel)) ggX6_valueOf_X6_numberOf
set_option maxRecDepth 20000 in
theorem ggX6_valueOf_X6_told : GoodIn wsX6_valueOf wsX6_told := goodIn_r _ [33, 34, 35, 36, 37, 38, 39, 40, 41, 42, 43, 44, 45, 46, 47, 48, 49, 50, 51, 52, 53, 54, 55, 56] (by decide +kernel) (by decide +kernel)
set_option maxRecDepth 20000 in
theorem gX6_valueOf_X6_told : GoodIn wsX6_valueOf (wsV RX6 128 RX6 yX6_told wsX6_told) := goodIn_app (goodIn_of _ (by decide +kernel)) ggX6_valueOf_X6_told
theorem dX6_valueOf_0 : decode cX6_valueOf 0 = .ok (.aload_n 0, 1) := by decide +kernel
theorem dX6_valueOf_1 : decode cX6_valueOf 1 = .ok (.aload_n 0, 1) := by decide +kernel
theorem dX6_valueOf_2 : decode cX6_valueOf 2 = .ok (.iload_n 1, 1) := by decide +kernel
theorem dX6_valueOf_3 : decode cX6_valueOf 3 = .ok (.invokevirtual 134, 3) := by decide +kernel
theorem dX6_valueOf_6 : decode cX6_valueOf 6 = .ok (.invokevirtual 128, 3) := by decide +kernel
theorem dX6_valueOf_9 : decode cX6_valueOf 9 = .ok (.ireturn, 1) := by decide +kernel
set_option maxRecDepth 20000 in
theorem ggX6_isRefused_X6_maskOf : GoodIn wsX6_isRefused wsX6_maskOf := goodIn_r _ [8, 9, 10, 11, 12, 13, 7, 14, 15, 16, 17, 18, 19, 20, 21, 22, 23, 30, 31, 32, 33, 34, 35, 36, 37, 38, 39, 40, 41, 42, 43, 44, 45, 46, 47, 48, 49, 50, 51] (by decide +kernel) (by decide +kernel)
set_option maxRecDepth 20000 in
theorem gX6_isRefused_X6_maskOf : GoodIn wsX6_isRefused (wsV RX6 137 RX6 yX6_maskOf wsX6_maskOf) := goodIn_app (goodIn_of _ (by decide +kernel)) ggX6_isRefused_X6_maskOf
set_option maxRecDepth 20000 in
theorem ggX6_isRefused_X6_reduce : GoodIn wsX6_isRefused wsX6_reduce := goodIn_r _ [27, 2, 3, 17, 28, 29, 30, 31, 32, 33, 34, 35, 36, 37, 38, 39, 40, 41, 42, 43, 44, 45, 46, 47, 48, 49, 50, 51] (by decide +kernel) (by decide +kernel)
set_option maxRecDepth 20000 in
theorem gX6_isRefused_X6_reduce : GoodIn wsX6_isRefused (wsV RX6 112 RX6 yX6_reduce wsX6_reduce) := goodIn_app (goodIn_of _ (by decide +kernel)) ggX6_isRefused_X6_reduce
theorem dX6_isRefused_0 : decode cX6_isRefused 0 = .ok (.aload_n 0, 1) := by decide +kernel
theorem dX6_isRefused_1 : decode cX6_isRefused 1 = .ok (.aload_n 0, 1) := by decide +kernel
theorem dX6_isRefused_2 : decode cX6_isRefused 2 = .ok (.iload_n 1, 1) := by decide +kernel
theorem dX6_isRefused_3 : decode cX6_isRefused 3 = .ok (.invokevirtual 137, 3) := by decide +kernel
theorem dX6_isRefused_6 : decode cX6_isRefused 6 = .ok (.iload_n 2, 1) := by decide +kernel
theorem dX6_isRefused_7 : decode cX6_isRefused 7 = .ok (.invokevirtual 112, 3) := by decide +kernel
theorem dX6_isRefused_10 : decode cX6_isRefused 10 = .ok (.aload_n 0, 1) := by decide +kernel
theorem dX6_isRefused_11 : decode cX6_isRefused 11 = .ok (.getfield 71, 3) := by decide +kernel
theorem dX6_isRefused_14 : decode cX6_isRefused 14 = .ok (.bipush 120, 2) := by decide +kernel
theorem dX6_isRefused_16 : decode cX6_isRefused 16 = .ok (.if_icmp .eq 19, 3) := by decide +kernel
theorem dX6_isRefused_19 : decode cX6_isRefused 19 = .ok (.aload_n 0, 1) := by decide +kernel
theorem dX6_isRefused_20 : decode cX6_isRefused 20 = .ok (.getfield 106, 3) := by decide +kernel
theorem dX6_isRefused_23 : decode cX6_isRefused 23 = .ok (.lconst 0, 1) := by decide +kernel
theorem dX6_isRefused_24 : decode cX6_isRefused 24 = .ok (.lcmp, 1) := by decide +kernel
theorem dX6_isRefused_25 : decode cX6_isRefused 25 = .ok (.ifCond .ne 14, 3) := by decide +kernel
theorem dX6_isRefused_28 : decode cX6_isRefused 28 = .ok (.aload_n 0, 1) := by decide +kernel
theorem dX6_isRefused_29 : decode cX6_isRefused 29 = .ok (.getfield 109, 3) := by decide +kernel
theorem dX6_isRefused_32 : decode cX6_isRefused 32 = .ok (.ifCond .eq 7, 3) := by decide +kernel
theorem dX6_isRefused_35 : decode cX6_isRefused 35 = .ok (.iconst 1, 1) := by decide +kernel
theorem dX6_isRefused_36 : decode cX6_isRefused 36 = .ok (.goto 4, 3) := by decide +kernel
theorem dX6_isRefused_39 : decode cX6_isRefused 39 = .ok (.iconst 0, 1) := by decide +kernel
theorem dX6_isRefused_40 : decode cX6_isRefused 40 = .ok (.ireturn, 1) := by decide +kernel
set_option maxRecDepth 20000 in
theorem ggX6_take_X6_maskOf : GoodIn wsX6_take wsX6_maskOf := goodIn_r _ [6, 7, 8, 9, 10, 11, 5, 12, 13, 14, 15, 16, 17, 18, 19, 20, 21, 50, 51, 52, 53, 54, 55, 56, 57, 58, 59, 60, 61, 62, 63, 64, 65, 66, 67, 68, 69, 70, 71] (by decide +kernel) (by decide +kernel)
set_option maxRecDepth 20000 in
theorem gX6_take_X6_maskOf : GoodIn wsX6_take (wsV RX6 137 RX6 yX6_maskOf wsX6_maskOf) := goodIn_app (goodIn_of _ (by decide +kernel)) ggX6_take_X6_maskOf
set_option maxRecDepth 20000 in
theorem ggX6_take_X6_addEquation : GoodIn wsX6_take wsX6_addEquation := goodIn_r _ [25, 26, 27, 28, 29, 30, 31, 5, 32, 33, 34, 15, 35, 36, 37, 38, 39, 40, 50, 51, 52, 53, 54, 55, 56, 57, 58, 59, 60, 61, 62, 63, 64, 65, 66, 67, 68, 69, 70, 71] (by decide +kernel) (by decide +kernel)
set_option maxRecDepth 20000 in
theorem gX6_take_X6_addEquation : GoodIn wsX6_take (wsV RX6 121 RX6 yX6_addEquation wsX6_addEquation) := goodIn_app (goodIn_of _ (by decide +kernel)) ggX6_take_X6_addEquation
set_option maxRecDepth 20000 in
theorem ggX6_take_X6_peel : GoodIn wsX6_take wsX6_peel := goodIn_r _ [44, 45, 27, 26, 46, 47, 48, 49, 50, 51, 52, 53, 54, 55, 56, 57, 58, 59, 60, 61, 62, 63, 64, 65, 66, 67, 68, 69, 70, 71] (by decide +kernel) (by decide +kernel)
set_option maxRecDepth 20000 in
theorem gX6_take_X6_peel : GoodIn wsX6_take (wsV RX6 124 RX6 yX6_peel wsX6_peel) := goodIn_app (goodIn_of _ (by decide +kernel)) ggX6_take_X6_peel
theorem dX6_take_0 : decode cX6_take 0 = .ok (.aload_n 0, 1) := by decide +kernel
theorem dX6_take_1 : decode cX6_take 1 = .ok (.dup, 1) := by decide +kernel
theorem dX6_take_2 : decode cX6_take 2 = .ok (.getfield 71, 3) := by decide +kernel
theorem dX6_take_5 : decode cX6_take 5 = .ok (.iconst 1, 1) := by decide +kernel
theorem dX6_take_6 : decode cX6_take 6 = .ok (.iadd, 1) := by decide +kernel
theorem dX6_take_7 : decode cX6_take 7 = .ok (.putfield 71, 3) := by decide +kernel
theorem dX6_take_10 : decode cX6_take 10 = .ok (.aload_n 0, 1) := by decide +kernel
theorem dX6_take_11 : decode cX6_take 11 = .ok (.aload_n 0, 1) := by decide +kernel
theorem dX6_take_12 : decode cX6_take 12 = .ok (.iload_n 1, 1) := by decide +kernel
theorem dX6_take_13 : decode cX6_take 13 = .ok (.invokevirtual 137, 3) := by decide +kernel
theorem dX6_take_16 : decode cX6_take 16 = .ok (.iload_n 2, 1) := by decide +kernel
theorem dX6_take_17 : decode cX6_take 17 = .ok (.invokevirtual 121, 3) := by decide +kernel
theorem dX6_take_20 : decode cX6_take 20 = .ok (.aload_n 0, 1) := by decide +kernel
theorem dX6_take_21 : decode cX6_take 21 = .ok (.invokevirtual 124, 3) := by decide +kernel
theorem dX6_take_24 : decode cX6_take 24 = .ok (.ireturn, 1) := by decide +kernel
set_option maxRecDepth 20000 in
theorem ggX6_receive_X6_isRefused : GoodIn wsX6_receive wsX6_isRefused := goodIn_r _ [5, 6, 7, 8, 9, 10, 11, 4, 12, 13, 14, 15, 16, 17, 18, 19, 20, 21, 22, 23, 24, 25, 26, 27, 28, 29, 30, 31, 32, 33, 63, 64, 65, 66, 67, 68, 69, 70, 71, 72, 73, 74, 75, 76, 77, 78, 79, 80, 81, 82, 83, 84] (by decide +kernel) (by decide +kernel)
set_option maxRecDepth 20000 in
theorem gX6_receive_X6_isRefused : GoodIn wsX6_receive (wsV RX6 141 RX6 yX6_isRefused wsX6_isRefused) := goodIn_app (goodIn_of _ (by decide +kernel)) ggX6_receive_X6_isRefused
set_option maxRecDepth 20000 in
theorem ggX6_receive_X6_refused : GoodIn wsX6_receive wsX6_refused := goodIn_r _ [37, 38, 63, 64, 65, 66, 67, 68, 69, 70, 71, 72, 73, 74, 75, 76, 77, 78, 79, 80, 81, 82, 83, 84] (by decide +kernel) (by decide +kernel)
set_option maxRecDepth 20000 in
theorem gX6_receive_X6_refused : GoodIn wsX6_receive (wsV RX6 65 RX6 yX6_refused wsX6_refused) := goodIn_app (goodIn_of _ (by decide +kernel)) ggX6_receive_X6_refused
set_option maxRecDepth 20000 in
theorem ggX6_receive_X6_take : GoodIn wsX6_receive wsX6_take := goodIn_r _ [42, 6, 9, 10, 11, 4, 12, 13, 14, 15, 16, 17, 18, 19, 20, 21, 22, 23, 24, 25, 26, 27, 43, 44, 45, 46, 47, 48, 49, 28, 29, 30, 31, 7, 8, 32, 33, 50, 51, 52, 53, 54, 55, 56, 57, 58, 59, 60, 61, 62, 63, 64, 65, 66, 67, 68, 69, 70, 71, 72, 73, 74, 75, 76, 77, 78, 79, 80, 81, 82, 83, 84] (by decide +kernel) (by decide +kernel)
set_option maxRecDepth 20000 in
theorem gX6_receive_X6_take : GoodIn wsX6_receive (wsV RX6 144 RX6 yX6_take wsX6_take) := goodIn_app (goodIn_of _ (by decide +kernel)) ggX6_receive_X6_take
theorem dX6_receive_0 : decode cX6_receive 0 = .ok (.aload_n 0, 1) := by decide +kernel
theorem dX6_receive_1 : decode cX6_receive 1 = .ok (.aload_n 0, 1) := by decide +kernel
theorem dX6_receive_2 : decode cX6_receive 2 = .ok (.iload_n 1, 1) := by decide +kernel
theorem dX6_receive_3 : decode cX6_receive 3 = .ok (.iload_n 2, 1) := by decide +kernel
theorem dX6_receive_4 : decode cX6_receive 4 = .ok (.invokevirtual 141, 3) := by decide +kernel
theorem dX6_receive_7 : decode cX6_receive 7 = .ok (.ifCond .eq 7, 3) := by decide +kernel
theorem dX6_receive_10 : decode cX6_receive 10 = .ok (.iconst 1, 1) := by decide +kernel
theorem dX6_receive_11 : decode cX6_receive 11 = .ok (.goto 4, 3) := by decide +kernel
theorem dX6_receive_14 : decode cX6_receive 14 = .ok (.iconst 0, 1) := by decide +kernel
theorem dX6_receive_15 : decode cX6_receive 15 = .ok (.invokevirtual 65, 3) := by decide +kernel
theorem dX6_receive_18 : decode cX6_receive 18 = .ok (.ifCond .eq 7, 3) := by decide +kernel
theorem dX6_receive_21 : decode cX6_receive 21 = .ok (.iconst 0, 1) := by decide +kernel
theorem dX6_receive_22 : decode cX6_receive 22 = .ok (.goto 9, 3) := by decide +kernel
theorem dX6_receive_25 : decode cX6_receive 25 = .ok (.aload_n 0, 1) := by decide +kernel
theorem dX6_receive_26 : decode cX6_receive 26 = .ok (.iload_n 1, 1) := by decide +kernel
theorem dX6_receive_27 : decode cX6_receive 27 = .ok (.iload_n 2, 1) := by decide +kernel
theorem dX6_receive_28 : decode cX6_receive 28 = .ok (.invokevirtual 144, 3) := by decide +kernel
theorem dX6_receive_31 : decode cX6_receive 31 = .ok (.ireturn, 1) := by decide +kernel
set_option maxRecDepth 20000 in
theorem ggX6_receiveAll_X6_within : GoodIn wsX6_receiveAll wsX6_within := goodIn_r _ [4] (by decide +kernel) (by decide +kernel)
set_option maxRecDepth 20000 in
theorem gX6_receiveAll_X6_within : GoodIn wsX6_receiveAll (va_wsS RX6 57 yX6_within wsX6_within) := goodIn_app (goodIn_of _ (by decide +kernel)) ggX6_receiveAll_X6_within
set_option maxRecDepth 20000 in
theorem ggX6_receiveAll_X6_refused : GoodIn wsX6_receiveAll wsX6_refused := goodIn_r _ [8, 9, 79, 80, 81, 82, 83, 84, 85, 86, 87, 88, 89, 90, 91, 92, 93, 94, 95, 96, 97, 98, 99, 100] (by decide +kernel) (by decide +kernel)
set_option maxRecDepth 20000 in
theorem gX6_receiveAll_X6_refused : GoodIn wsX6_receiveAll (wsV RX6 65 RX6 yX6_refused wsX6_refused) := goodIn_app (goodIn_of _ (by decide +kernel)) ggX6_receiveAll_X6_refused
set_option maxRecDepth 20000 in
theorem ggX6_receiveAll_X6_numberOf : GoodIn wsX6_receiveAll wsX6_numberOf := goodIn_r _ [13, 14, 15, 16, 17, 18, 3, 19, 20, 21, 22, 23, 24, 25, 26, 27, 28, 29, 30, 31, 32, 33, 34, 35, 36, 37, 79, 80, 81, 82, 83, 84, 85, 86, 87, 88, 89, 90, 91, 92, 93, 94, 95, 96, 97, 98, 99, 100] (by decide +kernel) (by decide +kernel)
set_option maxRecDepth 20000 in
theorem gX6_receiveAll_X6_numberOf : GoodIn wsX6_receiveAll (wsV RX6 134 RX6 yX6_numberOf wsX6_numberOf) := goodIn_app (goodIn_of _ (by decide +kernel)) ggX6_receiveAll_X6_numberOf
set_option maxRecDepth 20000 in
theorem ggX6_receiveAll_X6_isRefused : GoodIn wsX6_receiveAll wsX6_isRefused := goodIn_r _ [41, 42, 43, 44, 45, 46, 47, 3, 48, 14, 15, 16, 17, 18, 19, 20, 21, 22, 23, 24, 25, 26, 27, 28, 49, 50, 51, 52, 53, 54, 79, 80, 81, 82, 83, 84, 85, 86, 87, 88, 89, 90, 91, 92, 93, 94, 95, 96, 97, 98, 99, 100] (by decide +kernel) (by decide +kernel)
set_option maxRecDepth 20000 in
theorem gX6_receiveAll_X6_isRefused : GoodIn wsX6_receiveAll (wsV RX6 141 RX6 yX6_isRefused wsX6_isRefused) := goodIn_app (goodIn_of _ (by decide +kernel)) ggX6_receiveAll_X6_isRefused
set_option maxRecDepth 20000 in
theorem ggX6_receiveAll_X6_take : GoodIn wsX6_receiveAll wsX6_take := goodIn_r _ [58, 42, 45, 46, 47, 3, 48, 14, 15, 16, 17, 18, 19, 20, 21, 22, 23, 24, 25, 26, 27, 28, 59, 60, 61, 62, 63, 64, 65, 49, 50, 51, 52, 43, 44, 53, 54, 66, 67, 68, 69, 70, 71, 72, 73, 74, 75, 76, 77, 78, 79, 80, 81, 82, 83, 84, 85, 86, 87, 88, 89, 90, 91, 92, 93, 94, 95, 96, 97, 98, 99, 100] (by decide +kernel) (by decide +kernel)
set_option maxRecDepth 20000 in
theorem gX6_receiveAll_X6_take : GoodIn wsX6_receiveAll (wsV RX6 144 RX6 yX6_take wsX6_take) := goodIn_app (goodIn_of _ (by decide +kernel)) ggX6_receiveAll_X6_take
theorem dX6_receiveAll_0 : decode cX6_receiveAll 0 = .ok (.aload_n 0, 1) := by decide +kernel
theorem dX6_receiveAll_1 : decode cX6_receiveAll 1 = .ok (.iload_n 2, 1) := by decide +kernel
theorem dX6_receiveAll_2 : decode cX6_receiveAll 2 = .ok (.iconst 1, 1) := by decide +kernel
theorem dX6_receiveAll_3 : decode cX6_receiveAll 3 = .ok (.bipush 40, 2) := by decide +kernel
theorem dX6_receiveAll_5 : decode cX6_receiveAll 5 = .ok (.invokestatic 57, 3) := by decide +kernel
theorem dX6_receiveAll_8 : decode cX6_receiveAll 8 = .ok (.ifCond .eq 7, 3) := by decide +kernel
theorem dX6_receiveAll_11 : decode cX6_receiveAll 11 = .ok (.iconst 0, 1) := by decide +kernel
theorem dX6_receiveAll_12 : decode cX6_receiveAll 12 = .ok (.goto 4, 3) := by decide +kernel
theorem dX6_receiveAll_15 : decode cX6_receiveAll 15 = .ok (.iconst 1, 1) := by decide +kernel
theorem dX6_receiveAll_16 : decode cX6_receiveAll 16 = .ok (.invokevirtual 65, 3) := by decide +kernel
theorem dX6_receiveAll_19 : decode cX6_receiveAll 19 = .ok (.ifCond .eq 5, 3) := by decide +kernel
theorem dX6_receiveAll_22 : decode cX6_receiveAll 22 = .ok (.iconst 0, 1) := by decide +kernel
theorem dX6_receiveAll_23 : decode cX6_receiveAll 23 = .ok (.ireturn, 1) := by decide +kernel
theorem dX6_receiveAll_24 : decode cX6_receiveAll 24 = .ok (.iconst 0, 1) := by decide +kernel
theorem dX6_receiveAll_25 : decode cX6_receiveAll 25 = .ok (.istore_n 3, 1) := by decide +kernel
theorem dX6_receiveAll_26 : decode cX6_receiveAll 26 = .ok (.iload_n 3, 1) := by decide +kernel
theorem dX6_receiveAll_27 : decode cX6_receiveAll 27 = .ok (.iload_n 2, 1) := by decide +kernel
theorem dX6_receiveAll_28 : decode cX6_receiveAll 28 = .ok (.if_icmp .ge 42, 3) := by decide +kernel
theorem dX6_receiveAll_31 : decode cX6_receiveAll 31 = .ok (.aload_n 0, 1) := by decide +kernel
theorem dX6_receiveAll_32 : decode cX6_receiveAll 32 = .ok (.iload_n 1, 1) := by decide +kernel
theorem dX6_receiveAll_33 : decode cX6_receiveAll 33 = .ok (.iload_n 3, 1) := by decide +kernel
theorem dX6_receiveAll_34 : decode cX6_receiveAll 34 = .ok (.iadd, 1) := by decide +kernel
theorem dX6_receiveAll_35 : decode cX6_receiveAll 35 = .ok (.aload_n 0, 1) := by decide +kernel
theorem dX6_receiveAll_36 : decode cX6_receiveAll 36 = .ok (.iload_n 1, 1) := by decide +kernel
theorem dX6_receiveAll_37 : decode cX6_receiveAll 37 = .ok (.iload_n 3, 1) := by decide +kernel
theorem dX6_receiveAll_38 : decode cX6_receiveAll 38 = .ok (.iadd, 1) := by decide +kernel
theorem dX6_receiveAll_39 : decode cX6_receiveAll 39 = .ok (.invokevirtual 134, 3) := by decide +kernel
theorem dX6_receiveAll_42 : decode cX6_receiveAll 42 = .ok (.invokevirtual 141, 3) := by decide +kernel
theorem dX6_receiveAll_45 : decode cX6_receiveAll 45 = .ok (.ifCond .ne 25, 3) := by decide +kernel
theorem dX6_receiveAll_48 : decode cX6_receiveAll 48 = .ok (.aload_n 0, 1) := by decide +kernel
theorem dX6_receiveAll_49 : decode cX6_receiveAll 49 = .ok (.iload_n 1, 1) := by decide +kernel
theorem dX6_receiveAll_50 : decode cX6_receiveAll 50 = .ok (.iload_n 3, 1) := by decide +kernel
theorem dX6_receiveAll_51 : decode cX6_receiveAll 51 = .ok (.iadd, 1) := by decide +kernel
theorem dX6_receiveAll_52 : decode cX6_receiveAll 52 = .ok (.aload_n 0, 1) := by decide +kernel
theorem dX6_receiveAll_53 : decode cX6_receiveAll 53 = .ok (.iload_n 1, 1) := by decide +kernel
theorem dX6_receiveAll_54 : decode cX6_receiveAll 54 = .ok (.iload_n 3, 1) := by decide +kernel
theorem dX6_receiveAll_55 : decode cX6_receiveAll 55 = .ok (.iadd, 1) := by decide +kernel
theorem dX6_receiveAll_56 : decode cX6_receiveAll 56 = .ok (.invokevirtual 134, 3) := by decide +kernel
theorem dX6_receiveAll_59 : decode cX6_receiveAll 59 = .ok (.invokevirtual 144, 3) := by decide +kernel
theorem dX6_receiveAll_62 : decode cX6_receiveAll 62 = .ok (.istore 4, 2) := by decide +kernel
theorem dX6_receiveAll_64 : decode cX6_receiveAll 64 = .ok (.iinc 3 1, 3) := by decide +kernel
theorem dX6_receiveAll_67 : decode cX6_receiveAll 67 = .ok (.goto (-41), 3) := by decide +kernel
theorem dX6_receiveAll_70 : decode cX6_receiveAll 70 = .ok (.iload_n 3, 1) := by decide +kernel
theorem dX6_receiveAll_71 : decode cX6_receiveAll 71 = .ok (.ireturn, 1) := by decide +kernel
set_option maxRecDepth 20000 in
theorem ggX6_equations_X6_told : GoodIn wsX6_equations wsX6_told := goodIn_r _ [6, 7, 8, 9, 10, 11, 12, 13, 14, 15, 16, 17, 18, 19, 20, 21, 22, 23, 24, 25, 26, 27, 28, 29] (by decide +kernel) (by decide +kernel)
set_option maxRecDepth 20000 in
theorem gX6_equations_X6_told : GoodIn wsX6_equations (wsV RX6 128 RX6 yX6_told wsX6_told) := goodIn_app (goodIn_of _ (by decide +kernel)) ggX6_equations_X6_told
theorem dX6_equations_0 : decode cX6_equations 0 = .ok (.aload_n 0, 1) := by decide +kernel
theorem dX6_equations_1 : decode cX6_equations 1 = .ok (.aload_n 0, 1) := by decide +kernel
theorem dX6_equations_2 : decode cX6_equations 2 = .ok (.getfield 68, 3) := by decide +kernel
theorem dX6_equations_5 : decode cX6_equations 5 = .ok (.invokevirtual 128, 3) := by decide +kernel
theorem dX6_equations_8 : decode cX6_equations 8 = .ok (.ireturn, 1) := by decide +kernel
set_option maxRecDepth 20000 in
theorem ggX6_rank_X6_rankOf : GoodIn wsX6_rank wsX6_rankOf := goodIn_r _ [5, 6, 7, 13, 14, 15, 16, 17, 18, 19, 20, 21, 22, 23, 24, 25, 26, 27, 28, 29, 30, 31, 32, 33, 34] (by decide +kernel) (by decide +kernel)
set_option maxRecDepth 20000 in
theorem gX6_rank_X6_rankOf : GoodIn wsX6_rank (wsV RX6 148 RX6 yX6_rankOf wsX6_rankOf) := goodIn_app (goodIn_of _ (by decide +kernel)) ggX6_rank_X6_rankOf
set_option maxRecDepth 20000 in
theorem ggX6_rank_X6_told : GoodIn wsX6_rank wsX6_told := goodIn_r _ [11, 12, 13, 14, 15, 16, 17, 18, 19, 20, 21, 22, 23, 24, 25, 26, 27, 28, 29, 30, 31, 32, 33, 34] (by decide +kernel) (by decide +kernel)
set_option maxRecDepth 20000 in
theorem gX6_rank_X6_told : GoodIn wsX6_rank (wsV RX6 128 RX6 yX6_told wsX6_told) := goodIn_app (goodIn_of _ (by decide +kernel)) ggX6_rank_X6_told
theorem dX6_rank_0 : decode cX6_rank 0 = .ok (.aload_n 0, 1) := by decide +kernel
theorem dX6_rank_1 : decode cX6_rank 1 = .ok (.aload_n 0, 1) := by decide +kernel
theorem dX6_rank_2 : decode cX6_rank 2 = .ok (.invokevirtual 148, 3) := by decide +kernel
theorem dX6_rank_5 : decode cX6_rank 5 = .ok (.invokevirtual 128, 3) := by decide +kernel
theorem dX6_rank_8 : decode cX6_rank 8 = .ok (.ireturn, 1) := by decide +kernel
set_option maxRecDepth 20000 in
theorem ggX6_peeled_X6_told : GoodIn wsX6_peeled wsX6_told := goodIn_r _ [6, 7, 8, 9, 10, 11, 12, 13, 14, 15, 16, 17, 18, 19, 20, 21, 22, 23, 24, 25, 26, 27, 28, 29] (by decide +kernel) (by decide +kernel)
set_option maxRecDepth 20000 in
theorem gX6_peeled_X6_told : GoodIn wsX6_peeled (wsV RX6 128 RX6 yX6_told wsX6_told) := goodIn_app (goodIn_of _ (by decide +kernel)) ggX6_peeled_X6_told
theorem dX6_peeled_0 : decode cX6_peeled 0 = .ok (.aload_n 0, 1) := by decide +kernel
theorem dX6_peeled_1 : decode cX6_peeled 1 = .ok (.aload_n 0, 1) := by decide +kernel
theorem dX6_peeled_2 : decode cX6_peeled 2 = .ok (.getfield 74, 3) := by decide +kernel
theorem dX6_peeled_5 : decode cX6_peeled 5 = .ok (.invokevirtual 128, 3) := by decide +kernel
theorem dX6_peeled_8 : decode cX6_peeled 8 = .ok (.ireturn, 1) := by decide +kernel
set_option maxRecDepth 20000 in
theorem ggX6_peeledAt_X6_within : GoodIn wsX6_peeledAt wsX6_within := goodIn_r _ [6] (by decide +kernel) (by decide +kernel)
set_option maxRecDepth 20000 in
theorem gX6_peeledAt_X6_within : GoodIn wsX6_peeledAt (va_wsS RX6 57 yX6_within wsX6_within) := goodIn_app (goodIn_of _ (by decide +kernel)) ggX6_peeledAt_X6_within
set_option maxRecDepth 20000 in
theorem ggX6_peeledAt_X6_refused : GoodIn wsX6_peeledAt wsX6_refused := goodIn_r _ [10, 11, 12, 13, 14, 15, 16, 17, 18, 19, 20, 21, 22, 23, 24, 25, 26, 27, 28, 29, 30, 31, 32, 33] (by decide +kernel) (by decide +kernel)
set_option maxRecDepth 20000 in
theorem gX6_peeledAt_X6_refused : GoodIn wsX6_peeledAt (wsV RX6 65 RX6 yX6_refused wsX6_refused) := goodIn_app (goodIn_of _ (by decide +kernel)) ggX6_peeledAt_X6_refused
theorem dX6_peeledAt_0 : decode cX6_peeledAt 0 = .ok (.aload_n 0, 1) := by decide +kernel
theorem dX6_peeledAt_1 : decode cX6_peeledAt 1 = .ok (.iload_n 1, 1) := by decide +kernel
theorem dX6_peeledAt_2 : decode cX6_peeledAt 2 = .ok (.iconst 0, 1) := by decide +kernel
theorem dX6_peeledAt_3 : decode cX6_peeledAt 3 = .ok (.aload_n 0, 1) := by decide +kernel
theorem dX6_peeledAt_4 : decode cX6_peeledAt 4 = .ok (.getfield 74, 3) := by decide +kernel
theorem dX6_peeledAt_7 : decode cX6_peeledAt 7 = .ok (.iconst 1, 1) := by decide +kernel
theorem dX6_peeledAt_8 : decode cX6_peeledAt 8 = .ok (.isub, 1) := by decide +kernel
theorem dX6_peeledAt_9 : decode cX6_peeledAt 9 = .ok (.invokestatic 57, 3) := by decide +kernel
theorem dX6_peeledAt_12 : decode cX6_peeledAt 12 = .ok (.ifCond .eq 7, 3) := by decide +kernel
theorem dX6_peeledAt_15 : decode cX6_peeledAt 15 = .ok (.iconst 0, 1) := by decide +kernel
theorem dX6_peeledAt_16 : decode cX6_peeledAt 16 = .ok (.goto 4, 3) := by decide +kernel
theorem dX6_peeledAt_19 : decode cX6_peeledAt 19 = .ok (.iconst 1, 1) := by decide +kernel
theorem dX6_peeledAt_20 : decode cX6_peeledAt 20 = .ok (.invokevirtual 65, 3) := by decide +kernel
theorem dX6_peeledAt_23 : decode cX6_peeledAt 23 = .ok (.ifCond .eq 7, 3) := by decide +kernel
theorem dX6_peeledAt_26 : decode cX6_peeledAt 26 = .ok (.iconst 0, 1) := by decide +kernel
theorem dX6_peeledAt_27 : decode cX6_peeledAt 27 = .ok (.goto 9, 3) := by decide +kernel
theorem dX6_peeledAt_30 : decode cX6_peeledAt 30 = .ok (.aload_n 0, 1) := by decide +kernel
theorem dX6_peeledAt_31 : decode cX6_peeledAt 31 = .ok (.getfield 30, 3) := by decide +kernel
theorem dX6_peeledAt_34 : decode cX6_peeledAt 34 = .ok (.iload_n 1, 1) := by decide +kernel
theorem dX6_peeledAt_35 : decode cX6_peeledAt 35 = .ok (.iaload, 1) := by decide +kernel
theorem dX6_peeledAt_36 : decode cX6_peeledAt 36 = .ok (.ireturn, 1) := by decide +kernel
set_option maxRecDepth 20000 in
theorem ggX6_peeledBy_X6_noBlock : GoodIn wsX6_peeledBy wsX6_noBlock := goodIn_r _ [6, 7, 8, 9, 5, 10, 11, 12, 13, 14, 15, 16, 17, 18, 19, 20, 21, 22, 23, 24, 25, 26, 27, 28, 29, 30, 31, 32, 33, 34, 35, 36, 37, 38, 39, 40, 41] (by decide +kernel) (by decide +kernel)
set_option maxRecDepth 20000 in
theorem gX6_peeledBy_X6_noBlock : GoodIn wsX6_peeledBy (wsV RX6 131 RX6 yX6_noBlock wsX6_noBlock) := goodIn_app (goodIn_of _ (by decide +kernel)) ggX6_peeledBy_X6_noBlock
theorem dX6_peeledBy_0 : decode cX6_peeledBy 0 = .ok (.aload_n 0, 1) := by decide +kernel
theorem dX6_peeledBy_1 : decode cX6_peeledBy 1 = .ok (.iload_n 1, 1) := by decide +kernel
theorem dX6_peeledBy_2 : decode cX6_peeledBy 2 = .ok (.invokevirtual 131, 3) := by decide +kernel
theorem dX6_peeledBy_5 : decode cX6_peeledBy 5 = .ok (.ifCond .eq 7, 3) := by decide +kernel
theorem dX6_peeledBy_8 : decode cX6_peeledBy 8 = .ok (.iconst 0, 1) := by decide +kernel
theorem dX6_peeledBy_9 : decode cX6_peeledBy 9 = .ok (.goto 9, 3) := by decide +kernel
theorem dX6_peeledBy_12 : decode cX6_peeledBy 12 = .ok (.aload_n 0, 1) := by decide +kernel
theorem dX6_peeledBy_13 : decode cX6_peeledBy 13 = .ok (.getfield 33, 3) := by decide +kernel
theorem dX6_peeledBy_16 : decode cX6_peeledBy 16 = .ok (.iload_n 1, 1) := by decide +kernel
theorem dX6_peeledBy_17 : decode cX6_peeledBy 17 = .ok (.iaload, 1) := by decide +kernel
theorem dX6_peeledBy_18 : decode cX6_peeledBy 18 = .ok (.ireturn, 1) := by decide +kernel
set_option maxRecDepth 20000 in
theorem ggX6_determined_X6_determinedMany : GoodIn wsX6_determined wsX6_determinedMany := goodIn_r _ [5, 6, 7, 13, 14, 15, 16, 17, 18, 19, 20, 21, 22, 23, 24, 25, 26, 27, 28, 29, 30, 31, 32, 33, 34] (by decide +kernel) (by decide +kernel)
set_option maxRecDepth 20000 in
theorem gX6_determined_X6_determinedMany : GoodIn wsX6_determined (wsV RX6 151 RX6 yX6_determinedMany wsX6_determinedMany) := goodIn_app (goodIn_of _ (by decide +kernel)) ggX6_determined_X6_determinedMany
set_option maxRecDepth 20000 in
theorem ggX6_determined_X6_told : GoodIn wsX6_determined wsX6_told := goodIn_r _ [11, 12, 13, 14, 15, 16, 17, 18, 19, 20, 21, 22, 23, 24, 25, 26, 27, 28, 29, 30, 31, 32, 33, 34] (by decide +kernel) (by decide +kernel)
set_option maxRecDepth 20000 in
theorem gX6_determined_X6_told : GoodIn wsX6_determined (wsV RX6 128 RX6 yX6_told wsX6_told) := goodIn_app (goodIn_of _ (by decide +kernel)) ggX6_determined_X6_told
theorem dX6_determined_0 : decode cX6_determined 0 = .ok (.aload_n 0, 1) := by decide +kernel
theorem dX6_determined_1 : decode cX6_determined 1 = .ok (.aload_n 0, 1) := by decide +kernel
theorem dX6_determined_2 : decode cX6_determined 2 = .ok (.invokevirtual 151, 3) := by decide +kernel
theorem dX6_determined_5 : decode cX6_determined 5 = .ok (.invokevirtual 128, 3) := by decide +kernel
theorem dX6_determined_8 : decode cX6_determined 8 = .ok (.ireturn, 1) := by decide +kernel
theorem dX6_isKnown_0 : decode cX6_isKnown 0 = .ok (.aload_n 0, 1) := by decide +kernel
theorem dX6_isKnown_1 : decode cX6_isKnown 1 = .ok (.getfield 36, 3) := by decide +kernel
theorem dX6_isKnown_4 : decode cX6_isKnown 4 = .ok (.iload_n 1, 1) := by decide +kernel
theorem dX6_isKnown_5 : decode cX6_isKnown 5 = .ok (.laload, 1) := by decide +kernel
theorem dX6_isKnown_6 : decode cX6_isKnown 6 = .ok (.lconst 1, 1) := by decide +kernel
theorem dX6_isKnown_7 : decode cX6_isKnown 7 = .ok (.iload_n 1, 1) := by decide +kernel
theorem dX6_isKnown_8 : decode cX6_isKnown 8 = .ok (.lshl, 1) := by decide +kernel
theorem dX6_isKnown_9 : decode cX6_isKnown 9 = .ok (.lcmp, 1) := by decide +kernel
theorem dX6_isKnown_10 : decode cX6_isKnown 10 = .ok (.ifCond .ne 7, 3) := by decide +kernel
theorem dX6_isKnown_13 : decode cX6_isKnown 13 = .ok (.iconst 1, 1) := by decide +kernel
theorem dX6_isKnown_14 : decode cX6_isKnown 14 = .ok (.goto 4, 3) := by decide +kernel
theorem dX6_isKnown_17 : decode cX6_isKnown 17 = .ok (.iconst 0, 1) := by decide +kernel
theorem dX6_isKnown_18 : decode cX6_isKnown 18 = .ok (.ireturn, 1) := by decide +kernel
set_option maxRecDepth 20000 in
theorem ggX6_isDetermined_X6_noBlock : GoodIn wsX6_isDetermined wsX6_noBlock := goodIn_r _ [5, 6, 7, 8, 4, 9, 10, 11, 12, 13, 14, 15, 16, 17, 18, 24, 25, 26, 27, 28, 29, 30, 31, 32, 33, 34, 35, 36, 37, 38, 39, 40, 41, 42, 43, 44, 45] (by decide +kernel) (by decide +kernel)
set_option maxRecDepth 20000 in
theorem gX6_isDetermined_X6_noBlock : GoodIn wsX6_isDetermined (wsV RX6 131 RX6 yX6_noBlock wsX6_noBlock) := goodIn_app (goodIn_of _ (by decide +kernel)) ggX6_isDetermined_X6_noBlock
set_option maxRecDepth 20000 in
theorem ggX6_isDetermined_X6_isKnown : GoodIn wsX6_isDetermined wsX6_isKnown := goodIn_r _ [22, 23, 24, 25, 26, 27, 28, 29, 30, 31, 32, 33, 34, 35, 36, 37, 38, 39, 40, 41, 42, 43, 44, 45] (by decide +kernel) (by decide +kernel)
set_option maxRecDepth 20000 in
theorem gX6_isDetermined_X6_isKnown : GoodIn wsX6_isDetermined (wsV RX6 154 RX6 yX6_isKnown wsX6_isKnown) := goodIn_app (goodIn_of _ (by decide +kernel)) ggX6_isDetermined_X6_isKnown
theorem dX6_isDetermined_0 : decode cX6_isDetermined 0 = .ok (.aload_n 0, 1) := by decide +kernel
theorem dX6_isDetermined_1 : decode cX6_isDetermined 1 = .ok (.iload_n 1, 1) := by decide +kernel
theorem dX6_isDetermined_2 : decode cX6_isDetermined 2 = .ok (.invokevirtual 131, 3) := by decide +kernel
theorem dX6_isDetermined_5 : decode cX6_isDetermined 5 = .ok (.ifCond .ne 15, 3) := by decide +kernel
theorem dX6_isDetermined_8 : decode cX6_isDetermined 8 = .ok (.aload_n 0, 1) := by decide +kernel
theorem dX6_isDetermined_9 : decode cX6_isDetermined 9 = .ok (.iload_n 1, 1) := by decide +kernel
theorem dX6_isDetermined_10 : decode cX6_isDetermined 10 = .ok (.invokevirtual 154, 3) := by decide +kernel
theorem dX6_isDetermined_13 : decode cX6_isDetermined 13 = .ok (.ifCond .eq 7, 3) := by decide +kernel
theorem dX6_isDetermined_16 : decode cX6_isDetermined 16 = .ok (.iconst 1, 1) := by decide +kernel
theorem dX6_isDetermined_17 : decode cX6_isDetermined 17 = .ok (.goto 4, 3) := by decide +kernel
theorem dX6_isDetermined_20 : decode cX6_isDetermined 20 = .ok (.iconst 0, 1) := by decide +kernel
theorem dX6_isDetermined_21 : decode cX6_isDetermined 21 = .ok (.ireturn, 1) := by decide +kernel
set_option maxRecDepth 20000 in
theorem ggX6_recovered_X6_isBlock : GoodIn wsX6_recovered wsX6_isBlock := goodIn_r _ [6, 7, 8, 9, 5, 10, 21, 22, 23, 24, 25, 26, 27, 28, 29, 30, 31, 32, 33, 34, 35, 36, 37, 38, 39, 40, 41, 42] (by decide +kernel) (by decide +kernel)
set_option maxRecDepth 20000 in
theorem gX6_recovered_X6_isBlock : GoodIn wsX6_recovered (wsV RX6 61 RX6 yX6_isBlock wsX6_isBlock) := goodIn_app (goodIn_of _ (by decide +kernel)) ggX6_recovered_X6_isBlock
set_option maxRecDepth 20000 in
theorem ggX6_recovered_X6_isKnown : GoodIn wsX6_recovered wsX6_isKnown := goodIn_r _ [14, 15, 21, 22, 23, 24, 25, 26, 27, 28, 29, 30, 31, 32, 33, 34, 35, 36, 37, 38, 39, 40, 41, 42] (by decide +kernel) (by decide +kernel)
set_option maxRecDepth 20000 in
theorem gX6_recovered_X6_isKnown : GoodIn wsX6_recovered (wsV RX6 154 RX6 yX6_isKnown wsX6_isKnown) := goodIn_app (goodIn_of _ (by decide +kernel)) ggX6_recovered_X6_isKnown
set_option maxRecDepth 20000 in
theorem ggX6_recovered_X6_refused : GoodIn wsX6_recovered wsX6_refused := goodIn_r _ [19, 20, 21, 22, 23, 24, 25, 26, 27, 28, 29, 30, 31, 32, 33, 34, 35, 36, 37, 38, 39, 40, 41, 42] (by decide +kernel) (by decide +kernel)
set_option maxRecDepth 20000 in
theorem gX6_recovered_X6_refused : GoodIn wsX6_recovered (wsV RX6 65 RX6 yX6_refused wsX6_refused) := goodIn_app (goodIn_of _ (by decide +kernel)) ggX6_recovered_X6_refused
theorem dX6_recovered_0 : decode cX6_recovered 0 = .ok (.aload_n 0, 1) := by decide +kernel
theorem dX6_recovered_1 : decode cX6_recovered 1 = .ok (.aload_n 0, 1) := by decide +kernel
theorem dX6_recovered_2 : decode cX6_recovered 2 = .ok (.iload_n 1, 1) := by decide +kernel
theorem dX6_recovered_3 : decode cX6_recovered 3 = .ok (.invokevirtual 61, 3) := by decide +kernel
theorem dX6_recovered_6 : decode cX6_recovered 6 = .ok (.ifCond .ne 7, 3) := by decide +kernel
theorem dX6_recovered_9 : decode cX6_recovered 9 = .ok (.iconst 1, 1) := by decide +kernel
theorem dX6_recovered_10 : decode cX6_recovered 10 = .ok (.goto 16, 3) := by decide +kernel
theorem dX6_recovered_13 : decode cX6_recovered 13 = .ok (.aload_n 0, 1) := by decide +kernel
theorem dX6_recovered_14 : decode cX6_recovered 14 = .ok (.iload_n 1, 1) := by decide +kernel
theorem dX6_recovered_15 : decode cX6_recovered 15 = .ok (.invokevirtual 154, 3) := by decide +kernel
theorem dX6_recovered_18 : decode cX6_recovered 18 = .ok (.ifCond .ne 7, 3) := by decide +kernel
theorem dX6_recovered_21 : decode cX6_recovered 21 = .ok (.iconst 2, 1) := by decide +kernel
theorem dX6_recovered_22 : decode cX6_recovered 22 = .ok (.goto 4, 3) := by decide +kernel
theorem dX6_recovered_25 : decode cX6_recovered 25 = .ok (.iconst 0, 1) := by decide +kernel
theorem dX6_recovered_26 : decode cX6_recovered 26 = .ok (.invokevirtual 65, 3) := by decide +kernel
theorem dX6_recovered_29 : decode cX6_recovered 29 = .ok (.ifCond .eq 7, 3) := by decide +kernel
theorem dX6_recovered_32 : decode cX6_recovered 32 = .ok (.iconst 0, 1) := by decide +kernel
theorem dX6_recovered_33 : decode cX6_recovered 33 = .ok (.goto 9, 3) := by decide +kernel
theorem dX6_recovered_36 : decode cX6_recovered 36 = .ok (.aload_n 0, 1) := by decide +kernel
theorem dX6_recovered_37 : decode cX6_recovered 37 = .ok (.getfield 39, 3) := by decide +kernel
theorem dX6_recovered_40 : decode cX6_recovered 40 = .ok (.iload_n 1, 1) := by decide +kernel
theorem dX6_recovered_41 : decode cX6_recovered 41 = .ok (.iaload, 1) := by decide +kernel
theorem dX6_recovered_42 : decode cX6_recovered 42 = .ok (.ireturn, 1) := by decide +kernel
set_option maxRecDepth 20000 in
theorem ggX6_helps_X6_maskOf : GoodIn wsX6_helps wsX6_maskOf := goodIn_r _ [6, 7, 8, 9, 10, 11, 5, 12, 13, 14, 15, 16, 17, 18, 19, 20, 21, 29, 30, 31, 32, 33, 34, 35, 36, 37, 38, 39, 40, 41, 42, 43, 44, 45, 46, 47, 48, 49, 50] (by decide +kernel) (by decide +kernel)
set_option maxRecDepth 20000 in
theorem gX6_helps_X6_maskOf : GoodIn wsX6_helps (wsV RX6 137 RX6 yX6_maskOf wsX6_maskOf) := goodIn_app (goodIn_of _ (by decide +kernel)) ggX6_helps_X6_maskOf
set_option maxRecDepth 20000 in
theorem ggX6_helps_X6_reduce : GoodIn wsX6_helps wsX6_reduce := goodIn_r _ [25, 1, 26, 15, 27, 28, 29, 30, 31, 32, 33, 34, 35, 36, 37, 38, 39, 40, 41, 42, 43, 44, 45, 46, 47, 48, 49, 50] (by decide +kernel) (by decide +kernel)
set_option maxRecDepth 20000 in
theorem gX6_helps_X6_reduce : GoodIn wsX6_helps (wsV RX6 112 RX6 yX6_reduce wsX6_reduce) := goodIn_app (goodIn_of _ (by decide +kernel)) ggX6_helps_X6_reduce
theorem dX6_helps_0 : decode cX6_helps 0 = .ok (.aload_n 0, 1) := by decide +kernel
theorem dX6_helps_1 : decode cX6_helps 1 = .ok (.aload_n 0, 1) := by decide +kernel
theorem dX6_helps_2 : decode cX6_helps 2 = .ok (.iload_n 1, 1) := by decide +kernel
theorem dX6_helps_3 : decode cX6_helps 3 = .ok (.invokevirtual 137, 3) := by decide +kernel
theorem dX6_helps_6 : decode cX6_helps 6 = .ok (.iconst 0, 1) := by decide +kernel
theorem dX6_helps_7 : decode cX6_helps 7 = .ok (.invokevirtual 112, 3) := by decide +kernel
theorem dX6_helps_10 : decode cX6_helps 10 = .ok (.aload_n 0, 1) := by decide +kernel
theorem dX6_helps_11 : decode cX6_helps 11 = .ok (.getfield 106, 3) := by decide +kernel
theorem dX6_helps_14 : decode cX6_helps 14 = .ok (.lconst 0, 1) := by decide +kernel
theorem dX6_helps_15 : decode cX6_helps 15 = .ok (.lcmp, 1) := by decide +kernel
theorem dX6_helps_16 : decode cX6_helps 16 = .ok (.ifCond .eq 7, 3) := by decide +kernel
theorem dX6_helps_19 : decode cX6_helps 19 = .ok (.iconst 1, 1) := by decide +kernel
theorem dX6_helps_20 : decode cX6_helps 20 = .ok (.goto 4, 3) := by decide +kernel
theorem dX6_helps_23 : decode cX6_helps 23 = .ok (.iconst 0, 1) := by decide +kernel
theorem dX6_helps_24 : decode cX6_helps 24 = .ok (.ireturn, 1) := by decide +kernel
set_option maxRecDepth 20000 in
theorem ggX6_wouldHelp_X6_helps : GoodIn wsX6_wouldHelp wsX6_helps := goodIn_r _ [6, 7, 8, 9, 10, 5, 11, 12, 13, 14, 15, 16, 17, 18, 19, 20, 21, 22, 23, 24, 25, 26, 27, 28, 29, 30, 31, 32, 33, 34, 35, 36, 37, 38, 39, 40, 41, 42, 43, 44, 45, 46, 47, 48, 49, 50, 51, 52, 53, 54, 55] (by decide +kernel) (by decide +kernel)
set_option maxRecDepth 20000 in
theorem gX6_wouldHelp_X6_helps : GoodIn wsX6_wouldHelp (wsV RX6 157 RX6 yX6_helps wsX6_helps) := goodIn_app (goodIn_of _ (by decide +kernel)) ggX6_wouldHelp_X6_helps
theorem dX6_wouldHelp_0 : decode cX6_wouldHelp 0 = .ok (.aload_n 0, 1) := by decide +kernel
theorem dX6_wouldHelp_1 : decode cX6_wouldHelp 1 = .ok (.iconst 0, 1) := by decide +kernel
theorem dX6_wouldHelp_2 : decode cX6_wouldHelp 2 = .ok (.putfield 54, 3) := by decide +kernel
theorem dX6_wouldHelp_5 : decode cX6_wouldHelp 5 = .ok (.aload_n 0, 1) := by decide +kernel
theorem dX6_wouldHelp_6 : decode cX6_wouldHelp 6 = .ok (.iload_n 1, 1) := by decide +kernel
theorem dX6_wouldHelp_7 : decode cX6_wouldHelp 7 = .ok (.invokevirtual 157, 3) := by decide +kernel
theorem dX6_wouldHelp_10 : decode cX6_wouldHelp 10 = .ok (.ireturn, 1) := by decide +kernel
set_option maxRecDepth 20000 in
theorem ggX6_wouldDetermine_X6_determinedMany : GoodIn wsX6_wouldDetermine wsX6_determinedMany := goodIn_r _ [10, 11, 3, 40, 41, 42, 43, 44, 45, 46, 47, 48, 49, 50, 51, 52, 53, 54, 55, 56, 57, 58, 59, 60, 61] (by decide +kernel) (by decide +kernel)
set_option maxRecDepth 20000 in
theorem gX6_wouldDetermine_X6_determinedMany : GoodIn wsX6_wouldDetermine (wsV RX6 151 RX6 yX6_determinedMany wsX6_determinedMany) := goodIn_app (goodIn_of _ (by decide +kernel)) ggX6_wouldDetermine_X6_determinedMany
set_option maxRecDepth 20000 in
theorem ggX6_wouldDetermine_X6_maskOf : GoodIn wsX6_wouldDetermine wsX6_maskOf := goodIn_r _ [15, 16, 17, 18, 19, 20, 9, 21, 22, 23, 11, 24, 25, 26, 27, 28, 29, 40, 41, 42, 43, 44, 45, 46, 47, 48, 49, 50, 51, 52, 53, 54, 55, 56, 57, 58, 59, 60, 61] (by decide +kernel) (by decide +kernel)
set_option maxRecDepth 20000 in
theorem gX6_wouldDetermine_X6_maskOf : GoodIn wsX6_wouldDetermine (wsV RX6 137 RX6 yX6_maskOf wsX6_maskOf) := goodIn_app (goodIn_of _ (by decide +kernel)) ggX6_wouldDetermine_X6_maskOf
set_option maxRecDepth 20000 in
theorem ggX6_wouldDetermine_X6_reduce : GoodIn wsX6_wouldDetermine wsX6_reduce := goodIn_r _ [33, 34, 35, 11, 3, 5, 40, 41, 42, 43, 44, 45, 46, 47, 48, 49, 50, 51, 52, 53, 54, 55, 56, 57, 58, 59, 60, 61] (by decide +kernel) (by decide +kernel)
set_option maxRecDepth 20000 in
theorem gX6_wouldDetermine_X6_reduce : GoodIn wsX6_wouldDetermine (wsV RX6 112 RX6 yX6_reduce wsX6_reduce) := goodIn_app (goodIn_of _ (by decide +kernel)) ggX6_wouldDetermine_X6_reduce
set_option maxRecDepth 20000 in
theorem ggX6_wouldDetermine_X6_layRow : GoodIn wsX6_wouldDetermine wsX6_layRow := goodIn_r _ [39, 34, 11, 3, 5, 35, 40, 41, 42, 43, 44, 45, 46, 47, 48, 49, 50, 51, 52, 53, 54, 55, 56, 57, 58, 59, 60, 61] (by decide +kernel) (by decide +kernel)
set_option maxRecDepth 20000 in
theorem gX6_wouldDetermine_X6_layRow : GoodIn wsX6_wouldDetermine (wsV RX6 116 RX6 yX6_layRow wsX6_layRow) := goodIn_app (goodIn_of _ (by decide +kernel)) ggX6_wouldDetermine_X6_layRow
theorem dX6_wouldDetermine_0 : decode cX6_wouldDetermine 0 = .ok (.aload_n 0, 1) := by decide +kernel
theorem dX6_wouldDetermine_1 : decode cX6_wouldDetermine 1 = .ok (.iconst 0, 1) := by decide +kernel
theorem dX6_wouldDetermine_2 : decode cX6_wouldDetermine 2 = .ok (.putfield 54, 3) := by decide +kernel
theorem dX6_wouldDetermine_5 : decode cX6_wouldDetermine 5 = .ok (.aload_n 0, 1) := by decide +kernel
theorem dX6_wouldDetermine_6 : decode cX6_wouldDetermine 6 = .ok (.invokevirtual 151, 3) := by decide +kernel
theorem dX6_wouldDetermine_9 : decode cX6_wouldDetermine 9 = .ok (.istore_n 2, 1) := by decide +kernel
theorem dX6_wouldDetermine_10 : decode cX6_wouldDetermine 10 = .ok (.iconst 0, 1) := by decide +kernel
theorem dX6_wouldDetermine_11 : decode cX6_wouldDetermine 11 = .ok (.istore_n 3, 1) := by decide +kernel
theorem dX6_wouldDetermine_12 : decode cX6_wouldDetermine 12 = .ok (.iload_n 3, 1) := by decide +kernel
theorem dX6_wouldDetermine_13 : decode cX6_wouldDetermine 13 = .ok (.bipush 38, 2) := by decide +kernel
theorem dX6_wouldDetermine_15 : decode cX6_wouldDetermine 15 = .ok (.if_icmp .ge 33, 3) := by decide +kernel
theorem dX6_wouldDetermine_18 : decode cX6_wouldDetermine 18 = .ok (.aload_n 0, 1) := by decide +kernel
theorem dX6_wouldDetermine_19 : decode cX6_wouldDetermine 19 = .ok (.getfield 42, 3) := by decide +kernel
theorem dX6_wouldDetermine_22 : decode cX6_wouldDetermine 22 = .ok (.iload_n 3, 1) := by decide +kernel
theorem dX6_wouldDetermine_23 : decode cX6_wouldDetermine 23 = .ok (.aload_n 0, 1) := by decide +kernel
theorem dX6_wouldDetermine_24 : decode cX6_wouldDetermine 24 = .ok (.getfield 36, 3) := by decide +kernel
theorem dX6_wouldDetermine_27 : decode cX6_wouldDetermine 27 = .ok (.iload_n 3, 1) := by decide +kernel
theorem dX6_wouldDetermine_28 : decode cX6_wouldDetermine 28 = .ok (.laload, 1) := by decide +kernel
theorem dX6_wouldDetermine_29 : decode cX6_wouldDetermine 29 = .ok (.lastore, 1) := by decide +kernel
theorem dX6_wouldDetermine_30 : decode cX6_wouldDetermine 30 = .ok (.aload_n 0, 1) := by decide +kernel
theorem dX6_wouldDetermine_31 : decode cX6_wouldDetermine 31 = .ok (.getfield 45, 3) := by decide +kernel
theorem dX6_wouldDetermine_34 : decode cX6_wouldDetermine 34 = .ok (.iload_n 3, 1) := by decide +kernel
theorem dX6_wouldDetermine_35 : decode cX6_wouldDetermine 35 = .ok (.aload_n 0, 1) := by decide +kernel
theorem dX6_wouldDetermine_36 : decode cX6_wouldDetermine 36 = .ok (.getfield 39, 3) := by decide +kernel
theorem dX6_wouldDetermine_39 : decode cX6_wouldDetermine 39 = .ok (.iload_n 3, 1) := by decide +kernel
theorem dX6_wouldDetermine_40 : decode cX6_wouldDetermine 40 = .ok (.iaload, 1) := by decide +kernel
theorem dX6_wouldDetermine_41 : decode cX6_wouldDetermine 41 = .ok (.iastore, 1) := by decide +kernel
theorem dX6_wouldDetermine_42 : decode cX6_wouldDetermine 42 = .ok (.iinc 3 1, 3) := by decide +kernel
theorem dX6_wouldDetermine_45 : decode cX6_wouldDetermine 45 = .ok (.goto (-33), 3) := by decide +kernel
theorem dX6_wouldDetermine_48 : decode cX6_wouldDetermine 48 = .ok (.aload_n 0, 1) := by decide +kernel
theorem dX6_wouldDetermine_49 : decode cX6_wouldDetermine 49 = .ok (.aload_n 0, 1) := by decide +kernel
theorem dX6_wouldDetermine_50 : decode cX6_wouldDetermine 50 = .ok (.iload_n 1, 1) := by decide +kernel
theorem dX6_wouldDetermine_51 : decode cX6_wouldDetermine 51 = .ok (.invokevirtual 137, 3) := by decide +kernel
theorem dX6_wouldDetermine_54 : decode cX6_wouldDetermine 54 = .ok (.iconst 0, 1) := by decide +kernel
theorem dX6_wouldDetermine_55 : decode cX6_wouldDetermine 55 = .ok (.invokevirtual 112, 3) := by decide +kernel
theorem dX6_wouldDetermine_58 : decode cX6_wouldDetermine 58 = .ok (.aload_n 0, 1) := by decide +kernel
theorem dX6_wouldDetermine_59 : decode cX6_wouldDetermine 59 = .ok (.invokevirtual 116, 3) := by decide +kernel
theorem dX6_wouldDetermine_62 : decode cX6_wouldDetermine 62 = .ok (.aload_n 0, 1) := by decide +kernel
theorem dX6_wouldDetermine_63 : decode cX6_wouldDetermine 63 = .ok (.invokevirtual 151, 3) := by decide +kernel
theorem dX6_wouldDetermine_66 : decode cX6_wouldDetermine 66 = .ok (.istore_n 3, 1) := by decide +kernel
theorem dX6_wouldDetermine_67 : decode cX6_wouldDetermine 67 = .ok (.iconst 0, 1) := by decide +kernel
theorem dX6_wouldDetermine_68 : decode cX6_wouldDetermine 68 = .ok (.istore 4, 2) := by decide +kernel
theorem dX6_wouldDetermine_70 : decode cX6_wouldDetermine 70 = .ok (.iload 4, 2) := by decide +kernel
theorem dX6_wouldDetermine_72 : decode cX6_wouldDetermine 72 = .ok (.bipush 38, 2) := by decide +kernel
theorem dX6_wouldDetermine_74 : decode cX6_wouldDetermine 74 = .ok (.if_icmp .ge 37, 3) := by decide +kernel
theorem dX6_wouldDetermine_77 : decode cX6_wouldDetermine 77 = .ok (.aload_n 0, 1) := by decide +kernel
theorem dX6_wouldDetermine_78 : decode cX6_wouldDetermine 78 = .ok (.getfield 36, 3) := by decide +kernel
theorem dX6_wouldDetermine_81 : decode cX6_wouldDetermine 81 = .ok (.iload 4, 2) := by decide +kernel
theorem dX6_wouldDetermine_83 : decode cX6_wouldDetermine 83 = .ok (.aload_n 0, 1) := by decide +kernel
theorem dX6_wouldDetermine_84 : decode cX6_wouldDetermine 84 = .ok (.getfield 42, 3) := by decide +kernel
theorem dX6_wouldDetermine_87 : decode cX6_wouldDetermine 87 = .ok (.iload 4, 2) := by decide +kernel
theorem dX6_wouldDetermine_89 : decode cX6_wouldDetermine 89 = .ok (.laload, 1) := by decide +kernel
theorem dX6_wouldDetermine_90 : decode cX6_wouldDetermine 90 = .ok (.lastore, 1) := by decide +kernel
theorem dX6_wouldDetermine_91 : decode cX6_wouldDetermine 91 = .ok (.aload_n 0, 1) := by decide +kernel
theorem dX6_wouldDetermine_92 : decode cX6_wouldDetermine 92 = .ok (.getfield 39, 3) := by decide +kernel
theorem dX6_wouldDetermine_95 : decode cX6_wouldDetermine 95 = .ok (.iload 4, 2) := by decide +kernel
theorem dX6_wouldDetermine_97 : decode cX6_wouldDetermine 97 = .ok (.aload_n 0, 1) := by decide +kernel
theorem dX6_wouldDetermine_98 : decode cX6_wouldDetermine 98 = .ok (.getfield 45, 3) := by decide +kernel
theorem dX6_wouldDetermine_101 : decode cX6_wouldDetermine 101 = .ok (.iload 4, 2) := by decide +kernel
theorem dX6_wouldDetermine_103 : decode cX6_wouldDetermine 103 = .ok (.iaload, 1) := by decide +kernel
theorem dX6_wouldDetermine_104 : decode cX6_wouldDetermine 104 = .ok (.iastore, 1) := by decide +kernel
theorem dX6_wouldDetermine_105 : decode cX6_wouldDetermine 105 = .ok (.iinc 4 1, 3) := by decide +kernel
theorem dX6_wouldDetermine_108 : decode cX6_wouldDetermine 108 = .ok (.goto (-38), 3) := by decide +kernel
theorem dX6_wouldDetermine_111 : decode cX6_wouldDetermine 111 = .ok (.iload_n 3, 1) := by decide +kernel
theorem dX6_wouldDetermine_112 : decode cX6_wouldDetermine 112 = .ok (.iload_n 2, 1) := by decide +kernel
theorem dX6_wouldDetermine_113 : decode cX6_wouldDetermine 113 = .ok (.isub, 1) := by decide +kernel
theorem dX6_wouldDetermine_114 : decode cX6_wouldDetermine 114 = .ok (.ireturn, 1) := by decide +kernel
set_option maxRecDepth 20000 in
theorem ggX6_nextHelpful_X6_helps : GoodIn wsX6_nextHelpful wsX6_helps := goodIn_r _ [6, 7, 8, 9, 10, 5, 11, 12, 13, 14, 15, 16, 17, 18, 19, 20, 21, 22, 23, 24, 25, 26, 27, 28, 29, 30, 31, 32, 33, 34, 35, 36, 37, 38, 39, 40, 41, 42, 43, 44, 45, 46, 47, 48, 49, 50, 51, 52, 53, 54, 55] (by decide +kernel) (by decide +kernel)
set_option maxRecDepth 20000 in
theorem gX6_nextHelpful_X6_helps : GoodIn wsX6_nextHelpful (wsV RX6 157 RX6 yX6_helps wsX6_helps) := goodIn_app (goodIn_of _ (by decide +kernel)) ggX6_nextHelpful_X6_helps
theorem dX6_nextHelpful_0 : decode cX6_nextHelpful 0 = .ok (.aload_n 0, 1) := by decide +kernel
theorem dX6_nextHelpful_1 : decode cX6_nextHelpful 1 = .ok (.iconst 0, 1) := by decide +kernel
theorem dX6_nextHelpful_2 : decode cX6_nextHelpful 2 = .ok (.putfield 54, 3) := by decide +kernel
theorem dX6_nextHelpful_5 : decode cX6_nextHelpful 5 = .ok (.iconst 0, 1) := by decide +kernel
theorem dX6_nextHelpful_6 : decode cX6_nextHelpful 6 = .ok (.istore_n 2, 1) := by decide +kernel
theorem dX6_nextHelpful_7 : decode cX6_nextHelpful 7 = .ok (.iload_n 2, 1) := by decide +kernel
theorem dX6_nextHelpful_8 : decode cX6_nextHelpful 8 = .ok (.sipush 500, 3) := by decide +kernel
theorem dX6_nextHelpful_11 : decode cX6_nextHelpful 11 = .ok (.if_icmp .ge 21, 3) := by decide +kernel
theorem dX6_nextHelpful_14 : decode cX6_nextHelpful 14 = .ok (.aload_n 0, 1) := by decide +kernel
theorem dX6_nextHelpful_15 : decode cX6_nextHelpful 15 = .ok (.iload_n 1, 1) := by decide +kernel
theorem dX6_nextHelpful_16 : decode cX6_nextHelpful 16 = .ok (.iload_n 2, 1) := by decide +kernel
theorem dX6_nextHelpful_17 : decode cX6_nextHelpful 17 = .ok (.iadd, 1) := by decide +kernel
theorem dX6_nextHelpful_18 : decode cX6_nextHelpful 18 = .ok (.invokevirtual 157, 3) := by decide +kernel
theorem dX6_nextHelpful_21 : decode cX6_nextHelpful 21 = .ok (.ifCond .eq 5, 3) := by decide +kernel
theorem dX6_nextHelpful_24 : decode cX6_nextHelpful 24 = .ok (.iload_n 2, 1) := by decide +kernel
theorem dX6_nextHelpful_25 : decode cX6_nextHelpful 25 = .ok (.ireturn, 1) := by decide +kernel
theorem dX6_nextHelpful_26 : decode cX6_nextHelpful 26 = .ok (.iinc 2 1, 3) := by decide +kernel
theorem dX6_nextHelpful_29 : decode cX6_nextHelpful 29 = .ok (.goto (-22), 3) := by decide +kernel
theorem dX6_nextHelpful_32 : decode cX6_nextHelpful 32 = .ok (.iconst (-1), 1) := by decide +kernel
theorem dX6_nextHelpful_33 : decode cX6_nextHelpful 33 = .ok (.ireturn, 1) := by decide +kernel
set_option maxRecDepth 20000 in
theorem ggX6_missing_X6_rankOf : GoodIn wsX6_missing wsX6_rankOf := goodIn_r _ [6, 1, 7, 13, 14, 15, 16, 17, 18, 19, 20, 21, 22, 23, 24, 25, 26, 27, 28, 29, 30, 31, 32, 33, 34] (by decide +kernel) (by decide +kernel)
set_option maxRecDepth 20000 in
theorem gX6_missing_X6_rankOf : GoodIn wsX6_missing (wsV RX6 148 RX6 yX6_rankOf wsX6_rankOf) := goodIn_app (goodIn_of _ (by decide +kernel)) ggX6_missing_X6_rankOf
set_option maxRecDepth 20000 in
theorem ggX6_missing_X6_told : GoodIn wsX6_missing wsX6_told := goodIn_r _ [11, 12, 13, 14, 15, 16, 17, 18, 19, 20, 21, 22, 23, 24, 25, 26, 27, 28, 29, 30, 31, 32, 33, 34] (by decide +kernel) (by decide +kernel)
set_option maxRecDepth 20000 in
theorem gX6_missing_X6_told : GoodIn wsX6_missing (wsV RX6 128 RX6 yX6_told wsX6_told) := goodIn_app (goodIn_of _ (by decide +kernel)) ggX6_missing_X6_told
theorem dX6_missing_0 : decode cX6_missing 0 = .ok (.aload_n 0, 1) := by decide +kernel
theorem dX6_missing_1 : decode cX6_missing 1 = .ok (.aload_n 0, 1) := by decide +kernel
theorem dX6_missing_2 : decode cX6_missing 2 = .ok (.getfield 17, 3) := by decide +kernel
theorem dX6_missing_5 : decode cX6_missing 5 = .ok (.aload_n 0, 1) := by decide +kernel
theorem dX6_missing_6 : decode cX6_missing 6 = .ok (.invokevirtual 148, 3) := by decide +kernel
theorem dX6_missing_9 : decode cX6_missing 9 = .ok (.isub, 1) := by decide +kernel
theorem dX6_missing_10 : decode cX6_missing 10 = .ok (.invokevirtual 128, 3) := by decide +kernel
theorem dX6_missing_13 : decode cX6_missing 13 = .ok (.ireturn, 1) := by decide +kernel
theorem dJ13_bitCount_95d88_0 : decode cJ13_bitCount_95d88 0 = .ok (.lload_n 0, 1) := by decide +kernel
theorem dJ13_bitCount_95d88_1 : decode cJ13_bitCount_95d88 1 = .ok (.lload_n 0, 1) := by decide +kernel
theorem dJ13_bitCount_95d88_2 : decode cJ13_bitCount_95d88 2 = .ok (.iconst 1, 1) := by decide +kernel
theorem dJ13_bitCount_95d88_3 : decode cJ13_bitCount_95d88 3 = .ok (.lushr, 1) := by decide +kernel
theorem dJ13_bitCount_95d88_4 : decode cJ13_bitCount_95d88 4 = .ok (.ldc2_w 314, 3) := by decide +kernel
theorem dJ13_bitCount_95d88_7 : decode cJ13_bitCount_95d88 7 = .ok (.land, 1) := by decide +kernel
theorem dJ13_bitCount_95d88_8 : decode cJ13_bitCount_95d88 8 = .ok (.lsub, 1) := by decide +kernel
theorem dJ13_bitCount_95d88_9 : decode cJ13_bitCount_95d88 9 = .ok (.lstore_n 0, 1) := by decide +kernel
theorem dJ13_bitCount_95d88_10 : decode cJ13_bitCount_95d88 10 = .ok (.lload_n 0, 1) := by decide +kernel
theorem dJ13_bitCount_95d88_11 : decode cJ13_bitCount_95d88 11 = .ok (.ldc2_w 316, 3) := by decide +kernel
theorem dJ13_bitCount_95d88_14 : decode cJ13_bitCount_95d88 14 = .ok (.land, 1) := by decide +kernel
theorem dJ13_bitCount_95d88_15 : decode cJ13_bitCount_95d88 15 = .ok (.lload_n 0, 1) := by decide +kernel
theorem dJ13_bitCount_95d88_16 : decode cJ13_bitCount_95d88 16 = .ok (.iconst 2, 1) := by decide +kernel
theorem dJ13_bitCount_95d88_17 : decode cJ13_bitCount_95d88 17 = .ok (.lushr, 1) := by decide +kernel
theorem dJ13_bitCount_95d88_18 : decode cJ13_bitCount_95d88 18 = .ok (.ldc2_w 316, 3) := by decide +kernel
theorem dJ13_bitCount_95d88_21 : decode cJ13_bitCount_95d88 21 = .ok (.land, 1) := by decide +kernel
theorem dJ13_bitCount_95d88_22 : decode cJ13_bitCount_95d88 22 = .ok (.ladd, 1) := by decide +kernel
theorem dJ13_bitCount_95d88_23 : decode cJ13_bitCount_95d88 23 = .ok (.lstore_n 0, 1) := by decide +kernel
theorem dJ13_bitCount_95d88_24 : decode cJ13_bitCount_95d88 24 = .ok (.lload_n 0, 1) := by decide +kernel
theorem dJ13_bitCount_95d88_25 : decode cJ13_bitCount_95d88 25 = .ok (.lload_n 0, 1) := by decide +kernel
theorem dJ13_bitCount_95d88_26 : decode cJ13_bitCount_95d88 26 = .ok (.iconst 4, 1) := by decide +kernel
theorem dJ13_bitCount_95d88_27 : decode cJ13_bitCount_95d88 27 = .ok (.lushr, 1) := by decide +kernel
theorem dJ13_bitCount_95d88_28 : decode cJ13_bitCount_95d88 28 = .ok (.ladd, 1) := by decide +kernel
theorem dJ13_bitCount_95d88_29 : decode cJ13_bitCount_95d88 29 = .ok (.ldc2_w 318, 3) := by decide +kernel
theorem dJ13_bitCount_95d88_32 : decode cJ13_bitCount_95d88 32 = .ok (.land, 1) := by decide +kernel
theorem dJ13_bitCount_95d88_33 : decode cJ13_bitCount_95d88 33 = .ok (.lstore_n 0, 1) := by decide +kernel
theorem dJ13_bitCount_95d88_34 : decode cJ13_bitCount_95d88 34 = .ok (.lload_n 0, 1) := by decide +kernel
theorem dJ13_bitCount_95d88_35 : decode cJ13_bitCount_95d88 35 = .ok (.lload_n 0, 1) := by decide +kernel
theorem dJ13_bitCount_95d88_36 : decode cJ13_bitCount_95d88 36 = .ok (.bipush 8, 2) := by decide +kernel
theorem dJ13_bitCount_95d88_38 : decode cJ13_bitCount_95d88 38 = .ok (.lushr, 1) := by decide +kernel
theorem dJ13_bitCount_95d88_39 : decode cJ13_bitCount_95d88 39 = .ok (.ladd, 1) := by decide +kernel
theorem dJ13_bitCount_95d88_40 : decode cJ13_bitCount_95d88 40 = .ok (.lstore_n 0, 1) := by decide +kernel
theorem dJ13_bitCount_95d88_41 : decode cJ13_bitCount_95d88 41 = .ok (.lload_n 0, 1) := by decide +kernel
theorem dJ13_bitCount_95d88_42 : decode cJ13_bitCount_95d88 42 = .ok (.lload_n 0, 1) := by decide +kernel
theorem dJ13_bitCount_95d88_43 : decode cJ13_bitCount_95d88 43 = .ok (.bipush 16, 2) := by decide +kernel
theorem dJ13_bitCount_95d88_45 : decode cJ13_bitCount_95d88 45 = .ok (.lushr, 1) := by decide +kernel
theorem dJ13_bitCount_95d88_46 : decode cJ13_bitCount_95d88 46 = .ok (.ladd, 1) := by decide +kernel
theorem dJ13_bitCount_95d88_47 : decode cJ13_bitCount_95d88 47 = .ok (.lstore_n 0, 1) := by decide +kernel
theorem dJ13_bitCount_95d88_48 : decode cJ13_bitCount_95d88 48 = .ok (.lload_n 0, 1) := by decide +kernel
theorem dJ13_bitCount_95d88_49 : decode cJ13_bitCount_95d88 49 = .ok (.lload_n 0, 1) := by decide +kernel
theorem dJ13_bitCount_95d88_50 : decode cJ13_bitCount_95d88 50 = .ok (.bipush 32, 2) := by decide +kernel
theorem dJ13_bitCount_95d88_52 : decode cJ13_bitCount_95d88 52 = .ok (.lushr, 1) := by decide +kernel
theorem dJ13_bitCount_95d88_53 : decode cJ13_bitCount_95d88 53 = .ok (.ladd, 1) := by decide +kernel
theorem dJ13_bitCount_95d88_54 : decode cJ13_bitCount_95d88 54 = .ok (.lstore_n 0, 1) := by decide +kernel
theorem dJ13_bitCount_95d88_55 : decode cJ13_bitCount_95d88 55 = .ok (.lload_n 0, 1) := by decide +kernel
theorem dJ13_bitCount_95d88_56 : decode cJ13_bitCount_95d88 56 = .ok (.l2i, 1) := by decide +kernel
theorem dJ13_bitCount_95d88_57 : decode cJ13_bitCount_95d88 57 = .ok (.bipush 127, 2) := by decide +kernel
theorem dJ13_bitCount_95d88_59 : decode cJ13_bitCount_95d88 59 = .ok (.iand, 1) := by decide +kernel
theorem dJ13_bitCount_95d88_60 : decode cJ13_bitCount_95d88 60 = .ok (.ireturn, 1) := by decide +kernel
theorem dJ9_min_7cf53_0 : decode cJ9_min_7cf53 0 = .ok (.iload_n 0, 1) := by decide +kernel
theorem dJ9_min_7cf53_1 : decode cJ9_min_7cf53 1 = .ok (.iload_n 1, 1) := by decide +kernel
theorem dJ9_min_7cf53_2 : decode cJ9_min_7cf53 2 = .ok (.if_icmp .gt 7, 3) := by decide +kernel
theorem dJ9_min_7cf53_5 : decode cJ9_min_7cf53 5 = .ok (.iload_n 0, 1) := by decide +kernel
theorem dJ9_min_7cf53_6 : decode cJ9_min_7cf53 6 = .ok (.goto 4, 3) := by decide +kernel
theorem dJ9_min_7cf53_9 : decode cJ9_min_7cf53 9 = .ok (.iload_n 1, 1) := by decide +kernel
theorem dJ9_min_7cf53_10 : decode cJ9_min_7cf53 10 = .ok (.ireturn, 1) := by decide +kernel
theorem dJ7_fill_d0a16_0 : decode cJ7_fill_d0a16 0 = .ok (.iconst 0, 1) := by decide +kernel
theorem dJ7_fill_d0a16_1 : decode cJ7_fill_d0a16 1 = .ok (.istore_n 3, 1) := by decide +kernel
theorem dJ7_fill_d0a16_2 : decode cJ7_fill_d0a16 2 = .ok (.aload_n 0, 1) := by decide +kernel
theorem dJ7_fill_d0a16_3 : decode cJ7_fill_d0a16 3 = .ok (.arraylength, 1) := by decide +kernel
theorem dJ7_fill_d0a16_4 : decode cJ7_fill_d0a16 4 = .ok (.istore 4, 2) := by decide +kernel
theorem dJ7_fill_d0a16_6 : decode cJ7_fill_d0a16 6 = .ok (.iload_n 3, 1) := by decide +kernel
theorem dJ7_fill_d0a16_7 : decode cJ7_fill_d0a16 7 = .ok (.iload 4, 2) := by decide +kernel
theorem dJ7_fill_d0a16_9 : decode cJ7_fill_d0a16 9 = .ok (.if_icmp .ge 13, 3) := by decide +kernel
theorem dJ7_fill_d0a16_12 : decode cJ7_fill_d0a16 12 = .ok (.aload_n 0, 1) := by decide +kernel
theorem dJ7_fill_d0a16_13 : decode cJ7_fill_d0a16 13 = .ok (.iload_n 3, 1) := by decide +kernel
theorem dJ7_fill_d0a16_14 : decode cJ7_fill_d0a16 14 = .ok (.lload_n 1, 1) := by decide +kernel
theorem dJ7_fill_d0a16_15 : decode cJ7_fill_d0a16 15 = .ok (.lastore, 1) := by decide +kernel
theorem dJ7_fill_d0a16_16 : decode cJ7_fill_d0a16 16 = .ok (.iinc 3 1, 3) := by decide +kernel
theorem dJ7_fill_d0a16_19 : decode cJ7_fill_d0a16 19 = .ok (.goto (-13), 3) := by decide +kernel
theorem dJ7_fill_d0a16_22 : decode cJ7_fill_d0a16 22 = .ok (.return_, 1) := by decide +kernel
theorem dJ7_fill_53178_0 : decode cJ7_fill_53178 0 = .ok (.iconst 0, 1) := by decide +kernel
theorem dJ7_fill_53178_1 : decode cJ7_fill_53178 1 = .ok (.istore_n 2, 1) := by decide +kernel
theorem dJ7_fill_53178_2 : decode cJ7_fill_53178 2 = .ok (.aload_n 0, 1) := by decide +kernel
theorem dJ7_fill_53178_3 : decode cJ7_fill_53178 3 = .ok (.arraylength, 1) := by decide +kernel
theorem dJ7_fill_53178_4 : decode cJ7_fill_53178 4 = .ok (.istore_n 3, 1) := by decide +kernel
theorem dJ7_fill_53178_5 : decode cJ7_fill_53178 5 = .ok (.iload_n 2, 1) := by decide +kernel
theorem dJ7_fill_53178_6 : decode cJ7_fill_53178 6 = .ok (.iload_n 3, 1) := by decide +kernel
theorem dJ7_fill_53178_7 : decode cJ7_fill_53178 7 = .ok (.if_icmp .ge 13, 3) := by decide +kernel
theorem dJ7_fill_53178_10 : decode cJ7_fill_53178 10 = .ok (.aload_n 0, 1) := by decide +kernel
theorem dJ7_fill_53178_11 : decode cJ7_fill_53178 11 = .ok (.iload_n 2, 1) := by decide +kernel
theorem dJ7_fill_53178_12 : decode cJ7_fill_53178 12 = .ok (.iload_n 1, 1) := by decide +kernel
theorem dJ7_fill_53178_13 : decode cJ7_fill_53178 13 = .ok (.iastore, 1) := by decide +kernel
theorem dJ7_fill_53178_14 : decode cJ7_fill_53178 14 = .ok (.iinc 2 1, 3) := by decide +kernel
theorem dJ7_fill_53178_17 : decode cJ7_fill_53178 17 = .ok (.goto (-12), 3) := by decide +kernel
theorem dJ7_fill_53178_20 : decode cJ7_fill_53178 20 = .ok (.return_, 1) := by decide +kernel
set_option maxRecDepth 20000 in
theorem ggL_start_X5_start : GoodIn wsL_start wsX5_start := goodIn_ca (goodIn_r _ [6, 7, 8, 9, 10, 11, 5, 12, 13, 14, 15, 16, 17, 18, 19, 20, 21, 22, 23, 24, 25, 26, 27, 28, 29, 30, 31, 32, 33, 34, 35, 36, 37, 38, 39, 40, 41, 42, 43, 44, 45, 46, 47, 48, 49, 50, 51, 52, 53, 54, 55, 56, 57, 58, 59, 60, 61, 62, 63, 64, 65, 66, 67, 68, 69, 70, 71, 72, 73, 74, 75, 76, 77, 78, 79, 80, 81, 82, 83, 84, 85, 86, 87, 88, 89, 90, 91, 92, 93, 94, 95, 96, 97, 98, 99, 100, 101, 102, 103, 104, 105, 106, 107, 108, 109, 110, 111, 112, 113, 114, 115, 116, 117, 118, 119, 120] (by decide +kernel) (by decide +kernel)) (goodIn_sub (fun _ h => List.mem_cons_of_mem _ (List.mem_append_right _ h)) (by decide +kernel))
set_option maxRecDepth 20000 in
theorem gL_start_X5_start : GoodIn wsL_start (wsV RL 7 RX5 yX5_start wsX5_start) := goodIn_app (goodIn_of _ (by decide +kernel)) ggL_start_X5_start
theorem dL_start_0 : decode cL_start 0 = .ok (.aload_n 3, 1) := by decide +kernel
theorem dL_start_1 : decode cL_start 1 = .ok (.iconst 0, 1) := by decide +kernel
theorem dL_start_2 : decode cL_start 2 = .ok (.aload_n 0, 1) := by decide +kernel
theorem dL_start_3 : decode cL_start 3 = .ok (.iload_n 1, 1) := by decide +kernel
theorem dL_start_4 : decode cL_start 4 = .ok (.iload_n 2, 1) := by decide +kernel
theorem dL_start_5 : decode cL_start 5 = .ok (.invokevirtual 7, 3) := by decide +kernel
theorem dL_start_8 : decode cL_start 8 = .ok (.i2l, 1) := by decide +kernel
theorem dL_start_9 : decode cL_start 9 = .ok (.lastore, 1) := by decide +kernel
theorem dL_start_10 : decode cL_start 10 = .ok (.goto 7, 3) := by decide +kernel
theorem dL_start_13 : decode cL_start 13 = .ok (.astore 4, 2) := by decide +kernel
theorem dL_start_15 : decode cL_start 15 = .ok (.iconst 1, 1) := by decide +kernel
theorem dL_start_16 : decode cL_start 16 = .ok (.ireturn, 1) := by decide +kernel
theorem dL_start_17 : decode cL_start 17 = .ok (.iconst 0, 1) := by decide +kernel
theorem dL_start_18 : decode cL_start 18 = .ok (.ireturn, 1) := by decide +kernel
set_option maxRecDepth 20000 in
theorem ggL_setWeight_X5_setWeight : GoodIn wsL_setWeight wsX5_setWeight := goodIn_ca (goodIn_ca (goodIn_r _ [7, 8, 9, 10, 11, 12, 13, 14, 15, 16, 17, 18, 19, 20, 21, 22, 23, 24, 25, 26, 27, 28, 29, 30, 31, 32] (by decide +kernel) (by decide +kernel)) (goodIn_sub (fun _ h => List.mem_cons_of_mem _ (List.mem_append_left _ (List.mem_append_right _ h))) (by decide +kernel))) (goodIn_sub (fun _ h => List.mem_cons_of_mem _ (List.mem_append_right _ h)) (by decide +kernel))
set_option maxRecDepth 20000 in
theorem gL_setWeight_X5_setWeight : GoodIn wsL_setWeight (wsV RL 15 RX5 yX5_setWeight wsX5_setWeight) := goodIn_app (goodIn_of _ (by decide +kernel)) ggL_setWeight_X5_setWeight
theorem dL_setWeight_0 : decode cL_setWeight 0 = .ok (.aload_n 3, 1) := by decide +kernel
theorem dL_setWeight_1 : decode cL_setWeight 1 = .ok (.iconst 0, 1) := by decide +kernel
theorem dL_setWeight_2 : decode cL_setWeight 2 = .ok (.aload_n 0, 1) := by decide +kernel
theorem dL_setWeight_3 : decode cL_setWeight 3 = .ok (.iload_n 1, 1) := by decide +kernel
theorem dL_setWeight_4 : decode cL_setWeight 4 = .ok (.iload_n 2, 1) := by decide +kernel
theorem dL_setWeight_5 : decode cL_setWeight 5 = .ok (.invokevirtual 15, 3) := by decide +kernel
theorem dL_setWeight_8 : decode cL_setWeight 8 = .ok (.i2l, 1) := by decide +kernel
theorem dL_setWeight_9 : decode cL_setWeight 9 = .ok (.lastore, 1) := by decide +kernel
theorem dL_setWeight_10 : decode cL_setWeight 10 = .ok (.goto 11, 3) := by decide +kernel
theorem dL_setWeight_13 : decode cL_setWeight 13 = .ok (.astore 4, 2) := by decide +kernel
theorem dL_setWeight_15 : decode cL_setWeight 15 = .ok (.iconst 1, 1) := by decide +kernel
theorem dL_setWeight_16 : decode cL_setWeight 16 = .ok (.ireturn, 1) := by decide +kernel
theorem dL_setWeight_17 : decode cL_setWeight 17 = .ok (.astore 4, 2) := by decide +kernel
theorem dL_setWeight_19 : decode cL_setWeight 19 = .ok (.iconst 2, 1) := by decide +kernel
theorem dL_setWeight_20 : decode cL_setWeight 20 = .ok (.ireturn, 1) := by decide +kernel
theorem dL_setWeight_21 : decode cL_setWeight 21 = .ok (.iconst 0, 1) := by decide +kernel
theorem dL_setWeight_22 : decode cL_setWeight 22 = .ok (.ireturn, 1) := by decide +kernel
set_option maxRecDepth 20000 in
theorem ggL_setBlock_X5_setBlock : GoodIn wsL_setBlock wsX5_setBlock := goodIn_ca (goodIn_r _ [6, 7, 8, 9, 10, 11, 12, 13, 14, 15, 16, 17, 18, 19, 20, 21, 22, 23, 24, 5, 25, 26, 27, 28, 29, 30, 31, 32, 33, 34, 35, 36, 37, 38, 39, 40, 41, 42, 43, 44, 45] (by decide +kernel) (by decide +kernel)) (goodIn_sub (fun _ h => List.mem_cons_of_mem _ (List.mem_append_right _ h)) (by decide +kernel))
set_option maxRecDepth 20000 in
theorem gL_setBlock_X5_setBlock : GoodIn wsL_setBlock (wsV RL 20 RX5 yX5_setBlock wsX5_setBlock) := goodIn_app (goodIn_of _ (by decide +kernel)) ggL_setBlock_X5_setBlock
theorem dL_setBlock_0 : decode cL_setBlock 0 = .ok (.aload_n 3, 1) := by decide +kernel
theorem dL_setBlock_1 : decode cL_setBlock 1 = .ok (.iconst 0, 1) := by decide +kernel
theorem dL_setBlock_2 : decode cL_setBlock 2 = .ok (.aload_n 0, 1) := by decide +kernel
theorem dL_setBlock_3 : decode cL_setBlock 3 = .ok (.iload_n 1, 1) := by decide +kernel
theorem dL_setBlock_4 : decode cL_setBlock 4 = .ok (.iload_n 2, 1) := by decide +kernel
theorem dL_setBlock_5 : decode cL_setBlock 5 = .ok (.invokevirtual 20, 3) := by decide +kernel
theorem dL_setBlock_8 : decode cL_setBlock 8 = .ok (.i2l, 1) := by decide +kernel
theorem dL_setBlock_9 : decode cL_setBlock 9 = .ok (.lastore, 1) := by decide +kernel
theorem dL_setBlock_10 : decode cL_setBlock 10 = .ok (.goto 7, 3) := by decide +kernel
theorem dL_setBlock_13 : decode cL_setBlock 13 = .ok (.astore 4, 2) := by decide +kernel
theorem dL_setBlock_15 : decode cL_setBlock 15 = .ok (.iconst 1, 1) := by decide +kernel
theorem dL_setBlock_16 : decode cL_setBlock 16 = .ok (.ireturn, 1) := by decide +kernel
theorem dL_setBlock_17 : decode cL_setBlock 17 = .ok (.iconst 0, 1) := by decide +kernel
theorem dL_setBlock_18 : decode cL_setBlock 18 = .ok (.ireturn, 1) := by decide +kernel
set_option maxRecDepth 20000 in
theorem ggL_blockAt_X5_blockAt : GoodIn wsL_blockAt wsX5_blockAt := goodIn_ca (goodIn_r _ [6, 7, 8, 9, 10, 11, 12, 5, 13, 14, 15, 16, 17, 18, 19, 20, 21, 22, 23, 24, 25, 26, 27, 28, 29, 30, 31, 32, 33, 34, 35, 36, 37, 38, 39, 40, 41, 42, 43, 44, 45, 46] (by decide +kernel) (by decide +kernel)) (goodIn_sub (fun _ h => List.mem_cons_of_mem _ (List.mem_append_right _ h)) (by decide +kernel))
set_option maxRecDepth 20000 in
theorem gL_blockAt_X5_blockAt : GoodIn wsL_blockAt (wsV RL 25 RX5 yX5_blockAt wsX5_blockAt) := goodIn_app (goodIn_of _ (by decide +kernel)) ggL_blockAt_X5_blockAt
theorem dL_blockAt_0 : decode cL_blockAt 0 = .ok (.aload_n 2, 1) := by decide +kernel
theorem dL_blockAt_1 : decode cL_blockAt 1 = .ok (.iconst 0, 1) := by decide +kernel
theorem dL_blockAt_2 : decode cL_blockAt 2 = .ok (.aload_n 0, 1) := by decide +kernel
theorem dL_blockAt_3 : decode cL_blockAt 3 = .ok (.iload_n 1, 1) := by decide +kernel
theorem dL_blockAt_4 : decode cL_blockAt 4 = .ok (.invokevirtual 25, 3) := by decide +kernel
theorem dL_blockAt_7 : decode cL_blockAt 7 = .ok (.i2l, 1) := by decide +kernel
theorem dL_blockAt_8 : decode cL_blockAt 8 = .ok (.lastore, 1) := by decide +kernel
theorem dL_blockAt_9 : decode cL_blockAt 9 = .ok (.goto 6, 3) := by decide +kernel
theorem dL_blockAt_12 : decode cL_blockAt 12 = .ok (.astore_n 3, 1) := by decide +kernel
theorem dL_blockAt_13 : decode cL_blockAt 13 = .ok (.iconst 1, 1) := by decide +kernel
theorem dL_blockAt_14 : decode cL_blockAt 14 = .ok (.ireturn, 1) := by decide +kernel
theorem dL_blockAt_15 : decode cL_blockAt 15 = .ok (.iconst 0, 1) := by decide +kernel
theorem dL_blockAt_16 : decode cL_blockAt 16 = .ok (.ireturn, 1) := by decide +kernel
set_option maxRecDepth 20000 in
theorem ggL_blockOf_X5_blockOf : GoodIn wsL_blockOf wsX5_blockOf := goodIn_ca (goodIn_r _ [6, 7, 8, 9, 10, 11, 5, 12, 13, 14, 15, 16, 17, 18, 19, 20, 21, 22, 23, 24, 25, 26, 27, 28, 29, 30, 31, 32, 33, 34, 35, 36, 37, 38, 39, 40, 41, 42, 43, 44, 45, 46, 47, 48, 49, 50, 51, 52, 53, 54, 55, 56, 57, 58, 59, 60, 61, 62, 63, 64, 65, 66, 67, 68, 69, 70, 71, 72, 73, 74, 75, 76, 77, 78, 79, 80, 81, 82] (by decide +kernel) (by decide +kernel)) (goodIn_sub (fun _ h => List.mem_cons_of_mem _ (List.mem_append_right _ h)) (by decide +kernel))
set_option maxRecDepth 20000 in
theorem gL_blockOf_X5_blockOf : GoodIn wsL_blockOf (wsV RL 29 RX5 yX5_blockOf wsX5_blockOf) := goodIn_app (goodIn_of _ (by decide +kernel)) ggL_blockOf_X5_blockOf
theorem dL_blockOf_0 : decode cL_blockOf 0 = .ok (.aload_n 3, 1) := by decide +kernel
theorem dL_blockOf_1 : decode cL_blockOf 1 = .ok (.iconst 0, 1) := by decide +kernel
theorem dL_blockOf_2 : decode cL_blockOf 2 = .ok (.aload_n 0, 1) := by decide +kernel
theorem dL_blockOf_3 : decode cL_blockOf 3 = .ok (.iload_n 1, 1) := by decide +kernel
theorem dL_blockOf_4 : decode cL_blockOf 4 = .ok (.iload_n 2, 1) := by decide +kernel
theorem dL_blockOf_5 : decode cL_blockOf 5 = .ok (.invokevirtual 29, 3) := by decide +kernel
theorem dL_blockOf_8 : decode cL_blockOf 8 = .ok (.i2l, 1) := by decide +kernel
theorem dL_blockOf_9 : decode cL_blockOf 9 = .ok (.lastore, 1) := by decide +kernel
theorem dL_blockOf_10 : decode cL_blockOf 10 = .ok (.goto 7, 3) := by decide +kernel
theorem dL_blockOf_13 : decode cL_blockOf 13 = .ok (.astore 4, 2) := by decide +kernel
theorem dL_blockOf_15 : decode cL_blockOf 15 = .ok (.iconst 1, 1) := by decide +kernel
theorem dL_blockOf_16 : decode cL_blockOf 16 = .ok (.ireturn, 1) := by decide +kernel
theorem dL_blockOf_17 : decode cL_blockOf 17 = .ok (.iconst 0, 1) := by decide +kernel
theorem dL_blockOf_18 : decode cL_blockOf 18 = .ok (.ireturn, 1) := by decide +kernel
set_option maxRecDepth 20000 in
theorem ggL_receive_X5_receive : GoodIn wsL_receive wsX5_receive := goodIn_ca (goodIn_r _ [6, 7, 8, 9, 10, 11, 5, 12, 13, 14, 15, 16, 17, 18, 19, 20, 21, 22, 23, 24, 25, 26, 27, 28, 29, 30, 31, 32, 33, 34, 35, 36, 37, 38, 39, 40, 41, 42, 43, 44, 45, 46, 47, 48, 49, 50, 51, 52, 53, 54, 55, 56, 57, 58, 59, 60, 61, 62, 63, 64, 65, 66, 67, 68, 69, 70, 71, 72, 73, 74, 75, 76, 77, 78, 79, 80, 81, 82, 83, 84, 85, 86, 87, 88, 89, 90, 91, 92, 93, 94, 95, 96, 97, 98, 99, 100, 101, 102, 103, 104, 105, 106, 107, 108, 109, 110, 111, 112, 113, 114, 115, 116, 117, 118, 119, 120, 121, 122, 123, 124, 125, 126, 127, 128, 129, 130, 131, 132, 133, 134, 135, 136, 137, 138, 139, 140, 141, 142, 143, 144, 145, 146, 147, 148, 149, 150, 151, 152, 153, 154, 155, 156, 157, 158, 159, 160, 161, 162, 163, 164, 165, 166] (by decide +kernel) (by decide +kernel)) (goodIn_sub (fun _ h => List.mem_cons_of_mem _ (List.mem_append_right _ h)) (by decide +kernel))
set_option maxRecDepth 20000 in
theorem gL_receive_X5_receive : GoodIn wsL_receive (wsV RL 32 RX5 yX5_receive wsX5_receive) := goodIn_app (goodIn_of _ (by decide +kernel)) ggL_receive_X5_receive
theorem dL_receive_0 : decode cL_receive 0 = .ok (.aload_n 3, 1) := by decide +kernel
theorem dL_receive_1 : decode cL_receive 1 = .ok (.iconst 0, 1) := by decide +kernel
theorem dL_receive_2 : decode cL_receive 2 = .ok (.aload_n 0, 1) := by decide +kernel
theorem dL_receive_3 : decode cL_receive 3 = .ok (.iload_n 1, 1) := by decide +kernel
theorem dL_receive_4 : decode cL_receive 4 = .ok (.iload_n 2, 1) := by decide +kernel
theorem dL_receive_5 : decode cL_receive 5 = .ok (.invokevirtual 32, 3) := by decide +kernel
theorem dL_receive_8 : decode cL_receive 8 = .ok (.i2l, 1) := by decide +kernel
theorem dL_receive_9 : decode cL_receive 9 = .ok (.lastore, 1) := by decide +kernel
theorem dL_receive_10 : decode cL_receive 10 = .ok (.goto 7, 3) := by decide +kernel
theorem dL_receive_13 : decode cL_receive 13 = .ok (.astore 4, 2) := by decide +kernel
theorem dL_receive_15 : decode cL_receive 15 = .ok (.iconst 1, 1) := by decide +kernel
theorem dL_receive_16 : decode cL_receive 16 = .ok (.ireturn, 1) := by decide +kernel
theorem dL_receive_17 : decode cL_receive 17 = .ok (.iconst 0, 1) := by decide +kernel
theorem dL_receive_18 : decode cL_receive 18 = .ok (.ireturn, 1) := by decide +kernel
set_option maxRecDepth 20000 in
theorem ggL_receiveAll_X5_receiveAll : GoodIn wsL_receiveAll wsX5_receiveAll := goodIn_ca (goodIn_r _ [6, 7, 8, 9, 10, 11, 12, 5, 13, 14, 15, 16, 17, 18, 19, 20, 21, 22, 23, 24, 25, 26, 27, 28, 29, 30, 31, 32, 33, 34, 35, 36, 37, 38, 39, 40, 41, 42, 43, 44, 45, 46, 47, 48, 49, 50, 51, 52, 53, 54, 55, 56, 57, 58, 59, 60, 61, 62, 63, 64, 65, 66, 67, 68, 69, 70, 71, 72, 73, 74, 75, 76, 77, 78, 79, 80, 81, 82, 83, 84, 85, 86, 87, 88, 89, 90, 91, 92, 93, 94, 95, 96, 97, 98, 99, 100, 101, 102, 103, 104, 105, 106, 107, 108, 109, 110, 111, 112, 113, 114, 115, 116, 117, 118, 119, 120, 121, 122, 123, 124, 125, 126, 127, 128, 129, 130, 131, 132, 133, 134, 135, 136, 137, 138, 139, 140, 141, 142, 143, 144, 145, 146, 147, 148, 149, 150, 151, 152, 153, 154, 155, 156, 157, 158, 159, 160, 161, 162, 163, 164, 165, 166, 167, 168, 169, 170, 171, 172, 173, 174, 175, 176, 177, 178, 179, 180, 181, 182, 183, 184] (by decide +kernel) (by decide +kernel)) (goodIn_sub (fun _ h => List.mem_cons_of_mem _ (List.mem_append_right _ h)) (by decide +kernel))
set_option maxRecDepth 20000 in
theorem gL_receiveAll_X5_receiveAll : GoodIn wsL_receiveAll (wsV RL 35 RX5 yX5_receiveAll wsX5_receiveAll) := goodIn_app (goodIn_of _ (by decide +kernel)) ggL_receiveAll_X5_receiveAll
theorem dL_receiveAll_0 : decode cL_receiveAll 0 = .ok (.aload_n 3, 1) := by decide +kernel
theorem dL_receiveAll_1 : decode cL_receiveAll 1 = .ok (.iconst 0, 1) := by decide +kernel
theorem dL_receiveAll_2 : decode cL_receiveAll 2 = .ok (.aload_n 0, 1) := by decide +kernel
theorem dL_receiveAll_3 : decode cL_receiveAll 3 = .ok (.iload_n 1, 1) := by decide +kernel
theorem dL_receiveAll_4 : decode cL_receiveAll 4 = .ok (.iload_n 2, 1) := by decide +kernel
theorem dL_receiveAll_5 : decode cL_receiveAll 5 = .ok (.invokevirtual 35, 3) := by decide +kernel
theorem dL_receiveAll_8 : decode cL_receiveAll 8 = .ok (.i2l, 1) := by decide +kernel
theorem dL_receiveAll_9 : decode cL_receiveAll 9 = .ok (.lastore, 1) := by decide +kernel
theorem dL_receiveAll_10 : decode cL_receiveAll 10 = .ok (.goto 7, 3) := by decide +kernel
theorem dL_receiveAll_13 : decode cL_receiveAll 13 = .ok (.astore 4, 2) := by decide +kernel
theorem dL_receiveAll_15 : decode cL_receiveAll 15 = .ok (.iconst 1, 1) := by decide +kernel
theorem dL_receiveAll_16 : decode cL_receiveAll 16 = .ok (.ireturn, 1) := by decide +kernel
theorem dL_receiveAll_17 : decode cL_receiveAll 17 = .ok (.iconst 0, 1) := by decide +kernel
theorem dL_receiveAll_18 : decode cL_receiveAll 18 = .ok (.ireturn, 1) := by decide +kernel
set_option maxRecDepth 20000 in
theorem ggL_peeledAt_X5_peeledAt : GoodIn wsL_peeledAt wsX5_peeledAt := goodIn_ca (goodIn_r _ [6, 7, 8, 9, 10, 11, 12, 13, 14, 15, 16, 17, 18, 19, 20, 21, 22, 23, 24, 25, 26, 27, 28, 29, 30, 31] (by decide +kernel) (by decide +kernel)) (goodIn_sub (fun _ h => List.mem_cons_of_mem _ (List.mem_append_right _ h)) (by decide +kernel))
set_option maxRecDepth 20000 in
theorem gL_peeledAt_X5_peeledAt : GoodIn wsL_peeledAt (wsV RL 38 RX5 yX5_peeledAt wsX5_peeledAt) := goodIn_app (goodIn_of _ (by decide +kernel)) ggL_peeledAt_X5_peeledAt
theorem dL_peeledAt_0 : decode cL_peeledAt 0 = .ok (.aload_n 2, 1) := by decide +kernel
theorem dL_peeledAt_1 : decode cL_peeledAt 1 = .ok (.iconst 0, 1) := by decide +kernel
theorem dL_peeledAt_2 : decode cL_peeledAt 2 = .ok (.aload_n 0, 1) := by decide +kernel
theorem dL_peeledAt_3 : decode cL_peeledAt 3 = .ok (.iload_n 1, 1) := by decide +kernel
theorem dL_peeledAt_4 : decode cL_peeledAt 4 = .ok (.invokevirtual 38, 3) := by decide +kernel
theorem dL_peeledAt_7 : decode cL_peeledAt 7 = .ok (.i2l, 1) := by decide +kernel
theorem dL_peeledAt_8 : decode cL_peeledAt 8 = .ok (.lastore, 1) := by decide +kernel
theorem dL_peeledAt_9 : decode cL_peeledAt 9 = .ok (.goto 6, 3) := by decide +kernel
theorem dL_peeledAt_12 : decode cL_peeledAt 12 = .ok (.astore_n 3, 1) := by decide +kernel
theorem dL_peeledAt_13 : decode cL_peeledAt 13 = .ok (.iconst 1, 1) := by decide +kernel
theorem dL_peeledAt_14 : decode cL_peeledAt 14 = .ok (.ireturn, 1) := by decide +kernel
theorem dL_peeledAt_15 : decode cL_peeledAt 15 = .ok (.iconst 0, 1) := by decide +kernel
theorem dL_peeledAt_16 : decode cL_peeledAt 16 = .ok (.ireturn, 1) := by decide +kernel
set_option maxRecDepth 20000 in
theorem ggL_peeledBy_X5_peeledBy : GoodIn wsL_peeledBy wsX5_peeledBy := goodIn_ca (goodIn_r _ [6, 7, 8, 9, 10, 11, 12, 5, 13, 14, 15, 16, 17, 18, 19, 20, 21, 22, 23, 24, 25, 26, 27, 28, 29, 30, 31, 32, 33, 34, 35, 36, 37, 38, 39, 40, 41] (by decide +kernel) (by decide +kernel)) (goodIn_sub (fun _ h => List.mem_cons_of_mem _ (List.mem_append_right _ h)) (by decide +kernel))
set_option maxRecDepth 20000 in
theorem gL_peeledBy_X5_peeledBy : GoodIn wsL_peeledBy (wsV RL 41 RX5 yX5_peeledBy wsX5_peeledBy) := goodIn_app (goodIn_of _ (by decide +kernel)) ggL_peeledBy_X5_peeledBy
theorem dL_peeledBy_0 : decode cL_peeledBy 0 = .ok (.aload_n 2, 1) := by decide +kernel
theorem dL_peeledBy_1 : decode cL_peeledBy 1 = .ok (.iconst 0, 1) := by decide +kernel
theorem dL_peeledBy_2 : decode cL_peeledBy 2 = .ok (.aload_n 0, 1) := by decide +kernel
theorem dL_peeledBy_3 : decode cL_peeledBy 3 = .ok (.iload_n 1, 1) := by decide +kernel
theorem dL_peeledBy_4 : decode cL_peeledBy 4 = .ok (.invokevirtual 41, 3) := by decide +kernel
theorem dL_peeledBy_7 : decode cL_peeledBy 7 = .ok (.i2l, 1) := by decide +kernel
theorem dL_peeledBy_8 : decode cL_peeledBy 8 = .ok (.lastore, 1) := by decide +kernel
theorem dL_peeledBy_9 : decode cL_peeledBy 9 = .ok (.goto 6, 3) := by decide +kernel
theorem dL_peeledBy_12 : decode cL_peeledBy 12 = .ok (.astore_n 3, 1) := by decide +kernel
theorem dL_peeledBy_13 : decode cL_peeledBy 13 = .ok (.iconst 1, 1) := by decide +kernel
theorem dL_peeledBy_14 : decode cL_peeledBy 14 = .ok (.ireturn, 1) := by decide +kernel
theorem dL_peeledBy_15 : decode cL_peeledBy 15 = .ok (.iconst 0, 1) := by decide +kernel
theorem dL_peeledBy_16 : decode cL_peeledBy 16 = .ok (.ireturn, 1) := by decide +kernel
set_option maxRecDepth 20000 in
theorem ggL_isDetermined_X5_isDetermined : GoodIn wsL_isDetermined wsX5_isDetermined := goodIn_ca (goodIn_r _ [6, 7, 8, 9, 10, 11, 12, 5, 13, 14, 15, 16, 17, 18, 19, 20, 21, 22, 23, 24, 25, 26, 27, 28, 29, 30, 31, 32, 33, 34, 35, 36, 37, 38, 39, 40, 41, 42, 43, 44] (by decide +kernel) (by decide +kernel)) (goodIn_sub (fun _ h => List.mem_cons_of_mem _ (List.mem_append_right _ h)) (by decide +kernel))
set_option maxRecDepth 20000 in
theorem gL_isDetermined_X5_isDetermined : GoodIn wsL_isDetermined (wsV RL 44 RX5 yX5_isDetermined wsX5_isDetermined) := goodIn_app (goodIn_of _ (by decide +kernel)) ggL_isDetermined_X5_isDetermined
theorem dL_isDetermined_0 : decode cL_isDetermined 0 = .ok (.aload_n 2, 1) := by decide +kernel
theorem dL_isDetermined_1 : decode cL_isDetermined 1 = .ok (.iconst 0, 1) := by decide +kernel
theorem dL_isDetermined_2 : decode cL_isDetermined 2 = .ok (.aload_n 0, 1) := by decide +kernel
theorem dL_isDetermined_3 : decode cL_isDetermined 3 = .ok (.iload_n 1, 1) := by decide +kernel
theorem dL_isDetermined_4 : decode cL_isDetermined 4 = .ok (.invokevirtual 44, 3) := by decide +kernel
theorem dL_isDetermined_7 : decode cL_isDetermined 7 = .ok (.ifCond .eq 7, 3) := by decide +kernel
theorem dL_isDetermined_10 : decode cL_isDetermined 10 = .ok (.lconst 1, 1) := by decide +kernel
theorem dL_isDetermined_11 : decode cL_isDetermined 11 = .ok (.goto 4, 3) := by decide +kernel
theorem dL_isDetermined_14 : decode cL_isDetermined 14 = .ok (.lconst 0, 1) := by decide +kernel
theorem dL_isDetermined_15 : decode cL_isDetermined 15 = .ok (.lastore, 1) := by decide +kernel
theorem dL_isDetermined_16 : decode cL_isDetermined 16 = .ok (.goto 6, 3) := by decide +kernel
theorem dL_isDetermined_19 : decode cL_isDetermined 19 = .ok (.astore_n 3, 1) := by decide +kernel
theorem dL_isDetermined_20 : decode cL_isDetermined 20 = .ok (.iconst 1, 1) := by decide +kernel
theorem dL_isDetermined_21 : decode cL_isDetermined 21 = .ok (.ireturn, 1) := by decide +kernel
theorem dL_isDetermined_22 : decode cL_isDetermined 22 = .ok (.iconst 0, 1) := by decide +kernel
theorem dL_isDetermined_23 : decode cL_isDetermined 23 = .ok (.ireturn, 1) := by decide +kernel
set_option maxRecDepth 20000 in
theorem ggL_recovered_X5_recovered : GoodIn wsL_recovered wsX5_recovered := goodIn_ca (goodIn_ca (goodIn_r _ [7, 8, 9, 10, 11, 12, 13, 14, 15, 6, 16, 17, 18, 19, 20, 21, 22, 23, 24, 25, 26, 27, 28, 29, 30, 31, 32, 33, 34, 35, 36, 37, 38, 39, 40, 41, 42, 43, 44, 45, 46, 47, 48, 49, 50, 51, 52, 53, 54, 55] (by decide +kernel) (by decide +kernel)) (goodIn_sub (fun _ h => List.mem_cons_of_mem _ (List.mem_append_left _ (List.mem_append_right _ h))) (by decide +kernel))) (goodIn_sub (fun _ h => List.mem_cons_of_mem _ (List.mem_append_right _ h)) (by decide +kernel))
set_option maxRecDepth 20000 in
theorem gL_recovered_X5_recovered : GoodIn wsL_recovered (wsV RL 48 RX5 yX5_recovered wsX5_recovered) := goodIn_app (goodIn_of _ (by decide +kernel)) ggL_recovered_X5_recovered
theorem dL_recovered_0 : decode cL_recovered 0 = .ok (.aload_n 2, 1) := by decide +kernel
theorem dL_recovered_1 : decode cL_recovered 1 = .ok (.iconst 0, 1) := by decide +kernel
theorem dL_recovered_2 : decode cL_recovered 2 = .ok (.aload_n 0, 1) := by decide +kernel
theorem dL_recovered_3 : decode cL_recovered 3 = .ok (.iload_n 1, 1) := by decide +kernel
theorem dL_recovered_4 : decode cL_recovered 4 = .ok (.invokevirtual 48, 3) := by decide +kernel
theorem dL_recovered_7 : decode cL_recovered 7 = .ok (.i2l, 1) := by decide +kernel
theorem dL_recovered_8 : decode cL_recovered 8 = .ok (.lastore, 1) := by decide +kernel
theorem dL_recovered_9 : decode cL_recovered 9 = .ok (.goto 9, 3) := by decide +kernel
theorem dL_recovered_12 : decode cL_recovered 12 = .ok (.astore_n 3, 1) := by decide +kernel
theorem dL_recovered_13 : decode cL_recovered 13 = .ok (.iconst 1, 1) := by decide +kernel
theorem dL_recovered_14 : decode cL_recovered 14 = .ok (.ireturn, 1) := by decide +kernel
theorem dL_recovered_15 : decode cL_recovered 15 = .ok (.astore_n 3, 1) := by decide +kernel
theorem dL_recovered_16 : decode cL_recovered 16 = .ok (.iconst 2, 1) := by decide +kernel
theorem dL_recovered_17 : decode cL_recovered 17 = .ok (.ireturn, 1) := by decide +kernel
theorem dL_recovered_18 : decode cL_recovered 18 = .ok (.iconst 0, 1) := by decide +kernel
theorem dL_recovered_19 : decode cL_recovered 19 = .ok (.ireturn, 1) := by decide +kernel
set_option maxRecDepth 20000 in
theorem ggL_law_X5_init : GoodIn wsL_law wsX5_init := goodIn_r _ [9, 10, 11, 12, 13, 14, 15, 16, 17, 18, 19, 20, 21, 22, 23, 24, 25, 26, 27, 28, 29, 30, 31, 32, 33, 34, 35, 36, 37, 38, 39, 40, 41, 42, 43, 44, 45, 46, 47, 48, 49, 50, 51, 6, 52, 53, 54, 55, 56, 57, 58, 59, 60, 61, 62, 63, 64, 65, 66, 2, 67, 68, 69, 70, 71, 72, 73, 74, 75, 76, 77, 78, 79, 80, 81, 82, 83, 84, 85, 86, 87, 88, 89, 90, 91, 92, 93, 94, 95, 96, 97, 98, 99, 100, 101, 102, 103, 104, 105, 106, 107, 108, 109, 110, 111, 112, 113, 114, 115, 116, 117, 118, 119, 120, 121, 122, 123, 124, 125, 126, 127, 128, 129, 130, 131, 132, 133, 134, 135, 136, 137, 138, 139, 140, 141, 142, 143, 144, 145, 146, 653, 626, 627, 628, 629, 630, 654, 655, 656, 657, 658, 659, 660, 661, 662, 663, 664, 665, 666, 667, 668, 669] (by decide +kernel) (by decide +kernel)
set_option maxRecDepth 20000 in
theorem gL_law_X5_init : GoodIn wsL_law (wsX5_init) := ggL_law_X5_init
set_option maxRecDepth 20000 in
theorem ggL_law_X6_init : GoodIn wsL_law wsX6_init := goodIn_r _ [149, 150, 11, 12, 47, 151, 152, 153, 154, 6, 155, 156, 157, 158, 159, 160, 161, 162, 163, 164, 165, 166, 5, 167, 168, 169, 170, 171, 631, 632, 633, 634, 635, 636, 637, 638, 639, 640, 641, 642, 643, 644, 645, 646, 647, 648, 649, 650, 651, 652] (by decide +kernel) (by decide +kernel)
set_option maxRecDepth 20000 in
theorem gL_law_X6_init : GoodIn wsL_law (wsX6_init) := ggL_law_X6_init
set_option maxRecDepth 20000 in
theorem ggL_law_L_start : GoodIn wsL_law wsL_start := goodIn_ca (goodIn_r _ [175, 176, 177, 178, 179, 2, 180, 181, 182, 64, 65, 66, 67, 20, 24, 28, 68, 69, 70, 19, 71, 72, 73, 48, 74, 75, 76, 77, 78, 79, 80, 23, 81, 82, 83, 84, 54, 85, 86, 87, 88, 27, 89, 90, 58, 59, 91, 92, 93, 94, 95, 96, 97, 98, 99, 100, 101, 102, 103, 104, 105, 106, 107, 108, 109, 52, 110, 111, 112, 113, 114, 115, 116, 117, 118, 119, 120, 121, 122, 123, 124, 125, 126, 127, 128, 129, 130, 131, 132, 133, 134, 135, 136, 137, 138, 139, 140, 141, 142, 143, 144, 145, 146, 53, 626, 627, 628, 629, 630, 654, 655, 656, 657, 658, 659, 660, 661, 662, 663, 664, 665] (by decide +kernel) (by decide +kernel)) (goodIn_sub (fun _ h => List.mem_append_left _ (List.mem_append_left _ (List.mem_append_right _ h))) (by decide +kernel))
set_option maxRecDepth 20000 in
theorem gL_law_L_start : GoodIn wsL_law (va_wsS RL 55 yL_start wsL_start) := goodIn_app (goodIn_of _ (by decide +kernel)) ggL_law_L_start
set_option maxRecDepth 20000 in
theorem ggL_law_X6_start : GoodIn wsL_law wsX6_start := goodIn_r _ [186, 152, 153, 154, 187, 188, 5, 189, 190, 191, 192, 193, 194, 164, 165, 166, 167, 168, 169, 170, 171, 158, 159, 160, 195, 196, 197, 198, 199, 200, 201, 155, 156, 202, 203, 204, 205, 206, 207, 208, 209, 210, 211, 212, 213, 214, 215, 216, 157, 631, 632, 633, 634, 635, 636, 637, 638, 639, 640, 641, 642, 643, 644, 645, 646, 647, 648, 649, 650, 651, 652] (by decide +kernel) (by decide +kernel)
set_option maxRecDepth 20000 in
theorem gL_law_X6_start : GoodIn wsL_law (wsV RL 60 RX6 yX6_start wsX6_start) := goodIn_app (goodIn_of _ (by decide +kernel)) ggL_law_X6_start
set_option maxRecDepth 20000 in
theorem ggL_law_X6_thrown : GoodIn wsL_law wsX6_thrown := goodIn_r _ [220, 194, 631, 632, 633, 634, 635, 636, 637, 638, 639, 640, 641, 642, 643, 644, 645, 646, 647, 648, 649, 650, 651, 652] (by decide +kernel) (by decide +kernel)
set_option maxRecDepth 20000 in
theorem gL_law_X6_thrown : GoodIn wsL_law (wsV RL 61 RX6 yX6_thrown wsX6_thrown) := goodIn_app (goodIn_of _ (by decide +kernel)) ggL_law_X6_thrown
set_option maxRecDepth 20000 in
theorem ggL_law_L_setWeight : GoodIn wsL_law wsL_setWeight := goodIn_ca (goodIn_ca (goodIn_r _ [223, 176, 224, 225, 226, 227, 2, 228, 181, 182, 229, 230, 16, 231, 232, 233, 15, 234, 43, 235, 236, 237, 238, 239, 240, 241, 242, 626, 627, 628, 629, 630, 653] (by decide +kernel) (by decide +kernel)) (goodIn_sub (fun _ h => List.mem_append_left _ (List.mem_append_left _ (List.mem_append_right _ h))) (by decide +kernel))) (goodIn_sub (fun _ h => List.mem_append_left _ (List.mem_append_right _ h)) (by decide +kernel))
set_option maxRecDepth 20000 in
theorem gL_law_L_setWeight : GoodIn wsL_law (va_wsS RL 65 yL_setWeight wsL_setWeight) := goodIn_app (goodIn_of _ (by decide +kernel)) ggL_law_L_setWeight
set_option maxRecDepth 20000 in
theorem ggL_law_X6_setWeight : GoodIn wsL_law wsX6_setWeight := goodIn_r _ [246, 151, 187, 188, 5, 189, 190, 191, 192, 193, 194, 631, 632, 633, 634, 635, 636, 637, 638, 639, 640, 641, 642, 643, 644, 645, 646, 647, 648, 649, 650, 651, 652] (by decide +kernel) (by decide +kernel)
set_option maxRecDepth 20000 in
theorem gL_law_X6_setWeight : GoodIn wsL_law (wsV RL 67 RX6 yX6_setWeight wsX6_setWeight) := goodIn_app (goodIn_of _ (by decide +kernel)) ggL_law_X6_setWeight
set_option maxRecDepth 20000 in
theorem ggL_law_L_setBlock : GoodIn wsL_law wsL_setBlock := goodIn_ca (goodIn_r _ [249, 250, 251, 252, 253, 2, 254, 255, 256, 20, 257, 258, 259, 19, 260, 72, 261, 262, 263, 264, 265, 99, 100, 101, 96, 97, 266, 267, 268, 269, 48, 118, 119, 95, 270, 271, 272, 273, 626, 627, 628, 629, 630, 654, 655, 656] (by decide +kernel) (by decide +kernel)) (goodIn_sub (fun _ h => List.mem_append_right _ h) (by decide +kernel))
set_option maxRecDepth 20000 in
theorem gL_law_L_setBlock : GoodIn wsL_law (va_wsS RL 68 yL_setBlock wsL_setBlock) := goodIn_app (goodIn_of _ (by decide +kernel)) ggL_law_L_setBlock
set_option maxRecDepth 20000 in
theorem ggL_law_X6_setBlock : GoodIn wsL_law wsX6_setBlock := goodIn_r _ [277, 152, 154, 187, 188, 5, 189, 190, 191, 192, 193, 194, 631, 632, 633, 634, 635, 636, 637, 638, 639, 640, 641, 642, 643, 644, 645, 646, 647, 648, 649, 650, 651, 652] (by decide +kernel) (by decide +kernel)
set_option maxRecDepth 20000 in
theorem gL_law_X6_setBlock : GoodIn wsL_law (wsV RL 70 RX6 yX6_setBlock wsX6_setBlock) := goodIn_app (goodIn_of _ (by decide +kernel)) ggL_law_X6_setBlock
set_option maxRecDepth 20000 in
theorem ggL_law_X5_blocks : GoodIn wsL_law wsX5_blocks := goodIn_r _ [281, 20, 282, 283, 284, 19, 285, 72, 73, 626, 627, 628, 629, 630, 654, 655, 656] (by decide +kernel) (by decide +kernel)
set_option maxRecDepth 20000 in
theorem gL_law_X5_blocks : GoodIn wsL_law (wsV RL 71 RX5 yX5_blocks wsX5_blocks) := goodIn_app (goodIn_of _ (by decide +kernel)) ggL_law_X5_blocks
set_option maxRecDepth 20000 in
theorem ggL_law_X6_blocks : GoodIn wsL_law wsX6_blocks := goodIn_r _ [289, 153, 290, 291, 292, 5, 293, 194, 631, 632, 633, 634, 635, 636, 637, 638, 639, 640, 641, 642, 643, 644, 645, 646, 647, 648, 649, 650, 651, 652] (by decide +kernel) (by decide +kernel)
set_option maxRecDepth 20000 in
theorem gL_law_X6_blocks : GoodIn wsL_law (wsV RL 74 RX6 yX6_blocks wsX6_blocks) := goodIn_app (goodIn_of _ (by decide +kernel)) ggL_law_X6_blocks
set_option maxRecDepth 20000 in
theorem ggL_law_L_blockAt : GoodIn wsL_law wsL_blockAt := goodIn_ca (goodIn_r _ [296, 250, 297, 298, 299, 2, 300, 255, 256, 20, 301, 302, 303, 304, 282, 283, 284, 19, 285, 72, 73, 261, 262, 263, 264, 265, 99, 100, 101, 96, 97, 266, 267, 268, 269, 48, 118, 119, 95, 626, 627, 628, 629, 630, 654, 655, 656] (by decide +kernel) (by decide +kernel)) (goodIn_sub (fun _ h => List.mem_append_right _ h) (by decide +kernel))
set_option maxRecDepth 20000 in
theorem gL_law_L_blockAt : GoodIn wsL_law (va_wsS RL 75 yL_blockAt wsL_blockAt) := goodIn_app (goodIn_of _ (by decide +kernel)) ggL_law_L_blockAt
set_option maxRecDepth 20000 in
theorem ggL_law_X6_blockAt : GoodIn wsL_law wsX6_blockAt := goodIn_r _ [308, 309, 310, 311, 5, 312, 313, 314, 315, 316, 153, 187, 188, 189, 190, 191, 192, 193, 194, 317, 318, 319, 320, 152, 154, 195, 196, 197, 631, 632, 633, 634, 635, 636, 637, 638, 639, 640, 641, 642, 643, 644, 645, 646, 647, 648, 649, 650, 651, 652] (by decide +kernel) (by decide +kernel)
set_option maxRecDepth 20000 in
theorem gL_law_X6_blockAt : GoodIn wsL_law (wsV RL 78 RX6 yX6_blockAt wsX6_blockAt) := goodIn_app (goodIn_of _ (by decide +kernel)) ggL_law_X6_blockAt
set_option maxRecDepth 20000 in
theorem ggL_law_X5_degree : GoodIn wsL_law wsX5_degree := goodIn_r _ [324, 325, 326, 327, 2, 328, 32, 16, 20, 282, 283, 284, 19, 285, 72, 73, 329, 330, 331, 31, 332, 333, 334, 335, 336, 337, 338, 339, 63, 340, 236, 237, 15, 238, 43, 341, 342, 343, 344, 345, 346, 347, 348, 349, 350, 351, 352, 353, 354, 355, 356, 357, 358, 96, 97, 359, 360, 361, 362, 626, 627, 628, 629, 630, 654, 655, 656, 666, 667, 668, 669, 653] (by decide +kernel) (by decide +kernel)
set_option maxRecDepth 20000 in
theorem gL_law_X5_degree : GoodIn wsL_law (wsV RL 79 RX5 yX5_degree wsX5_degree) := goodIn_app (goodIn_of _ (by decide +kernel)) ggL_law_X5_degree
set_option maxRecDepth 20000 in
theorem ggL_law_X6_degree : GoodIn wsL_law wsX6_degree := goodIn_r _ [366, 367, 368, 369, 370, 5, 371, 372, 151, 153, 163, 373, 374, 375, 376, 377, 378, 290, 291, 292, 293, 194, 631, 632, 633, 634, 635, 636, 637, 638, 639, 640, 641, 642, 643, 644, 645, 646, 647, 648, 649, 650, 651, 652] (by decide +kernel) (by decide +kernel)
set_option maxRecDepth 20000 in
theorem gL_law_X6_degree : GoodIn wsL_law (wsV RL 82 RX6 yX6_degree wsX6_degree) := goodIn_app (goodIn_of _ (by decide +kernel)) ggL_law_X6_degree
set_option maxRecDepth 20000 in
theorem ggL_law_L_blockOf : GoodIn wsL_law wsL_blockOf := goodIn_ca (goodIn_r _ [381, 250, 382, 383, 384, 2, 385, 255, 256, 325, 326, 327, 328, 32, 16, 20, 282, 283, 284, 19, 285, 72, 73, 329, 330, 331, 31, 332, 333, 334, 335, 336, 337, 338, 339, 63, 340, 236, 237, 15, 238, 43, 341, 342, 343, 344, 345, 346, 347, 348, 349, 350, 351, 352, 353, 354, 355, 356, 357, 358, 96, 97, 359, 360, 361, 362, 386, 387, 388, 389, 626, 627, 628, 629, 630, 654, 655, 656, 666, 667, 668, 669, 653] (by decide +kernel) (by decide +kernel)) (goodIn_sub (fun _ h => List.mem_append_right _ h) (by decide +kernel))
set_option maxRecDepth 20000 in
theorem gL_law_L_blockOf : GoodIn wsL_law (va_wsS RL 83 yL_blockOf wsL_blockOf) := goodIn_app (goodIn_of _ (by decide +kernel)) ggL_law_L_blockOf
set_option maxRecDepth 20000 in
theorem ggL_law_X6_blockOf : GoodIn wsL_law wsX6_blockOf := goodIn_r _ [393, 367, 163, 368, 369, 370, 5, 371, 372, 151, 153, 373, 374, 375, 376, 377, 378, 187, 188, 189, 190, 191, 192, 193, 194, 631, 632, 633, 634, 635, 636, 637, 638, 639, 640, 641, 642, 643, 644, 645, 646, 647, 648, 649, 650, 651, 652] (by decide +kernel) (by decide +kernel)
set_option maxRecDepth 20000 in
theorem gL_law_X6_blockOf : GoodIn wsL_law (wsV RL 85 RX6 yX6_blockOf wsX6_blockOf) := goodIn_app (goodIn_of _ (by decide +kernel)) ggL_law_X6_blockOf
set_option maxRecDepth 20000 in
theorem ggL_law_X5_valueOf : GoodIn wsL_law wsX5_valueOf := goodIn_r _ [397, 20, 325, 326, 327, 2, 328, 32, 16, 282, 283, 284, 19, 285, 72, 73, 329, 330, 331, 31, 332, 333, 334, 335, 336, 337, 338, 339, 63, 340, 236, 237, 15, 238, 43, 341, 342, 343, 344, 345, 346, 347, 348, 349, 350, 351, 352, 353, 354, 355, 356, 357, 358, 96, 97, 398, 399, 400, 401, 402, 403, 404, 405, 266, 267, 268, 269, 48, 118, 119, 95, 406, 407, 262, 263, 264, 265, 99, 100, 101, 626, 627, 628, 629, 630, 654, 655, 656, 666, 667, 668, 669, 653] (by decide +kernel) (by decide +kernel)
set_option maxRecDepth 20000 in
theorem gL_law_X5_valueOf : GoodIn wsL_law (wsV RL 86 RX5 yX5_valueOf wsX5_valueOf) := goodIn_app (goodIn_of _ (by decide +kernel)) ggL_law_X5_valueOf
set_option maxRecDepth 20000 in
theorem ggL_law_X6_valueOf : GoodIn wsL_law wsX6_valueOf := goodIn_r _ [411, 412, 413, 414, 5, 415, 367, 163, 368, 369, 370, 371, 372, 151, 153, 373, 374, 375, 376, 377, 378, 317, 318, 319, 320, 152, 154, 195, 196, 197, 290, 291, 292, 293, 194, 631, 632, 633, 634, 635, 636, 637, 638, 639, 640, 641, 642, 643, 644, 645, 646, 647, 648, 649, 650, 651, 652] (by decide +kernel) (by decide +kernel)
set_option maxRecDepth 20000 in
theorem gL_law_X6_valueOf : GoodIn wsL_law (wsV RL 89 RX6 yX6_valueOf wsX6_valueOf) := goodIn_app (goodIn_of _ (by decide +kernel)) ggL_law_X6_valueOf
set_option maxRecDepth 20000 in
theorem ggL_law_L_receive : GoodIn wsL_law wsL_receive := goodIn_ca (goodIn_r _ [418, 224, 419, 420, 421, 2, 422, 229, 230, 325, 326, 327, 328, 32, 16, 20, 282, 283, 284, 19, 285, 72, 73, 329, 330, 331, 31, 332, 333, 334, 335, 336, 337, 338, 339, 63, 340, 236, 237, 15, 238, 43, 341, 342, 343, 344, 345, 346, 347, 348, 349, 350, 351, 352, 353, 354, 355, 356, 357, 358, 96, 97, 398, 399, 400, 401, 423, 424, 425, 426, 24, 28, 427, 428, 429, 23, 430, 82, 431, 432, 433, 434, 435, 436, 437, 27, 438, 114, 115, 116, 117, 58, 118, 119, 95, 129, 130, 131, 132, 59, 439, 440, 441, 442, 102, 103, 104, 105, 106, 107, 108, 109, 52, 110, 111, 112, 113, 90, 120, 121, 122, 123, 124, 125, 126, 127, 128, 133, 134, 135, 136, 83, 137, 138, 139, 140, 84, 141, 142, 143, 144, 145, 146, 53, 54, 626, 627, 628, 629, 630, 654, 655, 656, 666, 667, 668, 669, 653, 657, 658, 659, 660, 661, 662, 663, 664, 665] (by decide +kernel) (by decide +kernel)) (goodIn_sub (fun _ h => List.mem_append_left _ (List.mem_append_right _ h)) (by decide +kernel))
set_option maxRecDepth 20000 in
theorem gL_law_L_receive : GoodIn wsL_law (va_wsS RL 90 yL_receive wsL_receive) := goodIn_app (goodIn_of _ (by decide +kernel)) ggL_law_L_receive
set_option maxRecDepth 20000 in
theorem ggL_law_X6_receive : GoodIn wsL_law wsX6_receive := goodIn_r _ [446, 447, 448, 449, 5, 450, 169, 206, 207, 451, 452, 453, 454, 367, 163, 368, 369, 370, 371, 372, 151, 153, 373, 374, 375, 376, 377, 378, 202, 203, 204, 205, 159, 160, 190, 191, 192, 193, 194, 455, 456, 457, 458, 198, 199, 200, 201, 155, 168, 156, 208, 209, 210, 211, 212, 213, 214, 215, 170, 171, 216, 157, 158, 631, 632, 633, 634, 635, 636, 637, 638, 639, 640, 641, 642, 643, 644, 645, 646, 647, 648, 649, 650, 651, 652] (by decide +kernel) (by decide +kernel)
set_option maxRecDepth 20000 in
theorem gL_law_X6_receive : GoodIn wsL_law (wsV RL 92 RX6 yX6_receive wsX6_receive) := goodIn_app (goodIn_of _ (by decide +kernel)) ggL_law_X6_receive
set_option maxRecDepth 20000 in
theorem ggL_law_L_receiveAll : GoodIn wsL_law wsL_receiveAll := goodIn_ca (goodIn_r _ [461, 176, 462, 463, 464, 2, 465, 181, 182, 20, 325, 326, 327, 328, 32, 16, 282, 283, 284, 19, 285, 72, 73, 329, 330, 331, 31, 332, 333, 334, 335, 336, 337, 338, 339, 63, 340, 236, 237, 15, 238, 43, 341, 342, 343, 344, 345, 346, 347, 348, 349, 350, 351, 352, 353, 354, 355, 356, 357, 358, 96, 97, 398, 399, 400, 401, 402, 403, 404, 405, 266, 267, 268, 269, 48, 118, 119, 95, 406, 407, 262, 263, 264, 265, 99, 100, 101, 423, 424, 425, 426, 24, 28, 427, 428, 429, 23, 430, 82, 431, 432, 433, 434, 435, 436, 437, 27, 438, 114, 115, 116, 117, 58, 129, 130, 131, 132, 59, 439, 440, 441, 442, 102, 103, 104, 105, 106, 107, 108, 109, 52, 110, 111, 112, 113, 90, 120, 121, 122, 123, 124, 125, 126, 127, 128, 133, 134, 135, 136, 83, 137, 138, 139, 140, 84, 141, 142, 143, 144, 145, 146, 53, 54, 626, 627, 628, 629, 630, 654, 655, 656, 666, 667, 668, 669, 653, 657, 658, 659, 660, 661, 662, 663, 664, 665] (by decide +kernel) (by decide +kernel)) (goodIn_sub (fun _ h => List.mem_append_left _ (List.mem_append_left _ (List.mem_append_right _ h))) (by decide +kernel))
set_option maxRecDepth 20000 in
theorem gL_law_L_receiveAll : GoodIn wsL_law (va_wsS RL 93 yL_receiveAll wsL_receiveAll) := goodIn_app (goodIn_of _ (by decide +kernel)) ggL_law_L_receiveAll
set_option maxRecDepth 20000 in
theorem ggL_law_X6_receiveAll : GoodIn wsL_law wsX6_receiveAll := goodIn_r _ [469, 187, 188, 5, 189, 190, 191, 192, 193, 194, 412, 413, 414, 415, 367, 163, 368, 369, 370, 371, 372, 151, 153, 373, 374, 375, 376, 377, 378, 317, 318, 319, 320, 152, 154, 195, 196, 197, 447, 448, 449, 450, 169, 206, 207, 451, 452, 453, 454, 202, 203, 204, 205, 159, 160, 455, 456, 457, 458, 198, 199, 200, 201, 155, 168, 156, 208, 209, 210, 211, 212, 213, 214, 215, 170, 171, 216, 157, 158, 631, 632, 633, 634, 635, 636, 637, 638, 639, 640, 641, 642, 643, 644, 645, 646, 647, 648, 649, 650, 651, 652] (by decide +kernel) (by decide +kernel)
set_option maxRecDepth 20000 in
theorem gL_law_X6_receiveAll : GoodIn wsL_law (wsV RL 95 RX6 yX6_receiveAll wsX6_receiveAll) := goodIn_app (goodIn_of _ (by decide +kernel)) ggL_law_X6_receiveAll
set_option maxRecDepth 20000 in
theorem ggL_law_X5_equations : GoodIn wsL_law wsX5_equations := goodIn_r _ [473, 24, 427, 428, 429, 23, 430, 82, 626, 627, 628, 629, 630, 657, 658, 659, 660, 661, 662] (by decide +kernel) (by decide +kernel)
set_option maxRecDepth 20000 in
theorem gL_law_X5_equations : GoodIn wsL_law (wsV RL 96 RX5 yX5_equations wsX5_equations) := goodIn_app (goodIn_of _ (by decide +kernel)) ggL_law_X5_equations
set_option maxRecDepth 20000 in
theorem ggL_law_X6_equations : GoodIn wsL_law wsX6_equations := goodIn_r _ [477, 168, 290, 291, 292, 5, 293, 194, 631, 632, 633, 634, 635, 636, 637, 638, 639, 640, 641, 642, 643, 644, 645, 646, 647, 648, 649, 650, 651, 652] (by decide +kernel) (by decide +kernel)
set_option maxRecDepth 20000 in
theorem gL_law_X6_equations : GoodIn wsL_law (wsV RL 99 RX6 yX6_equations wsX6_equations) := goodIn_app (goodIn_of _ (by decide +kernel)) ggL_law_X6_equations
set_option maxRecDepth 20000 in
theorem ggL_law_X5_rank : GoodIn wsL_law wsX5_rank := goodIn_r _ [481, 28, 482, 483, 484, 27, 485, 90, 626, 627, 628, 629, 630, 663, 664, 665] (by decide +kernel) (by decide +kernel)
set_option maxRecDepth 20000 in
theorem gL_law_X5_rank : GoodIn wsL_law (wsV RL 100 RX5 yX5_rank wsX5_rank) := goodIn_app (goodIn_of _ (by decide +kernel)) ggL_law_X5_rank
set_option maxRecDepth 20000 in
theorem ggL_law_X6_rank : GoodIn wsL_law wsX6_rank := goodIn_r _ [489, 490, 491, 492, 5, 493, 153, 159, 290, 291, 292, 293, 194, 631, 632, 633, 634, 635, 636, 637, 638, 639, 640, 641, 642, 643, 644, 645, 646, 647, 648, 649, 650, 651, 652] (by decide +kernel) (by decide +kernel)
set_option maxRecDepth 20000 in
theorem gL_law_X6_rank : GoodIn wsL_law (wsV RL 103 RX6 yX6_rank wsX6_rank) := goodIn_app (goodIn_of _ (by decide +kernel)) ggL_law_X6_rank
set_option maxRecDepth 20000 in
theorem ggL_law_X5_peeled : GoodIn wsL_law wsX5_peeled := goodIn_r _ [497, 24, 498, 499, 500, 23, 501, 83, 626, 627, 628, 629, 630, 657, 658, 659, 660, 661, 662] (by decide +kernel) (by decide +kernel)
set_option maxRecDepth 20000 in
theorem gL_law_X5_peeled : GoodIn wsL_law (wsV RL 104 RX5 yX5_peeled wsX5_peeled) := goodIn_app (goodIn_of _ (by decide +kernel)) ggL_law_X5_peeled
set_option maxRecDepth 20000 in
theorem ggL_law_X6_peeled : GoodIn wsL_law wsX6_peeled := goodIn_r _ [505, 170, 290, 291, 292, 5, 293, 194, 631, 632, 633, 634, 635, 636, 637, 638, 639, 640, 641, 642, 643, 644, 645, 646, 647, 648, 649, 650, 651, 652] (by decide +kernel) (by decide +kernel)
set_option maxRecDepth 20000 in
theorem gL_law_X6_peeled : GoodIn wsL_law (wsV RL 107 RX6 yX6_peeled wsX6_peeled) := goodIn_app (goodIn_of _ (by decide +kernel)) ggL_law_X6_peeled
set_option maxRecDepth 20000 in
theorem ggL_law_L_peeledAt : GoodIn wsL_law wsL_peeledAt := goodIn_ca (goodIn_r _ [508, 250, 509, 510, 511, 2, 512, 255, 256, 24, 498, 499, 500, 23, 501, 83, 513, 514, 515, 516, 53, 626, 627, 628, 629, 630, 657, 658, 659, 660, 661, 662] (by decide +kernel) (by decide +kernel)) (goodIn_sub (fun _ h => List.mem_append_right _ h) (by decide +kernel))
set_option maxRecDepth 20000 in
theorem gL_law_L_peeledAt : GoodIn wsL_law (va_wsS RL 108 yL_peeledAt wsL_peeledAt) := goodIn_app (goodIn_of _ (by decide +kernel)) ggL_law_L_peeledAt
set_option maxRecDepth 20000 in
theorem ggL_law_X6_peeledAt : GoodIn wsL_law wsX6_peeledAt := goodIn_r _ [520, 170, 157, 187, 188, 5, 189, 190, 191, 192, 193, 194, 631, 632, 633, 634, 635, 636, 637, 638, 639, 640, 641, 642, 643, 644, 645, 646, 647, 648, 649, 650, 651, 652] (by decide +kernel) (by decide +kernel)
set_option maxRecDepth 20000 in
theorem gL_law_X6_peeledAt : GoodIn wsL_law (wsV RL 110 RX6 yX6_peeledAt wsX6_peeledAt) := goodIn_app (goodIn_of _ (by decide +kernel)) ggL_law_X6_peeledAt
set_option maxRecDepth 20000 in
theorem ggL_law_L_peeledBy : GoodIn wsL_law wsL_peeledBy := goodIn_ca (goodIn_r _ [523, 250, 524, 525, 526, 2, 527, 255, 256, 24, 301, 302, 303, 304, 20, 282, 283, 284, 19, 285, 72, 73, 528, 529, 530, 23, 531, 54, 626, 627, 628, 629, 630, 654, 655, 656, 657, 658, 659, 660, 661, 662] (by decide +kernel) (by decide +kernel)) (goodIn_sub (fun _ h => List.mem_append_right _ h) (by decide +kernel))
set_option maxRecDepth 20000 in
theorem gL_law_L_peeledBy : GoodIn wsL_law (va_wsS RL 111 yL_peeledBy wsL_peeledBy) := goodIn_app (goodIn_of _ (by decide +kernel)) ggL_law_L_peeledBy
set_option maxRecDepth 20000 in
theorem ggL_law_X6_peeledBy : GoodIn wsL_law wsX6_peeledBy := goodIn_r _ [535, 158, 309, 310, 311, 5, 312, 313, 314, 315, 316, 153, 187, 188, 189, 190, 191, 192, 193, 194, 631, 632, 633, 634, 635, 636, 637, 638, 639, 640, 641, 642, 643, 644, 645, 646, 647, 648, 649, 650, 651, 652] (by decide +kernel) (by decide +kernel)
set_option maxRecDepth 20000 in
theorem gL_law_X6_peeledBy : GoodIn wsL_law (wsV RL 113 RX6 yX6_peeledBy wsX6_peeledBy) := goodIn_app (goodIn_of _ (by decide +kernel)) ggL_law_X6_peeledBy
set_option maxRecDepth 20000 in
theorem ggL_law_X5_determined : GoodIn wsL_law wsX5_determined := goodIn_r _ [539, 28, 20, 282, 283, 284, 19, 285, 72, 73, 540, 541, 542, 27, 543, 544, 545, 546, 547, 58, 96, 2, 97, 626, 627, 628, 629, 630, 654, 655, 656, 663, 664, 665] (by decide +kernel) (by decide +kernel)
set_option maxRecDepth 20000 in
theorem gL_law_X5_determined : GoodIn wsL_law (wsV RL 114 RX5 yX5_determined wsX5_determined) := goodIn_app (goodIn_of _ (by decide +kernel)) ggL_law_X5_determined
set_option maxRecDepth 20000 in
theorem ggL_law_X6_determined : GoodIn wsL_law wsX6_determined := goodIn_r _ [551, 552, 553, 554, 5, 555, 153, 159, 290, 291, 292, 293, 194, 631, 632, 633, 634, 635, 636, 637, 638, 639, 640, 641, 642, 643, 644, 645, 646, 647, 648, 649, 650, 651, 652] (by decide +kernel) (by decide +kernel)
set_option maxRecDepth 20000 in
theorem gL_law_X6_determined : GoodIn wsL_law (wsV RL 117 RX6 yX6_determined wsX6_determined) := goodIn_app (goodIn_of _ (by decide +kernel)) ggL_law_X6_determined
set_option maxRecDepth 20000 in
theorem ggL_law_L_isDetermined : GoodIn wsL_law wsL_isDetermined := goodIn_ca (goodIn_r _ [558, 250, 559, 560, 561, 2, 562, 255, 256, 28, 301, 302, 303, 304, 20, 282, 283, 284, 19, 285, 72, 73, 563, 564, 565, 27, 566, 544, 545, 546, 547, 58, 96, 97, 626, 627, 628, 629, 630, 654, 655, 656, 663, 664, 665] (by decide +kernel) (by decide +kernel)) (goodIn_sub (fun _ h => List.mem_append_right _ h) (by decide +kernel))
set_option maxRecDepth 20000 in
theorem gL_law_L_isDetermined : GoodIn wsL_law (va_wsS RL 118 yL_isDetermined wsL_isDetermined) := goodIn_app (goodIn_of _ (by decide +kernel)) ggL_law_L_isDetermined
set_option maxRecDepth 20000 in
theorem ggL_law_X6_isDetermined : GoodIn wsL_law wsX6_isDetermined := goodIn_r _ [570, 309, 310, 311, 5, 312, 313, 314, 315, 316, 153, 187, 188, 189, 190, 191, 192, 193, 194, 571, 572, 573, 574, 159, 631, 632, 633, 634, 635, 636, 637, 638, 639, 640, 641, 642, 643, 644, 645, 646, 647, 648, 649, 650, 651, 652] (by decide +kernel) (by decide +kernel)
set_option maxRecDepth 20000 in
theorem gL_law_X6_isDetermined : GoodIn wsL_law (wsV RL 120 RX6 yX6_isDetermined wsX6_isDetermined) := goodIn_app (goodIn_of _ (by decide +kernel)) ggL_law_X6_isDetermined
set_option maxRecDepth 20000 in
theorem ggL_law_L_recovered : GoodIn wsL_law wsL_recovered := goodIn_ca (goodIn_ca (goodIn_r _ [577, 250, 224, 578, 579, 580, 2, 581, 255, 256, 229, 230, 28, 301, 302, 303, 304, 20, 282, 283, 284, 19, 285, 72, 73, 563, 564, 565, 27, 566, 544, 545, 546, 547, 58, 96, 97, 95, 582, 130, 131, 132, 59, 118, 119, 626, 627, 628, 629, 630, 654, 655, 656, 663, 664, 665] (by decide +kernel) (by decide +kernel)) (goodIn_sub (fun _ h => List.mem_append_right _ h) (by decide +kernel))) (goodIn_sub (fun _ h => List.mem_append_left _ (List.mem_append_right _ h)) (by decide +kernel))
set_option maxRecDepth 20000 in
theorem gL_law_L_recovered : GoodIn wsL_law (va_wsS RL 121 yL_recovered wsL_recovered) := goodIn_app (goodIn_of _ (by decide +kernel)) ggL_law_L_recovered
set_option maxRecDepth 20000 in
theorem ggL_law_X6_recovered : GoodIn wsL_law wsX6_recovered := goodIn_r _ [586, 160, 313, 314, 315, 5, 316, 153, 187, 188, 189, 571, 572, 573, 574, 159, 190, 191, 192, 193, 194, 631, 632, 633, 634, 635, 636, 637, 638, 639, 640, 641, 642, 643, 644, 645, 646, 647, 648, 649, 650, 651, 652] (by decide +kernel) (by decide +kernel)
set_option maxRecDepth 20000 in
theorem gL_law_X6_recovered : GoodIn wsL_law (wsV RL 123 RX6 yX6_recovered wsX6_recovered) := goodIn_app (goodIn_of _ (by decide +kernel)) ggL_law_X6_recovered
set_option maxRecDepth 20000 in
theorem ggL_law_X5_wouldHelp : GoodIn wsL_law wsX5_wouldHelp := goodIn_r _ [590, 28, 325, 326, 327, 2, 328, 32, 16, 20, 282, 283, 284, 19, 285, 72, 73, 329, 330, 331, 31, 332, 333, 334, 335, 336, 337, 338, 339, 63, 340, 236, 237, 15, 238, 43, 341, 342, 343, 344, 345, 346, 347, 348, 349, 350, 351, 352, 353, 354, 355, 356, 357, 358, 96, 97, 398, 399, 400, 401, 591, 115, 116, 27, 117, 58, 118, 119, 95, 626, 627, 628, 629, 630, 654, 655, 656, 666, 667, 668, 669, 653, 663, 664, 665] (by decide +kernel) (by decide +kernel)
set_option maxRecDepth 20000 in
theorem gL_law_X5_wouldHelp : GoodIn wsL_law (wsV RL 124 RX5 yX5_wouldHelp wsX5_wouldHelp) := goodIn_app (goodIn_of _ (by decide +kernel)) ggL_law_X5_wouldHelp
set_option maxRecDepth 20000 in
theorem ggL_law_X6_wouldHelp : GoodIn wsL_law wsX6_wouldHelp := goodIn_r _ [595, 194, 596, 597, 598, 5, 599, 206, 451, 452, 453, 454, 367, 163, 368, 369, 370, 371, 372, 151, 153, 373, 374, 375, 376, 377, 378, 202, 203, 204, 205, 207, 159, 160, 631, 632, 633, 634, 635, 636, 637, 638, 639, 640, 641, 642, 643, 644, 645, 646, 647, 648, 649, 650, 651, 652] (by decide +kernel) (by decide +kernel)
set_option maxRecDepth 20000 in
theorem gL_law_X6_wouldHelp : GoodIn wsL_law (wsV RL 127 RX6 yX6_wouldHelp wsX6_wouldHelp) := goodIn_app (goodIn_of _ (by decide +kernel)) ggL_law_X6_wouldHelp
set_option maxRecDepth 20000 in
theorem ggL_law_X5_wouldDetermine : GoodIn wsL_law wsX5_wouldDetermine := goodIn_r _ [603, 28, 20, 325, 326, 327, 2, 328, 32, 16, 282, 283, 284, 19, 285, 72, 73, 329, 330, 331, 31, 332, 333, 334, 335, 336, 337, 338, 339, 63, 340, 236, 237, 15, 238, 43, 341, 342, 343, 344, 345, 346, 347, 348, 349, 350, 351, 352, 353, 354, 355, 356, 357, 358, 96, 97, 398, 399, 400, 401, 591, 115, 116, 27, 117, 58, 118, 119, 95, 540, 541, 542, 543, 544, 545, 546, 547, 626, 627, 628, 629, 630, 654, 655, 656, 666, 667, 668, 669, 653, 663, 664, 665] (by decide +kernel) (by decide +kernel)
set_option maxRecDepth 20000 in
theorem gL_law_X5_wouldDetermine : GoodIn wsL_law (wsV RL 128 RX5 yX5_wouldDetermine wsX5_wouldDetermine) := goodIn_app (goodIn_of _ (by decide +kernel)) ggL_law_X5_wouldDetermine
set_option maxRecDepth 20000 in
theorem ggL_law_X6_wouldDetermine : GoodIn wsL_law wsX6_wouldDetermine := goodIn_r _ [607, 194, 161, 159, 162, 160, 552, 553, 554, 5, 555, 153, 451, 452, 453, 454, 367, 163, 368, 369, 370, 371, 372, 151, 373, 374, 375, 376, 377, 378, 202, 203, 204, 205, 206, 207, 208, 209, 210, 211, 631, 632, 633, 634, 635, 636, 637, 638, 639, 640, 641, 642, 643, 644, 645, 646, 647, 648, 649, 650, 651, 652] (by decide +kernel) (by decide +kernel)
set_option maxRecDepth 20000 in
theorem gL_law_X6_wouldDetermine : GoodIn wsL_law (wsV RL 131 RX6 yX6_wouldDetermine wsX6_wouldDetermine) := goodIn_app (goodIn_of _ (by decide +kernel)) ggL_law_X6_wouldDetermine
set_option maxRecDepth 20000 in
theorem ggL_law_X5_nextHelpful : GoodIn wsL_law wsX5_nextHelpful := goodIn_r _ [611, 612, 613, 614, 2, 615, 20, 28, 282, 283, 284, 19, 285, 72, 73, 482, 483, 484, 27, 485, 90, 616, 588, 589, 590, 325, 326, 327, 328, 32, 16, 329, 330, 331, 31, 332, 333, 334, 335, 336, 337, 338, 339, 63, 340, 236, 237, 15, 238, 43, 341, 342, 343, 344, 345, 346, 347, 348, 349, 350, 351, 352, 353, 354, 355, 356, 357, 358, 96, 97, 398, 399, 400, 401, 591, 115, 116, 117, 58, 118, 119, 95, 626, 627, 628, 629, 630, 654, 655, 656, 663, 664, 665, 666, 667, 668, 669, 653] (by decide +kernel) (by decide +kernel)
set_option maxRecDepth 20000 in
theorem gL_law_X5_nextHelpful : GoodIn wsL_law (wsV RL 132 RX5 yX5_nextHelpful wsX5_nextHelpful) := goodIn_app (goodIn_of _ (by decide +kernel)) ggL_law_X5_nextHelpful
set_option maxRecDepth 20000 in
theorem ggL_law_X6_nextHelpful : GoodIn wsL_law wsX6_nextHelpful := goodIn_r _ [620, 194, 596, 597, 598, 5, 599, 206, 451, 452, 453, 454, 367, 163, 368, 369, 370, 371, 372, 151, 153, 373, 374, 375, 376, 377, 378, 202, 203, 204, 205, 207, 159, 160, 631, 632, 633, 634, 635, 636, 637, 638, 639, 640, 641, 642, 643, 644, 645, 646, 647, 648, 649, 650, 651, 652] (by decide +kernel) (by decide +kernel)
set_option maxRecDepth 20000 in
theorem gL_law_X6_nextHelpful : GoodIn wsL_law (wsV RL 135 RX6 yX6_nextHelpful wsX6_nextHelpful) := goodIn_app (goodIn_of _ (by decide +kernel)) ggL_law_X6_nextHelpful
set_option maxRecDepth 20000 in
theorem ggL_law_X5_missing : GoodIn wsL_law wsX5_missing := goodIn_r _ [615, 20, 28, 282, 283, 284, 19, 285, 72, 73, 482, 483, 484, 27, 485, 90, 626, 627, 628, 629, 630, 654, 655, 656, 663, 664, 665] (by decide +kernel) (by decide +kernel)
set_option maxRecDepth 20000 in
theorem gL_law_X5_missing : GoodIn wsL_law (wsV RL 136 RX5 yX5_missing wsX5_missing) := goodIn_app (goodIn_of _ (by decide +kernel)) ggL_law_X5_missing
set_option maxRecDepth 20000 in
theorem ggL_law_X6_missing : GoodIn wsL_law wsX6_missing := goodIn_r _ [625, 153, 490, 491, 492, 5, 493, 159, 290, 291, 292, 293, 194, 631, 632, 633, 634, 635, 636, 637, 638, 639, 640, 641, 642, 643, 644, 645, 646, 647, 648, 649, 650, 651, 652] (by decide +kernel) (by decide +kernel)
set_option maxRecDepth 20000 in
theorem gL_law_X6_missing : GoodIn wsL_law (wsV RL 139 RX6 yX6_missing wsX6_missing) := goodIn_app (goodIn_of _ (by decide +kernel)) ggL_law_X6_missing
theorem dL_law_0 : decode cL_law 0 = .ok (.new 8, 3) := by decide +kernel
theorem dL_law_3 : decode cL_law 3 = .ok (.dup, 1) := by decide +kernel
theorem dL_law_4 : decode cL_law 4 = .ok (.invokespecial 51, 3) := by decide +kernel
theorem dL_law_7 : decode cL_law 7 = .ok (.astore_n 1, 1) := by decide +kernel
theorem dL_law_8 : decode cL_law 8 = .ok (.new 52, 3) := by decide +kernel
theorem dL_law_11 : decode cL_law 11 = .ok (.dup, 1) := by decide +kernel
theorem dL_law_12 : decode cL_law 12 = .ok (.invokespecial 54, 3) := by decide +kernel
theorem dL_law_15 : decode cL_law 15 = .ok (.astore_n 2, 1) := by decide +kernel
theorem dL_law_16 : decode cL_law 16 = .ok (.iconst 1, 1) := by decide +kernel
theorem dL_law_17 : decode cL_law 17 = .ok (.newarray .long, 2) := by decide +kernel
theorem dL_law_19 : decode cL_law 19 = .ok (.astore_n 3, 1) := by decide +kernel
theorem dL_law_20 : decode cL_law 20 = .ok (.iconst 0, 1) := by decide +kernel
theorem dL_law_21 : decode cL_law 21 = .ok (.istore 4, 2) := by decide +kernel
theorem dL_law_23 : decode cL_law 23 = .ok (.iload 4, 2) := by decide +kernel
theorem dL_law_25 : decode cL_law 25 = .ok (.aload_n 0, 1) := by decide +kernel
theorem dL_law_26 : decode cL_law 26 = .ok (.arraylength, 1) := by decide +kernel
theorem dL_law_27 : decode cL_law 27 = .ok (.iconst 3, 1) := by decide +kernel
theorem dL_law_28 : decode cL_law 28 = .ok (.isub, 1) := by decide +kernel
theorem dL_law_29 : decode cL_law 29 = .ok (.if_icmp .gt 1015, 3) := by decide +kernel
theorem dL_law_32 : decode cL_law 32 = .ok (.aload_n 0, 1) := by decide +kernel
theorem dL_law_33 : decode cL_law 33 = .ok (.iload 4, 2) := by decide +kernel
theorem dL_law_35 : decode cL_law 35 = .ok (.iaload, 1) := by decide +kernel
theorem dL_law_36 : decode cL_law 36 = .ok (.bipush 31, 2) := by decide +kernel
theorem dL_law_38 : decode cL_law 38 = .ok (.iand, 1) := by decide +kernel
theorem dL_law_39 : decode cL_law 39 = .ok (.tableswitch 999 0 21 #[101, 169, 237, 305, 318, 374, 399, 467, 492, 560, 628, 641, 654, 667, 723, 779, 792, 855, 911, 936, 961, 986], 101) := by decide +kernel
theorem dL_law_140 : decode cL_law 140 = .ok (.aload_n 1, 1) := by decide +kernel
theorem dL_law_141 : decode cL_law 141 = .ok (.aload_n 0, 1) := by decide +kernel
theorem dL_law_142 : decode cL_law 142 = .ok (.iload 4, 2) := by decide +kernel
theorem dL_law_144 : decode cL_law 144 = .ok (.iconst 1, 1) := by decide +kernel
theorem dL_law_145 : decode cL_law 145 = .ok (.iadd, 1) := by decide +kernel
theorem dL_law_146 : decode cL_law 146 = .ok (.iaload, 1) := by decide +kernel
theorem dL_law_147 : decode cL_law 147 = .ok (.aload_n 0, 1) := by decide +kernel
theorem dL_law_148 : decode cL_law 148 = .ok (.iload 4, 2) := by decide +kernel
theorem dL_law_150 : decode cL_law 150 = .ok (.iconst 2, 1) := by decide +kernel
theorem dL_law_151 : decode cL_law 151 = .ok (.iadd, 1) := by decide +kernel
theorem dL_law_152 : decode cL_law 152 = .ok (.iaload, 1) := by decide +kernel
theorem dL_law_153 : decode cL_law 153 = .ok (.aload_n 3, 1) := by decide +kernel
theorem dL_law_154 : decode cL_law 154 = .ok (.invokestatic 55, 3) := by decide +kernel
theorem dL_law_157 : decode cL_law 157 = .ok (.istore 5, 2) := by decide +kernel
theorem dL_law_159 : decode cL_law 159 = .ok (.aload_n 2, 1) := by decide +kernel
theorem dL_law_160 : decode cL_law 160 = .ok (.aload_n 0, 1) := by decide +kernel
theorem dL_law_161 : decode cL_law 161 = .ok (.iload 4, 2) := by decide +kernel
theorem dL_law_163 : decode cL_law 163 = .ok (.iconst 1, 1) := by decide +kernel
theorem dL_law_164 : decode cL_law 164 = .ok (.iadd, 1) := by decide +kernel
theorem dL_law_165 : decode cL_law 165 = .ok (.iaload, 1) := by decide +kernel
theorem dL_law_166 : decode cL_law 166 = .ok (.aload_n 0, 1) := by decide +kernel
theorem dL_law_167 : decode cL_law 167 = .ok (.iload 4, 2) := by decide +kernel
theorem dL_law_169 : decode cL_law 169 = .ok (.iconst 2, 1) := by decide +kernel
theorem dL_law_170 : decode cL_law 170 = .ok (.iadd, 1) := by decide +kernel
theorem dL_law_171 : decode cL_law 171 = .ok (.iaload, 1) := by decide +kernel
theorem dL_law_172 : decode cL_law 172 = .ok (.invokevirtual 60, 3) := by decide +kernel
theorem dL_law_175 : decode cL_law 175 = .ok (.istore 6, 2) := by decide +kernel
theorem dL_law_177 : decode cL_law 177 = .ok (.aload_n 2, 1) := by decide +kernel
theorem dL_law_178 : decode cL_law 178 = .ok (.invokevirtual 61, 3) := by decide +kernel
theorem dL_law_181 : decode cL_law 181 = .ok (.iload 5, 2) := by decide +kernel
theorem dL_law_183 : decode cL_law 183 = .ok (.if_icmp .eq 5, 3) := by decide +kernel
theorem dL_law_186 : decode cL_law 186 = .ok (.iconst 0, 1) := by decide +kernel
theorem dL_law_187 : decode cL_law 187 = .ok (.ireturn, 1) := by decide +kernel
theorem dL_law_188 : decode cL_law 188 = .ok (.iload 5, 2) := by decide +kernel
theorem dL_law_190 : decode cL_law 190 = .ok (.ifCond .ne 15, 3) := by decide +kernel
theorem dL_law_193 : decode cL_law 193 = .ok (.aload_n 3, 1) := by decide +kernel
theorem dL_law_194 : decode cL_law 194 = .ok (.iconst 0, 1) := by decide +kernel
theorem dL_law_195 : decode cL_law 195 = .ok (.laload, 1) := by decide +kernel
theorem dL_law_196 : decode cL_law 196 = .ok (.iload 6, 2) := by decide +kernel
theorem dL_law_198 : decode cL_law 198 = .ok (.i2l, 1) := by decide +kernel
theorem dL_law_199 : decode cL_law 199 = .ok (.lcmp, 1) := by decide +kernel
theorem dL_law_200 : decode cL_law 200 = .ok (.ifCond .eq 5, 3) := by decide +kernel
theorem dL_law_203 : decode cL_law 203 = .ok (.iconst 0, 1) := by decide +kernel
theorem dL_law_204 : decode cL_law 204 = .ok (.ireturn, 1) := by decide +kernel
theorem dL_law_205 : decode cL_law 205 = .ok (.goto 833, 3) := by decide +kernel
theorem dL_law_208 : decode cL_law 208 = .ok (.aload_n 1, 1) := by decide +kernel
theorem dL_law_209 : decode cL_law 209 = .ok (.aload_n 0, 1) := by decide +kernel
theorem dL_law_210 : decode cL_law 210 = .ok (.iload 4, 2) := by decide +kernel
theorem dL_law_212 : decode cL_law 212 = .ok (.iconst 1, 1) := by decide +kernel
theorem dL_law_213 : decode cL_law 213 = .ok (.iadd, 1) := by decide +kernel
theorem dL_law_214 : decode cL_law 214 = .ok (.iaload, 1) := by decide +kernel
theorem dL_law_215 : decode cL_law 215 = .ok (.aload_n 0, 1) := by decide +kernel
theorem dL_law_216 : decode cL_law 216 = .ok (.iload 4, 2) := by decide +kernel
theorem dL_law_218 : decode cL_law 218 = .ok (.iconst 2, 1) := by decide +kernel
theorem dL_law_219 : decode cL_law 219 = .ok (.iadd, 1) := by decide +kernel
theorem dL_law_220 : decode cL_law 220 = .ok (.iaload, 1) := by decide +kernel
theorem dL_law_221 : decode cL_law 221 = .ok (.aload_n 3, 1) := by decide +kernel
theorem dL_law_222 : decode cL_law 222 = .ok (.invokestatic 65, 3) := by decide +kernel
theorem dL_law_225 : decode cL_law 225 = .ok (.istore 5, 2) := by decide +kernel
theorem dL_law_227 : decode cL_law 227 = .ok (.aload_n 2, 1) := by decide +kernel
theorem dL_law_228 : decode cL_law 228 = .ok (.aload_n 0, 1) := by decide +kernel
theorem dL_law_229 : decode cL_law 229 = .ok (.iload 4, 2) := by decide +kernel
theorem dL_law_231 : decode cL_law 231 = .ok (.iconst 1, 1) := by decide +kernel
theorem dL_law_232 : decode cL_law 232 = .ok (.iadd, 1) := by decide +kernel
theorem dL_law_233 : decode cL_law 233 = .ok (.iaload, 1) := by decide +kernel
theorem dL_law_234 : decode cL_law 234 = .ok (.aload_n 0, 1) := by decide +kernel
theorem dL_law_235 : decode cL_law 235 = .ok (.iload 4, 2) := by decide +kernel
theorem dL_law_237 : decode cL_law 237 = .ok (.iconst 2, 1) := by decide +kernel
theorem dL_law_238 : decode cL_law 238 = .ok (.iadd, 1) := by decide +kernel
theorem dL_law_239 : decode cL_law 239 = .ok (.iaload, 1) := by decide +kernel
theorem dL_law_240 : decode cL_law 240 = .ok (.invokevirtual 67, 3) := by decide +kernel
theorem dL_law_243 : decode cL_law 243 = .ok (.istore 6, 2) := by decide +kernel
theorem dL_law_245 : decode cL_law 245 = .ok (.aload_n 2, 1) := by decide +kernel
theorem dL_law_246 : decode cL_law 246 = .ok (.invokevirtual 61, 3) := by decide +kernel
theorem dL_law_249 : decode cL_law 249 = .ok (.iload 5, 2) := by decide +kernel
theorem dL_law_251 : decode cL_law 251 = .ok (.if_icmp .eq 5, 3) := by decide +kernel
theorem dL_law_254 : decode cL_law 254 = .ok (.iconst 0, 1) := by decide +kernel
theorem dL_law_255 : decode cL_law 255 = .ok (.ireturn, 1) := by decide +kernel
theorem dL_law_256 : decode cL_law 256 = .ok (.iload 5, 2) := by decide +kernel
theorem dL_law_258 : decode cL_law 258 = .ok (.ifCond .ne 15, 3) := by decide +kernel
theorem dL_law_261 : decode cL_law 261 = .ok (.aload_n 3, 1) := by decide +kernel
theorem dL_law_262 : decode cL_law 262 = .ok (.iconst 0, 1) := by decide +kernel
theorem dL_law_263 : decode cL_law 263 = .ok (.laload, 1) := by decide +kernel
theorem dL_law_264 : decode cL_law 264 = .ok (.iload 6, 2) := by decide +kernel
theorem dL_law_266 : decode cL_law 266 = .ok (.i2l, 1) := by decide +kernel
theorem dL_law_267 : decode cL_law 267 = .ok (.lcmp, 1) := by decide +kernel
theorem dL_law_268 : decode cL_law 268 = .ok (.ifCond .eq 5, 3) := by decide +kernel
theorem dL_law_271 : decode cL_law 271 = .ok (.iconst 0, 1) := by decide +kernel
theorem dL_law_272 : decode cL_law 272 = .ok (.ireturn, 1) := by decide +kernel
theorem dL_law_273 : decode cL_law 273 = .ok (.goto 765, 3) := by decide +kernel
theorem dL_law_276 : decode cL_law 276 = .ok (.aload_n 1, 1) := by decide +kernel
theorem dL_law_277 : decode cL_law 277 = .ok (.aload_n 0, 1) := by decide +kernel
theorem dL_law_278 : decode cL_law 278 = .ok (.iload 4, 2) := by decide +kernel
theorem dL_law_280 : decode cL_law 280 = .ok (.iconst 1, 1) := by decide +kernel
theorem dL_law_281 : decode cL_law 281 = .ok (.iadd, 1) := by decide +kernel
theorem dL_law_282 : decode cL_law 282 = .ok (.iaload, 1) := by decide +kernel
theorem dL_law_283 : decode cL_law 283 = .ok (.aload_n 0, 1) := by decide +kernel
theorem dL_law_284 : decode cL_law 284 = .ok (.iload 4, 2) := by decide +kernel
theorem dL_law_286 : decode cL_law 286 = .ok (.iconst 2, 1) := by decide +kernel
theorem dL_law_287 : decode cL_law 287 = .ok (.iadd, 1) := by decide +kernel
theorem dL_law_288 : decode cL_law 288 = .ok (.iaload, 1) := by decide +kernel
theorem dL_law_289 : decode cL_law 289 = .ok (.aload_n 3, 1) := by decide +kernel
theorem dL_law_290 : decode cL_law 290 = .ok (.invokestatic 68, 3) := by decide +kernel
theorem dL_law_293 : decode cL_law 293 = .ok (.istore 5, 2) := by decide +kernel
theorem dL_law_295 : decode cL_law 295 = .ok (.aload_n 2, 1) := by decide +kernel
theorem dL_law_296 : decode cL_law 296 = .ok (.aload_n 0, 1) := by decide +kernel
theorem dL_law_297 : decode cL_law 297 = .ok (.iload 4, 2) := by decide +kernel
theorem dL_law_299 : decode cL_law 299 = .ok (.iconst 1, 1) := by decide +kernel
theorem dL_law_300 : decode cL_law 300 = .ok (.iadd, 1) := by decide +kernel
theorem dL_law_301 : decode cL_law 301 = .ok (.iaload, 1) := by decide +kernel
theorem dL_law_302 : decode cL_law 302 = .ok (.aload_n 0, 1) := by decide +kernel
theorem dL_law_303 : decode cL_law 303 = .ok (.iload 4, 2) := by decide +kernel
theorem dL_law_305 : decode cL_law 305 = .ok (.iconst 2, 1) := by decide +kernel
theorem dL_law_306 : decode cL_law 306 = .ok (.iadd, 1) := by decide +kernel
theorem dL_law_307 : decode cL_law 307 = .ok (.iaload, 1) := by decide +kernel
theorem dL_law_308 : decode cL_law 308 = .ok (.invokevirtual 70, 3) := by decide +kernel
theorem dL_law_311 : decode cL_law 311 = .ok (.istore 6, 2) := by decide +kernel
theorem dL_law_313 : decode cL_law 313 = .ok (.aload_n 2, 1) := by decide +kernel
theorem dL_law_314 : decode cL_law 314 = .ok (.invokevirtual 61, 3) := by decide +kernel
theorem dL_law_317 : decode cL_law 317 = .ok (.iload 5, 2) := by decide +kernel
theorem dL_law_319 : decode cL_law 319 = .ok (.if_icmp .eq 5, 3) := by decide +kernel
theorem dL_law_322 : decode cL_law 322 = .ok (.iconst 0, 1) := by decide +kernel
theorem dL_law_323 : decode cL_law 323 = .ok (.ireturn, 1) := by decide +kernel
theorem dL_law_324 : decode cL_law 324 = .ok (.iload 5, 2) := by decide +kernel
theorem dL_law_326 : decode cL_law 326 = .ok (.ifCond .ne 15, 3) := by decide +kernel
theorem dL_law_329 : decode cL_law 329 = .ok (.aload_n 3, 1) := by decide +kernel
theorem dL_law_330 : decode cL_law 330 = .ok (.iconst 0, 1) := by decide +kernel
theorem dL_law_331 : decode cL_law 331 = .ok (.laload, 1) := by decide +kernel
theorem dL_law_332 : decode cL_law 332 = .ok (.iload 6, 2) := by decide +kernel
theorem dL_law_334 : decode cL_law 334 = .ok (.i2l, 1) := by decide +kernel
theorem dL_law_335 : decode cL_law 335 = .ok (.lcmp, 1) := by decide +kernel
theorem dL_law_336 : decode cL_law 336 = .ok (.ifCond .eq 5, 3) := by decide +kernel
theorem dL_law_339 : decode cL_law 339 = .ok (.iconst 0, 1) := by decide +kernel
theorem dL_law_340 : decode cL_law 340 = .ok (.ireturn, 1) := by decide +kernel
theorem dL_law_341 : decode cL_law 341 = .ok (.goto 697, 3) := by decide +kernel
theorem dL_law_344 : decode cL_law 344 = .ok (.aload_n 1, 1) := by decide +kernel
theorem dL_law_345 : decode cL_law 345 = .ok (.invokevirtual 71, 3) := by decide +kernel
theorem dL_law_348 : decode cL_law 348 = .ok (.aload_n 2, 1) := by decide +kernel
theorem dL_law_349 : decode cL_law 349 = .ok (.invokevirtual 74, 3) := by decide +kernel
theorem dL_law_352 : decode cL_law 352 = .ok (.if_icmp .eq 686, 3) := by decide +kernel
theorem dL_law_355 : decode cL_law 355 = .ok (.iconst 0, 1) := by decide +kernel
theorem dL_law_356 : decode cL_law 356 = .ok (.ireturn, 1) := by decide +kernel
theorem dL_law_357 : decode cL_law 357 = .ok (.aload_n 1, 1) := by decide +kernel
theorem dL_law_358 : decode cL_law 358 = .ok (.aload_n 0, 1) := by decide +kernel
theorem dL_law_359 : decode cL_law 359 = .ok (.iload 4, 2) := by decide +kernel
theorem dL_law_361 : decode cL_law 361 = .ok (.iconst 1, 1) := by decide +kernel
theorem dL_law_362 : decode cL_law 362 = .ok (.iadd, 1) := by decide +kernel
theorem dL_law_363 : decode cL_law 363 = .ok (.iaload, 1) := by decide +kernel
theorem dL_law_364 : decode cL_law 364 = .ok (.aload_n 3, 1) := by decide +kernel
theorem dL_law_365 : decode cL_law 365 = .ok (.invokestatic 75, 3) := by decide +kernel
theorem dL_law_368 : decode cL_law 368 = .ok (.istore 5, 2) := by decide +kernel
theorem dL_law_370 : decode cL_law 370 = .ok (.aload_n 2, 1) := by decide +kernel
theorem dL_law_371 : decode cL_law 371 = .ok (.aload_n 0, 1) := by decide +kernel
theorem dL_law_372 : decode cL_law 372 = .ok (.iload 4, 2) := by decide +kernel
theorem dL_law_374 : decode cL_law 374 = .ok (.iconst 1, 1) := by decide +kernel
theorem dL_law_375 : decode cL_law 375 = .ok (.iadd, 1) := by decide +kernel
theorem dL_law_376 : decode cL_law 376 = .ok (.iaload, 1) := by decide +kernel
theorem dL_law_377 : decode cL_law 377 = .ok (.invokevirtual 78, 3) := by decide +kernel
theorem dL_law_380 : decode cL_law 380 = .ok (.istore 6, 2) := by decide +kernel
theorem dL_law_382 : decode cL_law 382 = .ok (.aload_n 2, 1) := by decide +kernel
theorem dL_law_383 : decode cL_law 383 = .ok (.invokevirtual 61, 3) := by decide +kernel
theorem dL_law_386 : decode cL_law 386 = .ok (.iload 5, 2) := by decide +kernel
theorem dL_law_388 : decode cL_law 388 = .ok (.if_icmp .eq 5, 3) := by decide +kernel
theorem dL_law_391 : decode cL_law 391 = .ok (.iconst 0, 1) := by decide +kernel
theorem dL_law_392 : decode cL_law 392 = .ok (.ireturn, 1) := by decide +kernel
theorem dL_law_393 : decode cL_law 393 = .ok (.iload 5, 2) := by decide +kernel
theorem dL_law_395 : decode cL_law 395 = .ok (.ifCond .ne 15, 3) := by decide +kernel
theorem dL_law_398 : decode cL_law 398 = .ok (.aload_n 3, 1) := by decide +kernel
theorem dL_law_399 : decode cL_law 399 = .ok (.iconst 0, 1) := by decide +kernel
theorem dL_law_400 : decode cL_law 400 = .ok (.laload, 1) := by decide +kernel
theorem dL_law_401 : decode cL_law 401 = .ok (.iload 6, 2) := by decide +kernel
theorem dL_law_403 : decode cL_law 403 = .ok (.i2l, 1) := by decide +kernel
theorem dL_law_404 : decode cL_law 404 = .ok (.lcmp, 1) := by decide +kernel
theorem dL_law_405 : decode cL_law 405 = .ok (.ifCond .eq 5, 3) := by decide +kernel
theorem dL_law_408 : decode cL_law 408 = .ok (.iconst 0, 1) := by decide +kernel
theorem dL_law_409 : decode cL_law 409 = .ok (.ireturn, 1) := by decide +kernel
theorem dL_law_410 : decode cL_law 410 = .ok (.goto 628, 3) := by decide +kernel
theorem dL_law_413 : decode cL_law 413 = .ok (.aload_n 1, 1) := by decide +kernel
theorem dL_law_414 : decode cL_law 414 = .ok (.aload_n 0, 1) := by decide +kernel
theorem dL_law_415 : decode cL_law 415 = .ok (.iload 4, 2) := by decide +kernel
theorem dL_law_417 : decode cL_law 417 = .ok (.iconst 1, 1) := by decide +kernel
theorem dL_law_418 : decode cL_law 418 = .ok (.iadd, 1) := by decide +kernel
theorem dL_law_419 : decode cL_law 419 = .ok (.iaload, 1) := by decide +kernel
theorem dL_law_420 : decode cL_law 420 = .ok (.invokevirtual 79, 3) := by decide +kernel
theorem dL_law_423 : decode cL_law 423 = .ok (.aload_n 2, 1) := by decide +kernel
theorem dL_law_424 : decode cL_law 424 = .ok (.aload_n 0, 1) := by decide +kernel
theorem dL_law_425 : decode cL_law 425 = .ok (.iload 4, 2) := by decide +kernel
theorem dL_law_427 : decode cL_law 427 = .ok (.iconst 1, 1) := by decide +kernel
theorem dL_law_428 : decode cL_law 428 = .ok (.iadd, 1) := by decide +kernel
theorem dL_law_429 : decode cL_law 429 = .ok (.iaload, 1) := by decide +kernel
theorem dL_law_430 : decode cL_law 430 = .ok (.invokevirtual 82, 3) := by decide +kernel
theorem dL_law_433 : decode cL_law 433 = .ok (.if_icmp .eq 605, 3) := by decide +kernel
theorem dL_law_436 : decode cL_law 436 = .ok (.iconst 0, 1) := by decide +kernel
theorem dL_law_437 : decode cL_law 437 = .ok (.ireturn, 1) := by decide +kernel
theorem dL_law_438 : decode cL_law 438 = .ok (.aload_n 1, 1) := by decide +kernel
theorem dL_law_439 : decode cL_law 439 = .ok (.aload_n 0, 1) := by decide +kernel
theorem dL_law_440 : decode cL_law 440 = .ok (.iload 4, 2) := by decide +kernel
theorem dL_law_442 : decode cL_law 442 = .ok (.iconst 1, 1) := by decide +kernel
theorem dL_law_443 : decode cL_law 443 = .ok (.iadd, 1) := by decide +kernel
theorem dL_law_444 : decode cL_law 444 = .ok (.iaload, 1) := by decide +kernel
theorem dL_law_445 : decode cL_law 445 = .ok (.aload_n 0, 1) := by decide +kernel
theorem dL_law_446 : decode cL_law 446 = .ok (.iload 4, 2) := by decide +kernel
theorem dL_law_448 : decode cL_law 448 = .ok (.iconst 2, 1) := by decide +kernel
theorem dL_law_449 : decode cL_law 449 = .ok (.iadd, 1) := by decide +kernel
theorem dL_law_450 : decode cL_law 450 = .ok (.iaload, 1) := by decide +kernel
theorem dL_law_451 : decode cL_law 451 = .ok (.aload_n 3, 1) := by decide +kernel
theorem dL_law_452 : decode cL_law 452 = .ok (.invokestatic 83, 3) := by decide +kernel
theorem dL_law_455 : decode cL_law 455 = .ok (.istore 5, 2) := by decide +kernel
theorem dL_law_457 : decode cL_law 457 = .ok (.aload_n 2, 1) := by decide +kernel
theorem dL_law_458 : decode cL_law 458 = .ok (.aload_n 0, 1) := by decide +kernel
theorem dL_law_459 : decode cL_law 459 = .ok (.iload 4, 2) := by decide +kernel
theorem dL_law_461 : decode cL_law 461 = .ok (.iconst 1, 1) := by decide +kernel
theorem dL_law_462 : decode cL_law 462 = .ok (.iadd, 1) := by decide +kernel
theorem dL_law_463 : decode cL_law 463 = .ok (.iaload, 1) := by decide +kernel
theorem dL_law_464 : decode cL_law 464 = .ok (.aload_n 0, 1) := by decide +kernel
theorem dL_law_465 : decode cL_law 465 = .ok (.iload 4, 2) := by decide +kernel
theorem dL_law_467 : decode cL_law 467 = .ok (.iconst 2, 1) := by decide +kernel
theorem dL_law_468 : decode cL_law 468 = .ok (.iadd, 1) := by decide +kernel
theorem dL_law_469 : decode cL_law 469 = .ok (.iaload, 1) := by decide +kernel
theorem dL_law_470 : decode cL_law 470 = .ok (.invokevirtual 85, 3) := by decide +kernel
theorem dL_law_473 : decode cL_law 473 = .ok (.istore 6, 2) := by decide +kernel
theorem dL_law_475 : decode cL_law 475 = .ok (.aload_n 2, 1) := by decide +kernel
theorem dL_law_476 : decode cL_law 476 = .ok (.invokevirtual 61, 3) := by decide +kernel
theorem dL_law_479 : decode cL_law 479 = .ok (.iload 5, 2) := by decide +kernel
theorem dL_law_481 : decode cL_law 481 = .ok (.if_icmp .eq 5, 3) := by decide +kernel
theorem dL_law_484 : decode cL_law 484 = .ok (.iconst 0, 1) := by decide +kernel
theorem dL_law_485 : decode cL_law 485 = .ok (.ireturn, 1) := by decide +kernel
theorem dL_law_486 : decode cL_law 486 = .ok (.iload 5, 2) := by decide +kernel
theorem dL_law_488 : decode cL_law 488 = .ok (.ifCond .ne 15, 3) := by decide +kernel
theorem dL_law_491 : decode cL_law 491 = .ok (.aload_n 3, 1) := by decide +kernel
theorem dL_law_492 : decode cL_law 492 = .ok (.iconst 0, 1) := by decide +kernel
theorem dL_law_493 : decode cL_law 493 = .ok (.laload, 1) := by decide +kernel
theorem dL_law_494 : decode cL_law 494 = .ok (.iload 6, 2) := by decide +kernel
theorem dL_law_496 : decode cL_law 496 = .ok (.i2l, 1) := by decide +kernel
theorem dL_law_497 : decode cL_law 497 = .ok (.lcmp, 1) := by decide +kernel
theorem dL_law_498 : decode cL_law 498 = .ok (.ifCond .eq 5, 3) := by decide +kernel
theorem dL_law_501 : decode cL_law 501 = .ok (.iconst 0, 1) := by decide +kernel
theorem dL_law_502 : decode cL_law 502 = .ok (.ireturn, 1) := by decide +kernel
theorem dL_law_503 : decode cL_law 503 = .ok (.goto 535, 3) := by decide +kernel
theorem dL_law_506 : decode cL_law 506 = .ok (.aload_n 1, 1) := by decide +kernel
theorem dL_law_507 : decode cL_law 507 = .ok (.aload_n 0, 1) := by decide +kernel
theorem dL_law_508 : decode cL_law 508 = .ok (.iload 4, 2) := by decide +kernel
theorem dL_law_510 : decode cL_law 510 = .ok (.iconst 1, 1) := by decide +kernel
theorem dL_law_511 : decode cL_law 511 = .ok (.iadd, 1) := by decide +kernel
theorem dL_law_512 : decode cL_law 512 = .ok (.iaload, 1) := by decide +kernel
theorem dL_law_513 : decode cL_law 513 = .ok (.invokevirtual 86, 3) := by decide +kernel
theorem dL_law_516 : decode cL_law 516 = .ok (.aload_n 2, 1) := by decide +kernel
theorem dL_law_517 : decode cL_law 517 = .ok (.aload_n 0, 1) := by decide +kernel
theorem dL_law_518 : decode cL_law 518 = .ok (.iload 4, 2) := by decide +kernel
theorem dL_law_520 : decode cL_law 520 = .ok (.iconst 1, 1) := by decide +kernel
theorem dL_law_521 : decode cL_law 521 = .ok (.iadd, 1) := by decide +kernel
theorem dL_law_522 : decode cL_law 522 = .ok (.iaload, 1) := by decide +kernel
theorem dL_law_523 : decode cL_law 523 = .ok (.invokevirtual 89, 3) := by decide +kernel
theorem dL_law_526 : decode cL_law 526 = .ok (.if_icmp .eq 512, 3) := by decide +kernel
theorem dL_law_529 : decode cL_law 529 = .ok (.iconst 0, 1) := by decide +kernel
theorem dL_law_530 : decode cL_law 530 = .ok (.ireturn, 1) := by decide +kernel
theorem dL_law_531 : decode cL_law 531 = .ok (.aload_n 1, 1) := by decide +kernel
theorem dL_law_532 : decode cL_law 532 = .ok (.aload_n 0, 1) := by decide +kernel
theorem dL_law_533 : decode cL_law 533 = .ok (.iload 4, 2) := by decide +kernel
theorem dL_law_535 : decode cL_law 535 = .ok (.iconst 1, 1) := by decide +kernel
theorem dL_law_536 : decode cL_law 536 = .ok (.iadd, 1) := by decide +kernel
theorem dL_law_537 : decode cL_law 537 = .ok (.iaload, 1) := by decide +kernel
theorem dL_law_538 : decode cL_law 538 = .ok (.aload_n 0, 1) := by decide +kernel
theorem dL_law_539 : decode cL_law 539 = .ok (.iload 4, 2) := by decide +kernel
theorem dL_law_541 : decode cL_law 541 = .ok (.iconst 2, 1) := by decide +kernel
theorem dL_law_542 : decode cL_law 542 = .ok (.iadd, 1) := by decide +kernel
theorem dL_law_543 : decode cL_law 543 = .ok (.iaload, 1) := by decide +kernel
theorem dL_law_544 : decode cL_law 544 = .ok (.aload_n 3, 1) := by decide +kernel
theorem dL_law_545 : decode cL_law 545 = .ok (.invokestatic 90, 3) := by decide +kernel
theorem dL_law_548 : decode cL_law 548 = .ok (.istore 5, 2) := by decide +kernel
theorem dL_law_550 : decode cL_law 550 = .ok (.aload_n 2, 1) := by decide +kernel
theorem dL_law_551 : decode cL_law 551 = .ok (.aload_n 0, 1) := by decide +kernel
theorem dL_law_552 : decode cL_law 552 = .ok (.iload 4, 2) := by decide +kernel
theorem dL_law_554 : decode cL_law 554 = .ok (.iconst 1, 1) := by decide +kernel
theorem dL_law_555 : decode cL_law 555 = .ok (.iadd, 1) := by decide +kernel
theorem dL_law_556 : decode cL_law 556 = .ok (.iaload, 1) := by decide +kernel
theorem dL_law_557 : decode cL_law 557 = .ok (.aload_n 0, 1) := by decide +kernel
theorem dL_law_558 : decode cL_law 558 = .ok (.iload 4, 2) := by decide +kernel
theorem dL_law_560 : decode cL_law 560 = .ok (.iconst 2, 1) := by decide +kernel
theorem dL_law_561 : decode cL_law 561 = .ok (.iadd, 1) := by decide +kernel
theorem dL_law_562 : decode cL_law 562 = .ok (.iaload, 1) := by decide +kernel
theorem dL_law_563 : decode cL_law 563 = .ok (.invokevirtual 92, 3) := by decide +kernel
theorem dL_law_566 : decode cL_law 566 = .ok (.istore 6, 2) := by decide +kernel
theorem dL_law_568 : decode cL_law 568 = .ok (.aload_n 2, 1) := by decide +kernel
theorem dL_law_569 : decode cL_law 569 = .ok (.invokevirtual 61, 3) := by decide +kernel
theorem dL_law_572 : decode cL_law 572 = .ok (.iload 5, 2) := by decide +kernel
theorem dL_law_574 : decode cL_law 574 = .ok (.if_icmp .eq 5, 3) := by decide +kernel
theorem dL_law_577 : decode cL_law 577 = .ok (.iconst 0, 1) := by decide +kernel
theorem dL_law_578 : decode cL_law 578 = .ok (.ireturn, 1) := by decide +kernel
theorem dL_law_579 : decode cL_law 579 = .ok (.iload 5, 2) := by decide +kernel
theorem dL_law_581 : decode cL_law 581 = .ok (.ifCond .ne 15, 3) := by decide +kernel
theorem dL_law_584 : decode cL_law 584 = .ok (.aload_n 3, 1) := by decide +kernel
theorem dL_law_585 : decode cL_law 585 = .ok (.iconst 0, 1) := by decide +kernel
theorem dL_law_586 : decode cL_law 586 = .ok (.laload, 1) := by decide +kernel
theorem dL_law_587 : decode cL_law 587 = .ok (.iload 6, 2) := by decide +kernel
theorem dL_law_589 : decode cL_law 589 = .ok (.i2l, 1) := by decide +kernel
theorem dL_law_590 : decode cL_law 590 = .ok (.lcmp, 1) := by decide +kernel
theorem dL_law_591 : decode cL_law 591 = .ok (.ifCond .eq 5, 3) := by decide +kernel
theorem dL_law_594 : decode cL_law 594 = .ok (.iconst 0, 1) := by decide +kernel
theorem dL_law_595 : decode cL_law 595 = .ok (.ireturn, 1) := by decide +kernel
theorem dL_law_596 : decode cL_law 596 = .ok (.goto 442, 3) := by decide +kernel
theorem dL_law_599 : decode cL_law 599 = .ok (.aload_n 1, 1) := by decide +kernel
theorem dL_law_600 : decode cL_law 600 = .ok (.aload_n 0, 1) := by decide +kernel
theorem dL_law_601 : decode cL_law 601 = .ok (.iload 4, 2) := by decide +kernel
theorem dL_law_603 : decode cL_law 603 = .ok (.iconst 1, 1) := by decide +kernel
theorem dL_law_604 : decode cL_law 604 = .ok (.iadd, 1) := by decide +kernel
theorem dL_law_605 : decode cL_law 605 = .ok (.iaload, 1) := by decide +kernel
theorem dL_law_606 : decode cL_law 606 = .ok (.aload_n 0, 1) := by decide +kernel
theorem dL_law_607 : decode cL_law 607 = .ok (.iload 4, 2) := by decide +kernel
theorem dL_law_609 : decode cL_law 609 = .ok (.iconst 2, 1) := by decide +kernel
theorem dL_law_610 : decode cL_law 610 = .ok (.iadd, 1) := by decide +kernel
theorem dL_law_611 : decode cL_law 611 = .ok (.iaload, 1) := by decide +kernel
theorem dL_law_612 : decode cL_law 612 = .ok (.aload_n 3, 1) := by decide +kernel
theorem dL_law_613 : decode cL_law 613 = .ok (.invokestatic 93, 3) := by decide +kernel
theorem dL_law_616 : decode cL_law 616 = .ok (.istore 5, 2) := by decide +kernel
theorem dL_law_618 : decode cL_law 618 = .ok (.aload_n 2, 1) := by decide +kernel
theorem dL_law_619 : decode cL_law 619 = .ok (.aload_n 0, 1) := by decide +kernel
theorem dL_law_620 : decode cL_law 620 = .ok (.iload 4, 2) := by decide +kernel
theorem dL_law_622 : decode cL_law 622 = .ok (.iconst 1, 1) := by decide +kernel
theorem dL_law_623 : decode cL_law 623 = .ok (.iadd, 1) := by decide +kernel
theorem dL_law_624 : decode cL_law 624 = .ok (.iaload, 1) := by decide +kernel
theorem dL_law_625 : decode cL_law 625 = .ok (.aload_n 0, 1) := by decide +kernel
theorem dL_law_626 : decode cL_law 626 = .ok (.iload 4, 2) := by decide +kernel
theorem dL_law_628 : decode cL_law 628 = .ok (.iconst 2, 1) := by decide +kernel
theorem dL_law_629 : decode cL_law 629 = .ok (.iadd, 1) := by decide +kernel
theorem dL_law_630 : decode cL_law 630 = .ok (.iaload, 1) := by decide +kernel
theorem dL_law_631 : decode cL_law 631 = .ok (.invokevirtual 95, 3) := by decide +kernel
theorem dL_law_634 : decode cL_law 634 = .ok (.istore 6, 2) := by decide +kernel
theorem dL_law_636 : decode cL_law 636 = .ok (.aload_n 2, 1) := by decide +kernel
theorem dL_law_637 : decode cL_law 637 = .ok (.invokevirtual 61, 3) := by decide +kernel
theorem dL_law_640 : decode cL_law 640 = .ok (.iload 5, 2) := by decide +kernel
theorem dL_law_642 : decode cL_law 642 = .ok (.if_icmp .eq 5, 3) := by decide +kernel
theorem dL_law_645 : decode cL_law 645 = .ok (.iconst 0, 1) := by decide +kernel
theorem dL_law_646 : decode cL_law 646 = .ok (.ireturn, 1) := by decide +kernel
theorem dL_law_647 : decode cL_law 647 = .ok (.iload 5, 2) := by decide +kernel
theorem dL_law_649 : decode cL_law 649 = .ok (.ifCond .ne 15, 3) := by decide +kernel
theorem dL_law_652 : decode cL_law 652 = .ok (.aload_n 3, 1) := by decide +kernel
theorem dL_law_653 : decode cL_law 653 = .ok (.iconst 0, 1) := by decide +kernel
theorem dL_law_654 : decode cL_law 654 = .ok (.laload, 1) := by decide +kernel
theorem dL_law_655 : decode cL_law 655 = .ok (.iload 6, 2) := by decide +kernel
theorem dL_law_657 : decode cL_law 657 = .ok (.i2l, 1) := by decide +kernel
theorem dL_law_658 : decode cL_law 658 = .ok (.lcmp, 1) := by decide +kernel
theorem dL_law_659 : decode cL_law 659 = .ok (.ifCond .eq 5, 3) := by decide +kernel
theorem dL_law_662 : decode cL_law 662 = .ok (.iconst 0, 1) := by decide +kernel
theorem dL_law_663 : decode cL_law 663 = .ok (.ireturn, 1) := by decide +kernel
theorem dL_law_664 : decode cL_law 664 = .ok (.goto 374, 3) := by decide +kernel
theorem dL_law_667 : decode cL_law 667 = .ok (.aload_n 1, 1) := by decide +kernel
theorem dL_law_668 : decode cL_law 668 = .ok (.invokevirtual 96, 3) := by decide +kernel
theorem dL_law_671 : decode cL_law 671 = .ok (.aload_n 2, 1) := by decide +kernel
theorem dL_law_672 : decode cL_law 672 = .ok (.invokevirtual 99, 3) := by decide +kernel
theorem dL_law_675 : decode cL_law 675 = .ok (.if_icmp .eq 363, 3) := by decide +kernel
theorem dL_law_678 : decode cL_law 678 = .ok (.iconst 0, 1) := by decide +kernel
theorem dL_law_679 : decode cL_law 679 = .ok (.ireturn, 1) := by decide +kernel
theorem dL_law_680 : decode cL_law 680 = .ok (.aload_n 1, 1) := by decide +kernel
theorem dL_law_681 : decode cL_law 681 = .ok (.invokevirtual 100, 3) := by decide +kernel
theorem dL_law_684 : decode cL_law 684 = .ok (.aload_n 2, 1) := by decide +kernel
theorem dL_law_685 : decode cL_law 685 = .ok (.invokevirtual 103, 3) := by decide +kernel
theorem dL_law_688 : decode cL_law 688 = .ok (.if_icmp .eq 350, 3) := by decide +kernel
theorem dL_law_691 : decode cL_law 691 = .ok (.iconst 0, 1) := by decide +kernel
theorem dL_law_692 : decode cL_law 692 = .ok (.ireturn, 1) := by decide +kernel
theorem dL_law_693 : decode cL_law 693 = .ok (.aload_n 1, 1) := by decide +kernel
theorem dL_law_694 : decode cL_law 694 = .ok (.invokevirtual 104, 3) := by decide +kernel
theorem dL_law_697 : decode cL_law 697 = .ok (.aload_n 2, 1) := by decide +kernel
theorem dL_law_698 : decode cL_law 698 = .ok (.invokevirtual 107, 3) := by decide +kernel
theorem dL_law_701 : decode cL_law 701 = .ok (.if_icmp .eq 337, 3) := by decide +kernel
theorem dL_law_704 : decode cL_law 704 = .ok (.iconst 0, 1) := by decide +kernel
theorem dL_law_705 : decode cL_law 705 = .ok (.ireturn, 1) := by decide +kernel
theorem dL_law_706 : decode cL_law 706 = .ok (.aload_n 1, 1) := by decide +kernel
theorem dL_law_707 : decode cL_law 707 = .ok (.aload_n 0, 1) := by decide +kernel
theorem dL_law_708 : decode cL_law 708 = .ok (.iload 4, 2) := by decide +kernel
theorem dL_law_710 : decode cL_law 710 = .ok (.iconst 1, 1) := by decide +kernel
theorem dL_law_711 : decode cL_law 711 = .ok (.iadd, 1) := by decide +kernel
theorem dL_law_712 : decode cL_law 712 = .ok (.iaload, 1) := by decide +kernel
theorem dL_law_713 : decode cL_law 713 = .ok (.aload_n 3, 1) := by decide +kernel
theorem dL_law_714 : decode cL_law 714 = .ok (.invokestatic 108, 3) := by decide +kernel
theorem dL_law_717 : decode cL_law 717 = .ok (.istore 5, 2) := by decide +kernel
theorem dL_law_719 : decode cL_law 719 = .ok (.aload_n 2, 1) := by decide +kernel
theorem dL_law_720 : decode cL_law 720 = .ok (.aload_n 0, 1) := by decide +kernel
theorem dL_law_721 : decode cL_law 721 = .ok (.iload 4, 2) := by decide +kernel
theorem dL_law_723 : decode cL_law 723 = .ok (.iconst 1, 1) := by decide +kernel
theorem dL_law_724 : decode cL_law 724 = .ok (.iadd, 1) := by decide +kernel
theorem dL_law_725 : decode cL_law 725 = .ok (.iaload, 1) := by decide +kernel
theorem dL_law_726 : decode cL_law 726 = .ok (.invokevirtual 110, 3) := by decide +kernel
theorem dL_law_729 : decode cL_law 729 = .ok (.istore 6, 2) := by decide +kernel
theorem dL_law_731 : decode cL_law 731 = .ok (.aload_n 2, 1) := by decide +kernel
theorem dL_law_732 : decode cL_law 732 = .ok (.invokevirtual 61, 3) := by decide +kernel
theorem dL_law_735 : decode cL_law 735 = .ok (.iload 5, 2) := by decide +kernel
theorem dL_law_737 : decode cL_law 737 = .ok (.if_icmp .eq 5, 3) := by decide +kernel
theorem dL_law_740 : decode cL_law 740 = .ok (.iconst 0, 1) := by decide +kernel
theorem dL_law_741 : decode cL_law 741 = .ok (.ireturn, 1) := by decide +kernel
theorem dL_law_742 : decode cL_law 742 = .ok (.iload 5, 2) := by decide +kernel
theorem dL_law_744 : decode cL_law 744 = .ok (.ifCond .ne 15, 3) := by decide +kernel
theorem dL_law_747 : decode cL_law 747 = .ok (.aload_n 3, 1) := by decide +kernel
theorem dL_law_748 : decode cL_law 748 = .ok (.iconst 0, 1) := by decide +kernel
theorem dL_law_749 : decode cL_law 749 = .ok (.laload, 1) := by decide +kernel
theorem dL_law_750 : decode cL_law 750 = .ok (.iload 6, 2) := by decide +kernel
theorem dL_law_752 : decode cL_law 752 = .ok (.i2l, 1) := by decide +kernel
theorem dL_law_753 : decode cL_law 753 = .ok (.lcmp, 1) := by decide +kernel
theorem dL_law_754 : decode cL_law 754 = .ok (.ifCond .eq 5, 3) := by decide +kernel
theorem dL_law_757 : decode cL_law 757 = .ok (.iconst 0, 1) := by decide +kernel
theorem dL_law_758 : decode cL_law 758 = .ok (.ireturn, 1) := by decide +kernel
theorem dL_law_759 : decode cL_law 759 = .ok (.goto 279, 3) := by decide +kernel
theorem dL_law_762 : decode cL_law 762 = .ok (.aload_n 1, 1) := by decide +kernel
theorem dL_law_763 : decode cL_law 763 = .ok (.aload_n 0, 1) := by decide +kernel
theorem dL_law_764 : decode cL_law 764 = .ok (.iload 4, 2) := by decide +kernel
theorem dL_law_766 : decode cL_law 766 = .ok (.iconst 1, 1) := by decide +kernel
theorem dL_law_767 : decode cL_law 767 = .ok (.iadd, 1) := by decide +kernel
theorem dL_law_768 : decode cL_law 768 = .ok (.iaload, 1) := by decide +kernel
theorem dL_law_769 : decode cL_law 769 = .ok (.aload_n 3, 1) := by decide +kernel
theorem dL_law_770 : decode cL_law 770 = .ok (.invokestatic 111, 3) := by decide +kernel
theorem dL_law_773 : decode cL_law 773 = .ok (.istore 5, 2) := by decide +kernel
theorem dL_law_775 : decode cL_law 775 = .ok (.aload_n 2, 1) := by decide +kernel
theorem dL_law_776 : decode cL_law 776 = .ok (.aload_n 0, 1) := by decide +kernel
theorem dL_law_777 : decode cL_law 777 = .ok (.iload 4, 2) := by decide +kernel
theorem dL_law_779 : decode cL_law 779 = .ok (.iconst 1, 1) := by decide +kernel
theorem dL_law_780 : decode cL_law 780 = .ok (.iadd, 1) := by decide +kernel
theorem dL_law_781 : decode cL_law 781 = .ok (.iaload, 1) := by decide +kernel
theorem dL_law_782 : decode cL_law 782 = .ok (.invokevirtual 113, 3) := by decide +kernel
theorem dL_law_785 : decode cL_law 785 = .ok (.istore 6, 2) := by decide +kernel
theorem dL_law_787 : decode cL_law 787 = .ok (.aload_n 2, 1) := by decide +kernel
theorem dL_law_788 : decode cL_law 788 = .ok (.invokevirtual 61, 3) := by decide +kernel
theorem dL_law_791 : decode cL_law 791 = .ok (.iload 5, 2) := by decide +kernel
theorem dL_law_793 : decode cL_law 793 = .ok (.if_icmp .eq 5, 3) := by decide +kernel
theorem dL_law_796 : decode cL_law 796 = .ok (.iconst 0, 1) := by decide +kernel
theorem dL_law_797 : decode cL_law 797 = .ok (.ireturn, 1) := by decide +kernel
theorem dL_law_798 : decode cL_law 798 = .ok (.iload 5, 2) := by decide +kernel
theorem dL_law_800 : decode cL_law 800 = .ok (.ifCond .ne 15, 3) := by decide +kernel
theorem dL_law_803 : decode cL_law 803 = .ok (.aload_n 3, 1) := by decide +kernel
theorem dL_law_804 : decode cL_law 804 = .ok (.iconst 0, 1) := by decide +kernel
theorem dL_law_805 : decode cL_law 805 = .ok (.laload, 1) := by decide +kernel
theorem dL_law_806 : decode cL_law 806 = .ok (.iload 6, 2) := by decide +kernel
theorem dL_law_808 : decode cL_law 808 = .ok (.i2l, 1) := by decide +kernel
theorem dL_law_809 : decode cL_law 809 = .ok (.lcmp, 1) := by decide +kernel
theorem dL_law_810 : decode cL_law 810 = .ok (.ifCond .eq 5, 3) := by decide +kernel
theorem dL_law_813 : decode cL_law 813 = .ok (.iconst 0, 1) := by decide +kernel
theorem dL_law_814 : decode cL_law 814 = .ok (.ireturn, 1) := by decide +kernel
theorem dL_law_815 : decode cL_law 815 = .ok (.goto 223, 3) := by decide +kernel
theorem dL_law_818 : decode cL_law 818 = .ok (.aload_n 1, 1) := by decide +kernel
theorem dL_law_819 : decode cL_law 819 = .ok (.invokevirtual 114, 3) := by decide +kernel
theorem dL_law_822 : decode cL_law 822 = .ok (.aload_n 2, 1) := by decide +kernel
theorem dL_law_823 : decode cL_law 823 = .ok (.invokevirtual 117, 3) := by decide +kernel
theorem dL_law_826 : decode cL_law 826 = .ok (.if_icmp .eq 212, 3) := by decide +kernel
theorem dL_law_829 : decode cL_law 829 = .ok (.iconst 0, 1) := by decide +kernel
theorem dL_law_830 : decode cL_law 830 = .ok (.ireturn, 1) := by decide +kernel
theorem dL_law_831 : decode cL_law 831 = .ok (.aload_n 1, 1) := by decide +kernel
theorem dL_law_832 : decode cL_law 832 = .ok (.aload_n 0, 1) := by decide +kernel
theorem dL_law_833 : decode cL_law 833 = .ok (.iload 4, 2) := by decide +kernel
theorem dL_law_835 : decode cL_law 835 = .ok (.iconst 1, 1) := by decide +kernel
theorem dL_law_836 : decode cL_law 836 = .ok (.iadd, 1) := by decide +kernel
theorem dL_law_837 : decode cL_law 837 = .ok (.iaload, 1) := by decide +kernel
theorem dL_law_838 : decode cL_law 838 = .ok (.aload_n 3, 1) := by decide +kernel
theorem dL_law_839 : decode cL_law 839 = .ok (.invokestatic 118, 3) := by decide +kernel
theorem dL_law_842 : decode cL_law 842 = .ok (.istore 5, 2) := by decide +kernel
theorem dL_law_844 : decode cL_law 844 = .ok (.aload_n 2, 1) := by decide +kernel
theorem dL_law_845 : decode cL_law 845 = .ok (.aload_n 0, 1) := by decide +kernel
theorem dL_law_846 : decode cL_law 846 = .ok (.iload 4, 2) := by decide +kernel
theorem dL_law_848 : decode cL_law 848 = .ok (.iconst 1, 1) := by decide +kernel
theorem dL_law_849 : decode cL_law 849 = .ok (.iadd, 1) := by decide +kernel
theorem dL_law_850 : decode cL_law 850 = .ok (.iaload, 1) := by decide +kernel
theorem dL_law_851 : decode cL_law 851 = .ok (.invokevirtual 120, 3) := by decide +kernel
theorem dL_law_854 : decode cL_law 854 = .ok (.istore 6, 2) := by decide +kernel
theorem dL_law_856 : decode cL_law 856 = .ok (.aload_n 2, 1) := by decide +kernel
theorem dL_law_857 : decode cL_law 857 = .ok (.invokevirtual 61, 3) := by decide +kernel
theorem dL_law_860 : decode cL_law 860 = .ok (.iload 5, 2) := by decide +kernel
theorem dL_law_862 : decode cL_law 862 = .ok (.if_icmp .eq 5, 3) := by decide +kernel
theorem dL_law_865 : decode cL_law 865 = .ok (.iconst 0, 1) := by decide +kernel
theorem dL_law_866 : decode cL_law 866 = .ok (.ireturn, 1) := by decide +kernel
theorem dL_law_867 : decode cL_law 867 = .ok (.iload 5, 2) := by decide +kernel
theorem dL_law_869 : decode cL_law 869 = .ok (.ifCond .ne 22, 3) := by decide +kernel
theorem dL_law_872 : decode cL_law 872 = .ok (.aload_n 3, 1) := by decide +kernel
theorem dL_law_873 : decode cL_law 873 = .ok (.iconst 0, 1) := by decide +kernel
theorem dL_law_874 : decode cL_law 874 = .ok (.laload, 1) := by decide +kernel
theorem dL_law_875 : decode cL_law 875 = .ok (.iload 6, 2) := by decide +kernel
theorem dL_law_877 : decode cL_law 877 = .ok (.ifCond .eq 7, 3) := by decide +kernel
theorem dL_law_880 : decode cL_law 880 = .ok (.lconst 1, 1) := by decide +kernel
theorem dL_law_881 : decode cL_law 881 = .ok (.goto 4, 3) := by decide +kernel
theorem dL_law_884 : decode cL_law 884 = .ok (.lconst 0, 1) := by decide +kernel
theorem dL_law_885 : decode cL_law 885 = .ok (.lcmp, 1) := by decide +kernel
theorem dL_law_886 : decode cL_law 886 = .ok (.ifCond .eq 5, 3) := by decide +kernel
theorem dL_law_889 : decode cL_law 889 = .ok (.iconst 0, 1) := by decide +kernel
theorem dL_law_890 : decode cL_law 890 = .ok (.ireturn, 1) := by decide +kernel
theorem dL_law_891 : decode cL_law 891 = .ok (.goto 147, 3) := by decide +kernel
theorem dL_law_894 : decode cL_law 894 = .ok (.aload_n 1, 1) := by decide +kernel
theorem dL_law_895 : decode cL_law 895 = .ok (.aload_n 0, 1) := by decide +kernel
theorem dL_law_896 : decode cL_law 896 = .ok (.iload 4, 2) := by decide +kernel
theorem dL_law_898 : decode cL_law 898 = .ok (.iconst 1, 1) := by decide +kernel
theorem dL_law_899 : decode cL_law 899 = .ok (.iadd, 1) := by decide +kernel
theorem dL_law_900 : decode cL_law 900 = .ok (.iaload, 1) := by decide +kernel
theorem dL_law_901 : decode cL_law 901 = .ok (.aload_n 3, 1) := by decide +kernel
theorem dL_law_902 : decode cL_law 902 = .ok (.invokestatic 121, 3) := by decide +kernel
theorem dL_law_905 : decode cL_law 905 = .ok (.istore 5, 2) := by decide +kernel
theorem dL_law_907 : decode cL_law 907 = .ok (.aload_n 2, 1) := by decide +kernel
theorem dL_law_908 : decode cL_law 908 = .ok (.aload_n 0, 1) := by decide +kernel
theorem dL_law_909 : decode cL_law 909 = .ok (.iload 4, 2) := by decide +kernel
theorem dL_law_911 : decode cL_law 911 = .ok (.iconst 1, 1) := by decide +kernel
theorem dL_law_912 : decode cL_law 912 = .ok (.iadd, 1) := by decide +kernel
theorem dL_law_913 : decode cL_law 913 = .ok (.iaload, 1) := by decide +kernel
theorem dL_law_914 : decode cL_law 914 = .ok (.invokevirtual 123, 3) := by decide +kernel
theorem dL_law_917 : decode cL_law 917 = .ok (.istore 6, 2) := by decide +kernel
theorem dL_law_919 : decode cL_law 919 = .ok (.aload_n 2, 1) := by decide +kernel
theorem dL_law_920 : decode cL_law 920 = .ok (.invokevirtual 61, 3) := by decide +kernel
theorem dL_law_923 : decode cL_law 923 = .ok (.iload 5, 2) := by decide +kernel
theorem dL_law_925 : decode cL_law 925 = .ok (.if_icmp .eq 5, 3) := by decide +kernel
theorem dL_law_928 : decode cL_law 928 = .ok (.iconst 0, 1) := by decide +kernel
theorem dL_law_929 : decode cL_law 929 = .ok (.ireturn, 1) := by decide +kernel
theorem dL_law_930 : decode cL_law 930 = .ok (.iload 5, 2) := by decide +kernel
theorem dL_law_932 : decode cL_law 932 = .ok (.ifCond .ne 15, 3) := by decide +kernel
theorem dL_law_935 : decode cL_law 935 = .ok (.aload_n 3, 1) := by decide +kernel
theorem dL_law_936 : decode cL_law 936 = .ok (.iconst 0, 1) := by decide +kernel
theorem dL_law_937 : decode cL_law 937 = .ok (.laload, 1) := by decide +kernel
theorem dL_law_938 : decode cL_law 938 = .ok (.iload 6, 2) := by decide +kernel
theorem dL_law_940 : decode cL_law 940 = .ok (.i2l, 1) := by decide +kernel
theorem dL_law_941 : decode cL_law 941 = .ok (.lcmp, 1) := by decide +kernel
theorem dL_law_942 : decode cL_law 942 = .ok (.ifCond .eq 5, 3) := by decide +kernel
theorem dL_law_945 : decode cL_law 945 = .ok (.iconst 0, 1) := by decide +kernel
theorem dL_law_946 : decode cL_law 946 = .ok (.ireturn, 1) := by decide +kernel
theorem dL_law_947 : decode cL_law 947 = .ok (.goto 91, 3) := by decide +kernel
theorem dL_law_950 : decode cL_law 950 = .ok (.aload_n 1, 1) := by decide +kernel
theorem dL_law_951 : decode cL_law 951 = .ok (.aload_n 0, 1) := by decide +kernel
theorem dL_law_952 : decode cL_law 952 = .ok (.iload 4, 2) := by decide +kernel
theorem dL_law_954 : decode cL_law 954 = .ok (.iconst 1, 1) := by decide +kernel
theorem dL_law_955 : decode cL_law 955 = .ok (.iadd, 1) := by decide +kernel
theorem dL_law_956 : decode cL_law 956 = .ok (.iaload, 1) := by decide +kernel
theorem dL_law_957 : decode cL_law 957 = .ok (.invokevirtual 124, 3) := by decide +kernel
theorem dL_law_960 : decode cL_law 960 = .ok (.aload_n 2, 1) := by decide +kernel
theorem dL_law_961 : decode cL_law 961 = .ok (.aload_n 0, 1) := by decide +kernel
theorem dL_law_962 : decode cL_law 962 = .ok (.iload 4, 2) := by decide +kernel
theorem dL_law_964 : decode cL_law 964 = .ok (.iconst 1, 1) := by decide +kernel
theorem dL_law_965 : decode cL_law 965 = .ok (.iadd, 1) := by decide +kernel
theorem dL_law_966 : decode cL_law 966 = .ok (.iaload, 1) := by decide +kernel
theorem dL_law_967 : decode cL_law 967 = .ok (.invokevirtual 127, 3) := by decide +kernel
theorem dL_law_970 : decode cL_law 970 = .ok (.if_icmp .eq 68, 3) := by decide +kernel
theorem dL_law_973 : decode cL_law 973 = .ok (.iconst 0, 1) := by decide +kernel
theorem dL_law_974 : decode cL_law 974 = .ok (.ireturn, 1) := by decide +kernel
theorem dL_law_975 : decode cL_law 975 = .ok (.aload_n 1, 1) := by decide +kernel
theorem dL_law_976 : decode cL_law 976 = .ok (.aload_n 0, 1) := by decide +kernel
theorem dL_law_977 : decode cL_law 977 = .ok (.iload 4, 2) := by decide +kernel
theorem dL_law_979 : decode cL_law 979 = .ok (.iconst 1, 1) := by decide +kernel
theorem dL_law_980 : decode cL_law 980 = .ok (.iadd, 1) := by decide +kernel
theorem dL_law_981 : decode cL_law 981 = .ok (.iaload, 1) := by decide +kernel
theorem dL_law_982 : decode cL_law 982 = .ok (.invokevirtual 128, 3) := by decide +kernel
theorem dL_law_985 : decode cL_law 985 = .ok (.aload_n 2, 1) := by decide +kernel
theorem dL_law_986 : decode cL_law 986 = .ok (.aload_n 0, 1) := by decide +kernel
theorem dL_law_987 : decode cL_law 987 = .ok (.iload 4, 2) := by decide +kernel
theorem dL_law_989 : decode cL_law 989 = .ok (.iconst 1, 1) := by decide +kernel
theorem dL_law_990 : decode cL_law 990 = .ok (.iadd, 1) := by decide +kernel
theorem dL_law_991 : decode cL_law 991 = .ok (.iaload, 1) := by decide +kernel
theorem dL_law_992 : decode cL_law 992 = .ok (.invokevirtual 131, 3) := by decide +kernel
theorem dL_law_995 : decode cL_law 995 = .ok (.if_icmp .eq 43, 3) := by decide +kernel
theorem dL_law_998 : decode cL_law 998 = .ok (.iconst 0, 1) := by decide +kernel
theorem dL_law_999 : decode cL_law 999 = .ok (.ireturn, 1) := by decide +kernel
theorem dL_law_1000 : decode cL_law 1000 = .ok (.aload_n 1, 1) := by decide +kernel
theorem dL_law_1001 : decode cL_law 1001 = .ok (.aload_n 0, 1) := by decide +kernel
theorem dL_law_1002 : decode cL_law 1002 = .ok (.iload 4, 2) := by decide +kernel
theorem dL_law_1004 : decode cL_law 1004 = .ok (.iconst 1, 1) := by decide +kernel
theorem dL_law_1005 : decode cL_law 1005 = .ok (.iadd, 1) := by decide +kernel
theorem dL_law_1006 : decode cL_law 1006 = .ok (.iaload, 1) := by decide +kernel
theorem dL_law_1007 : decode cL_law 1007 = .ok (.invokevirtual 132, 3) := by decide +kernel
theorem dL_law_1010 : decode cL_law 1010 = .ok (.aload_n 2, 1) := by decide +kernel
theorem dL_law_1011 : decode cL_law 1011 = .ok (.aload_n 0, 1) := by decide +kernel
theorem dL_law_1012 : decode cL_law 1012 = .ok (.iload 4, 2) := by decide +kernel
theorem dL_law_1014 : decode cL_law 1014 = .ok (.iconst 1, 1) := by decide +kernel
theorem dL_law_1015 : decode cL_law 1015 = .ok (.iadd, 1) := by decide +kernel
theorem dL_law_1016 : decode cL_law 1016 = .ok (.iaload, 1) := by decide +kernel
theorem dL_law_1017 : decode cL_law 1017 = .ok (.invokevirtual 135, 3) := by decide +kernel
theorem dL_law_1020 : decode cL_law 1020 = .ok (.if_icmp .eq 18, 3) := by decide +kernel
theorem dL_law_1023 : decode cL_law 1023 = .ok (.iconst 0, 1) := by decide +kernel
theorem dL_law_1024 : decode cL_law 1024 = .ok (.ireturn, 1) := by decide +kernel
theorem dL_law_1025 : decode cL_law 1025 = .ok (.aload_n 1, 1) := by decide +kernel
theorem dL_law_1026 : decode cL_law 1026 = .ok (.invokevirtual 136, 3) := by decide +kernel
theorem dL_law_1029 : decode cL_law 1029 = .ok (.aload_n 2, 1) := by decide +kernel
theorem dL_law_1030 : decode cL_law 1030 = .ok (.invokevirtual 139, 3) := by decide +kernel
theorem dL_law_1033 : decode cL_law 1033 = .ok (.if_icmp .eq 5, 3) := by decide +kernel
theorem dL_law_1036 : decode cL_law 1036 = .ok (.iconst 0, 1) := by decide +kernel
theorem dL_law_1037 : decode cL_law 1037 = .ok (.ireturn, 1) := by decide +kernel
theorem dL_law_1038 : decode cL_law 1038 = .ok (.iinc 4 3, 3) := by decide +kernel
theorem dL_law_1041 : decode cL_law 1041 = .ok (.goto (-1018), 3) := by decide +kernel
theorem dL_law_1044 : decode cL_law 1044 = .ok (.iconst 1, 1) := by decide +kernel
theorem dL_law_1045 : decode cL_law 1045 = .ok (.ireturn, 1) := by decide +kernel
abbrev vwCl : List vw_C := [(RX0, TX0, 4), (RX1, TX1, 3), (RX2, TX2, 6), (RX3, TX3, 3), (RX4, TX4, 1), (RX5, TX5, 5), (RX6, TX6, 22)]
/-- the objects of FountainCode$Drop, kind 0: what each holds, by its address -/
structure wK_O_Drop where
  f_row : Nat → Option Nat
  f_generator : Nat → Int64
  f_size : Nat → Int32
  f_blockSet : Nat → Int64
/-- the objects of FountainCode$Elimination, kind 1: what each holds, by its address -/
structure wK_O_Elimination where
  f_rows : Nat → Option Nat
  f_values : Nat → Option Nat
  f_rowCount : Nat → Int32
/-- the objects of FountainCode$Peeler, kind 2: what each holds, by its address -/
structure wK_O_Peeler where
  f_equationSets : Nat → Option Nat
  f_equationCount : Nat → Int32
  f_peelOrder : Nat → Option Nat
  f_peelEquations : Nat → Option Nat
  f_peeledCount : Nat → Int32
  f_peeledSet : Nat → Int64
/-- the objects of FountainCode$Sender, kind 3: what each holds, by its address -/
structure wK_O_Sender where
  f_sourceValues : Nat → Option Nat
  f_sources : Nat → Int32
  f_parities : Nat → Int32
/-- the objects of FountainCode$Weights, kind 4: what each holds, by its address -/
structure wK_O_Weights where
  f_list : Nat → Option Nat
/-- the objects of FountainCode, kind 5: what each holds, by its address -/
structure wK_O_FountainCode where
  f_weights : Nat → Option Nat
  f_sender : Nat → Option Nat
  f_peeler : Nat → Option Nat
  f_elimination : Nat → Option Nat
  f_scratchDrop : Nat → Option Nat
/-- the objects of FountainCodeModel, kind 6: what each holds, by its address -/
structure wK_O_FountainCodeModel where
  f_refusal : Nat → Int32
  f_weights : Nat → Option Nat
  f_sources : Nat → Int32
  f_blocks : Nat → Int32
  f_values : Nat → Option Nat
  f_many : Nat → Int32
  f_drops : Nat → Int32
  f_masks : Nat → Option Nat
  f_numbers : Nat → Option Nat
  f_peeled : Nat → Int32
  f_peeledMask : Nat → Int64
  f_order : Nat → Option Nat
  f_by : Nat → Option Nat
  f_rows : Nat → Option Nat
  f_rowNumbers : Nat → Option Nat
  f_rowsKept : Nat → Option Nat
  f_rowNumbersKept : Nat → Option Nat
  f_reduced : Nat → Int64
  f_reducedNumber : Nat → Int32
  f_generator : Nat → Int64
  f_drawnMany : Nat → Int32
  f_drawn : Nat → Option Nat
/-- the arrays of kind 7: what each holds, by its address -/
structure wK_R_I where
  len : Nat → Nat
  row : Nat → Nat → Int32
/-- the arrays of kind 8: what each holds, by its address -/
structure wK_R_J where
  len : Nat → Nat
  row : Nat → Nat → Int64
/-- the pool: the addresses, the kind of each, and the kinds -/
structure wPS where
  L : List Nat
  K : Nat → Nat
  O_Drop : wK_O_Drop
  O_Elimination : wK_O_Elimination
  O_Peeler : wK_O_Peeler
  O_Sender : wK_O_Sender
  O_Weights : wK_O_Weights
  O_FountainCode : wK_O_FountainCode
  O_FountainCodeModel : wK_O_FountainCodeModel
  R_I : wK_R_I
  R_J : wK_R_J
/-- the empty pool -/
abbrev wP0 : wPS := { L := [], K := (fun _ => 0), O_Drop := { f_row := (fun _ => none), f_generator := (fun _ => 0), f_size := (fun _ => 0), f_blockSet := (fun _ => 0) }, O_Elimination := { f_rows := (fun _ => none), f_values := (fun _ => none), f_rowCount := (fun _ => 0) }, O_Peeler := { f_equationSets := (fun _ => none), f_equationCount := (fun _ => 0), f_peelOrder := (fun _ => none), f_peelEquations := (fun _ => none), f_peeledCount := (fun _ => 0), f_peeledSet := (fun _ => 0) }, O_Sender := { f_sourceValues := (fun _ => none), f_sources := (fun _ => 0), f_parities := (fun _ => 0) }, O_Weights := { f_list := (fun _ => none) }, O_FountainCode := { f_weights := (fun _ => none), f_sender := (fun _ => none), f_peeler := (fun _ => none), f_elimination := (fun _ => none), f_scratchDrop := (fun _ => none) }, O_FountainCodeModel := { f_refusal := (fun _ => 0), f_weights := (fun _ => none), f_sources := (fun _ => 0), f_blocks := (fun _ => 0), f_values := (fun _ => none), f_many := (fun _ => 0), f_drops := (fun _ => 0), f_masks := (fun _ => none), f_numbers := (fun _ => none), f_peeled := (fun _ => 0), f_peeledMask := (fun _ => 0), f_order := (fun _ => none), f_by := (fun _ => none), f_rows := (fun _ => none), f_rowNumbers := (fun _ => none), f_rowsKept := (fun _ => none), f_rowNumbersKept := (fun _ => none), f_reduced := (fun _ => 0), f_reducedNumber := (fun _ => 0), f_generator := (fun _ => 0), f_drawnMany := (fun _ => 0), f_drawn := (fun _ => none) }, R_I := { len := (fun _ => 0), row := (fun _ _ => 0) }, R_J := { len := (fun _ => 0), row := (fun _ _ => 0) } }
/-- the pool's rows by their kinds -/
abbrev wPF (cyI : ClassId) (cyJ : ClassId) (S : wPS) : Nat → va_E := fun a => if S.K a = 0 then .inr (0, [va_rf (S.O_Drop.f_row a), .long (S.O_Drop.f_generator a), .int (S.O_Drop.f_size a), .long (S.O_Drop.f_blockSet a)]) else if S.K a = 1 then .inr (1, [va_rf (S.O_Elimination.f_rows a), va_rf (S.O_Elimination.f_values a), .int (S.O_Elimination.f_rowCount a)]) else if S.K a = 2 then .inr (2, [va_rf (S.O_Peeler.f_equationSets a), .int (S.O_Peeler.f_equationCount a), va_rf (S.O_Peeler.f_peelOrder a), va_rf (S.O_Peeler.f_peelEquations a), .int (S.O_Peeler.f_peeledCount a), .long (S.O_Peeler.f_peeledSet a)]) else if S.K a = 3 then .inr (3, [va_rf (S.O_Sender.f_sourceValues a), .int (S.O_Sender.f_sources a), .int (S.O_Sender.f_parities a)]) else if S.K a = 4 then .inr (4, [va_rf (S.O_Weights.f_list a)]) else if S.K a = 5 then .inr (5, [va_rf (S.O_FountainCode.f_weights a), va_rf (S.O_FountainCode.f_sender a), va_rf (S.O_FountainCode.f_peeler a), va_rf (S.O_FountainCode.f_elimination a), va_rf (S.O_FountainCode.f_scratchDrop a)]) else if S.K a = 6 then .inr (6, [.int (S.O_FountainCodeModel.f_refusal a), va_rf (S.O_FountainCodeModel.f_weights a), .int (S.O_FountainCodeModel.f_sources a), .int (S.O_FountainCodeModel.f_blocks a), va_rf (S.O_FountainCodeModel.f_values a), .int (S.O_FountainCodeModel.f_many a), .int (S.O_FountainCodeModel.f_drops a), va_rf (S.O_FountainCodeModel.f_masks a), va_rf (S.O_FountainCodeModel.f_numbers a), .int (S.O_FountainCodeModel.f_peeled a), .long (S.O_FountainCodeModel.f_peeledMask a), va_rf (S.O_FountainCodeModel.f_order a), va_rf (S.O_FountainCodeModel.f_by a), va_rf (S.O_FountainCodeModel.f_rows a), va_rf (S.O_FountainCodeModel.f_rowNumbers a), va_rf (S.O_FountainCodeModel.f_rowsKept a), va_rf (S.O_FountainCodeModel.f_rowNumbersKept a), .long (S.O_FountainCodeModel.f_reduced a), .int (S.O_FountainCodeModel.f_reducedNumber a), .long (S.O_FountainCodeModel.f_generator a), .int (S.O_FountainCodeModel.f_drawnMany a), va_rf (S.O_FountainCodeModel.f_drawn a)]) else if S.K a = 7 then .inl (cyI, S.R_I.len a, .inl (S.R_I.row a)) else .inl (cyJ, S.R_J.len a, .inr (.inl (S.R_J.row a)))
theorem wAt_O_Drop (cyI : ClassId) (cyJ : ClassId) (S : wPS) {a : Nat} (h : S.K a = 0) : wPF cyI cyJ S a = .inr (0, [va_rf (S.O_Drop.f_row a), .long (S.O_Drop.f_generator a), .int (S.O_Drop.f_size a), .long (S.O_Drop.f_blockSet a)]) := by simp [wPF, h]
theorem wGt_O_Drop (cyI : ClassId) (cyJ : ClassId) (X : va_W) (S : wPS) {a : Nat} (hL : a ∈ S.L) (h : S.K a = 0) : ∃ k : Nat, (X ++ va_pl S.L (wPF cyI cyJ S))[k]? = some (a, wPF cyI cyJ S a) ∧ (X ++ va_pl S.L (wPF cyI cyJ S))[k]? = some (a, .inr (0, [va_rf (S.O_Drop.f_row a), .long (S.O_Drop.f_generator a), .int (S.O_Drop.f_size a), .long (S.O_Drop.f_blockSet a)])) := by
  obtain ⟨k, hk⟩ := va_pl_get (X := X) (f := wPF cyI cyJ S) hL
  exact ⟨k, hk, hk.trans (congrArg (fun e => some (a, e)) (wAt_O_Drop cyI cyJ S h))⟩
theorem wSt_O_Drop_f_row (cyI : ClassId) (cyJ : ClassId) (S : wPS) {a : Nat} (h : S.K a = 0) (v : Option Nat) (b : Nat) : va_up (wPF cyI cyJ S) a (.inr (0, [va_rf v, .long (S.O_Drop.f_generator a), .int (S.O_Drop.f_size a), .long (S.O_Drop.f_blockSet a)])) b = wPF cyI cyJ { S with O_Drop := { S.O_Drop with f_row := va_up S.O_Drop.f_row a v } } b := by by_cases hb : b = a <;> first | (simp only [wPF, va_up_ne _ _ hb]; done) | (simp only [wPF, va_up, if_neg hb]; done) | simp [wPF, va_re, va_up, va_rf, hb, h]
theorem wPu_O_Drop_f_row (cyI : ClassId) (cyJ : ClassId) (X : va_W) (S : wPS) {A : Nat → Prop} {a k : Nat} (hD : va_D A (X ++ va_pl S.L (wPF cyI cyJ S))) (hL : a ∈ S.L) (h : S.K a = 0) (hk : (X ++ va_pl S.L (wPF cyI cyJ S))[k]? = some (a, wPF cyI cyJ S a)) (v : Option Nat) : (X ++ va_pl S.L (wPF cyI cyJ S)).set k (a, .inr (0, [va_rf v, .long (S.O_Drop.f_generator a), .int (S.O_Drop.f_size a), .long (S.O_Drop.f_blockSet a)])) = X ++ va_pl S.L (wPF cyI cyJ { S with O_Drop := { S.O_Drop with f_row := va_up S.O_Drop.f_row a v } }) := by
  rw [va_pl_set hD hL hk]
  exact congrArg (fun l => X ++ l) (va_pl_congr (wSt_O_Drop_f_row cyI cyJ S h v))
theorem wSt_O_Drop_f_generator (cyI : ClassId) (cyJ : ClassId) (S : wPS) {a : Nat} (h : S.K a = 0) (v : Int64) (b : Nat) : va_up (wPF cyI cyJ S) a (.inr (0, [va_rf (S.O_Drop.f_row a), .long v, .int (S.O_Drop.f_size a), .long (S.O_Drop.f_blockSet a)])) b = wPF cyI cyJ { S with O_Drop := { S.O_Drop with f_generator := va_up S.O_Drop.f_generator a v } } b := by by_cases hb : b = a <;> first | (simp only [wPF, va_up_ne _ _ hb]; done) | (simp only [wPF, va_up, if_neg hb]; done) | simp [wPF, va_re, va_up, va_rf, hb, h]
theorem wPu_O_Drop_f_generator (cyI : ClassId) (cyJ : ClassId) (X : va_W) (S : wPS) {A : Nat → Prop} {a k : Nat} (hD : va_D A (X ++ va_pl S.L (wPF cyI cyJ S))) (hL : a ∈ S.L) (h : S.K a = 0) (hk : (X ++ va_pl S.L (wPF cyI cyJ S))[k]? = some (a, wPF cyI cyJ S a)) (v : Int64) : (X ++ va_pl S.L (wPF cyI cyJ S)).set k (a, .inr (0, [va_rf (S.O_Drop.f_row a), .long v, .int (S.O_Drop.f_size a), .long (S.O_Drop.f_blockSet a)])) = X ++ va_pl S.L (wPF cyI cyJ { S with O_Drop := { S.O_Drop with f_generator := va_up S.O_Drop.f_generator a v } }) := by
  rw [va_pl_set hD hL hk]
  exact congrArg (fun l => X ++ l) (va_pl_congr (wSt_O_Drop_f_generator cyI cyJ S h v))
theorem wSt_O_Drop_f_size (cyI : ClassId) (cyJ : ClassId) (S : wPS) {a : Nat} (h : S.K a = 0) (v : Int32) (b : Nat) : va_up (wPF cyI cyJ S) a (.inr (0, [va_rf (S.O_Drop.f_row a), .long (S.O_Drop.f_generator a), .int v, .long (S.O_Drop.f_blockSet a)])) b = wPF cyI cyJ { S with O_Drop := { S.O_Drop with f_size := va_up S.O_Drop.f_size a v } } b := by by_cases hb : b = a <;> first | (simp only [wPF, va_up_ne _ _ hb]; done) | (simp only [wPF, va_up, if_neg hb]; done) | simp [wPF, va_re, va_up, va_rf, hb, h]
theorem wPu_O_Drop_f_size (cyI : ClassId) (cyJ : ClassId) (X : va_W) (S : wPS) {A : Nat → Prop} {a k : Nat} (hD : va_D A (X ++ va_pl S.L (wPF cyI cyJ S))) (hL : a ∈ S.L) (h : S.K a = 0) (hk : (X ++ va_pl S.L (wPF cyI cyJ S))[k]? = some (a, wPF cyI cyJ S a)) (v : Int32) : (X ++ va_pl S.L (wPF cyI cyJ S)).set k (a, .inr (0, [va_rf (S.O_Drop.f_row a), .long (S.O_Drop.f_generator a), .int v, .long (S.O_Drop.f_blockSet a)])) = X ++ va_pl S.L (wPF cyI cyJ { S with O_Drop := { S.O_Drop with f_size := va_up S.O_Drop.f_size a v } }) := by
  rw [va_pl_set hD hL hk]
  exact congrArg (fun l => X ++ l) (va_pl_congr (wSt_O_Drop_f_size cyI cyJ S h v))
theorem wSt_O_Drop_f_blockSet (cyI : ClassId) (cyJ : ClassId) (S : wPS) {a : Nat} (h : S.K a = 0) (v : Int64) (b : Nat) : va_up (wPF cyI cyJ S) a (.inr (0, [va_rf (S.O_Drop.f_row a), .long (S.O_Drop.f_generator a), .int (S.O_Drop.f_size a), .long v])) b = wPF cyI cyJ { S with O_Drop := { S.O_Drop with f_blockSet := va_up S.O_Drop.f_blockSet a v } } b := by by_cases hb : b = a <;> first | (simp only [wPF, va_up_ne _ _ hb]; done) | (simp only [wPF, va_up, if_neg hb]; done) | simp [wPF, va_re, va_up, va_rf, hb, h]
theorem wPu_O_Drop_f_blockSet (cyI : ClassId) (cyJ : ClassId) (X : va_W) (S : wPS) {A : Nat → Prop} {a k : Nat} (hD : va_D A (X ++ va_pl S.L (wPF cyI cyJ S))) (hL : a ∈ S.L) (h : S.K a = 0) (hk : (X ++ va_pl S.L (wPF cyI cyJ S))[k]? = some (a, wPF cyI cyJ S a)) (v : Int64) : (X ++ va_pl S.L (wPF cyI cyJ S)).set k (a, .inr (0, [va_rf (S.O_Drop.f_row a), .long (S.O_Drop.f_generator a), .int (S.O_Drop.f_size a), .long v])) = X ++ va_pl S.L (wPF cyI cyJ { S with O_Drop := { S.O_Drop with f_blockSet := va_up S.O_Drop.f_blockSet a v } }) := by
  rw [va_pl_set hD hL hk]
  exact congrArg (fun l => X ++ l) (va_pl_congr (wSt_O_Drop_f_blockSet cyI cyJ S h v))
theorem wNw_O_Drop (cyI : ClassId) (cyJ : ClassId) (S : wPS) (a b : Nat) : va_up (wPF cyI cyJ S) a (.inr (0, [.null, .long 0, .int 0, .long 0])) b = wPF cyI cyJ { S with L := S.L ++ [a], K := va_up S.K a 0, O_Drop := { f_row := va_up S.O_Drop.f_row a none, f_generator := va_up S.O_Drop.f_generator a 0, f_size := va_up S.O_Drop.f_size a 0, f_blockSet := va_up S.O_Drop.f_blockSet a 0 } } b := by by_cases hb : b = a <;> first | (simp only [wPF, va_up_ne _ _ hb]; done) | (simp only [wPF, va_up, if_neg hb]; done) | simp [wPF, va_re, va_up, va_rf, hb]
theorem wPn_O_Drop (cyI : ClassId) (cyJ : ClassId) (X : va_W) (S : wPS) {a : Nat} (ha : a ∉ S.L) : (X ++ va_pl S.L (wPF cyI cyJ S)) ++ [(a, .inr (0, [.null, .long 0, .int 0, .long 0]))] = X ++ va_pl (S.L ++ [a]) (wPF cyI cyJ { S with L := S.L ++ [a], K := va_up S.K a 0, O_Drop := { f_row := va_up S.O_Drop.f_row a none, f_generator := va_up S.O_Drop.f_generator a 0, f_size := va_up S.O_Drop.f_size a 0, f_blockSet := va_up S.O_Drop.f_blockSet a 0 } }) := by
  rw [List.append_assoc, va_pl_push ha]
  exact congrArg (fun l => X ++ l) (va_pl_congr (wNw_O_Drop cyI cyJ S a))
theorem wAt_O_Elimination (cyI : ClassId) (cyJ : ClassId) (S : wPS) {a : Nat} (h : S.K a = 1) : wPF cyI cyJ S a = .inr (1, [va_rf (S.O_Elimination.f_rows a), va_rf (S.O_Elimination.f_values a), .int (S.O_Elimination.f_rowCount a)]) := by simp [wPF, h]
theorem wGt_O_Elimination (cyI : ClassId) (cyJ : ClassId) (X : va_W) (S : wPS) {a : Nat} (hL : a ∈ S.L) (h : S.K a = 1) : ∃ k : Nat, (X ++ va_pl S.L (wPF cyI cyJ S))[k]? = some (a, wPF cyI cyJ S a) ∧ (X ++ va_pl S.L (wPF cyI cyJ S))[k]? = some (a, .inr (1, [va_rf (S.O_Elimination.f_rows a), va_rf (S.O_Elimination.f_values a), .int (S.O_Elimination.f_rowCount a)])) := by
  obtain ⟨k, hk⟩ := va_pl_get (X := X) (f := wPF cyI cyJ S) hL
  exact ⟨k, hk, hk.trans (congrArg (fun e => some (a, e)) (wAt_O_Elimination cyI cyJ S h))⟩
theorem wSt_O_Elimination_f_rows (cyI : ClassId) (cyJ : ClassId) (S : wPS) {a : Nat} (h : S.K a = 1) (v : Option Nat) (b : Nat) : va_up (wPF cyI cyJ S) a (.inr (1, [va_rf v, va_rf (S.O_Elimination.f_values a), .int (S.O_Elimination.f_rowCount a)])) b = wPF cyI cyJ { S with O_Elimination := { S.O_Elimination with f_rows := va_up S.O_Elimination.f_rows a v } } b := by by_cases hb : b = a <;> first | (simp only [wPF, va_up_ne _ _ hb]; done) | (simp only [wPF, va_up, if_neg hb]; done) | simp [wPF, va_re, va_up, va_rf, hb, h]
theorem wPu_O_Elimination_f_rows (cyI : ClassId) (cyJ : ClassId) (X : va_W) (S : wPS) {A : Nat → Prop} {a k : Nat} (hD : va_D A (X ++ va_pl S.L (wPF cyI cyJ S))) (hL : a ∈ S.L) (h : S.K a = 1) (hk : (X ++ va_pl S.L (wPF cyI cyJ S))[k]? = some (a, wPF cyI cyJ S a)) (v : Option Nat) : (X ++ va_pl S.L (wPF cyI cyJ S)).set k (a, .inr (1, [va_rf v, va_rf (S.O_Elimination.f_values a), .int (S.O_Elimination.f_rowCount a)])) = X ++ va_pl S.L (wPF cyI cyJ { S with O_Elimination := { S.O_Elimination with f_rows := va_up S.O_Elimination.f_rows a v } }) := by
  rw [va_pl_set hD hL hk]
  exact congrArg (fun l => X ++ l) (va_pl_congr (wSt_O_Elimination_f_rows cyI cyJ S h v))
theorem wSt_O_Elimination_f_values (cyI : ClassId) (cyJ : ClassId) (S : wPS) {a : Nat} (h : S.K a = 1) (v : Option Nat) (b : Nat) : va_up (wPF cyI cyJ S) a (.inr (1, [va_rf (S.O_Elimination.f_rows a), va_rf v, .int (S.O_Elimination.f_rowCount a)])) b = wPF cyI cyJ { S with O_Elimination := { S.O_Elimination with f_values := va_up S.O_Elimination.f_values a v } } b := by by_cases hb : b = a <;> first | (simp only [wPF, va_up_ne _ _ hb]; done) | (simp only [wPF, va_up, if_neg hb]; done) | simp [wPF, va_re, va_up, va_rf, hb, h]
theorem wPu_O_Elimination_f_values (cyI : ClassId) (cyJ : ClassId) (X : va_W) (S : wPS) {A : Nat → Prop} {a k : Nat} (hD : va_D A (X ++ va_pl S.L (wPF cyI cyJ S))) (hL : a ∈ S.L) (h : S.K a = 1) (hk : (X ++ va_pl S.L (wPF cyI cyJ S))[k]? = some (a, wPF cyI cyJ S a)) (v : Option Nat) : (X ++ va_pl S.L (wPF cyI cyJ S)).set k (a, .inr (1, [va_rf (S.O_Elimination.f_rows a), va_rf v, .int (S.O_Elimination.f_rowCount a)])) = X ++ va_pl S.L (wPF cyI cyJ { S with O_Elimination := { S.O_Elimination with f_values := va_up S.O_Elimination.f_values a v } }) := by
  rw [va_pl_set hD hL hk]
  exact congrArg (fun l => X ++ l) (va_pl_congr (wSt_O_Elimination_f_values cyI cyJ S h v))
theorem wSt_O_Elimination_f_rowCount (cyI : ClassId) (cyJ : ClassId) (S : wPS) {a : Nat} (h : S.K a = 1) (v : Int32) (b : Nat) : va_up (wPF cyI cyJ S) a (.inr (1, [va_rf (S.O_Elimination.f_rows a), va_rf (S.O_Elimination.f_values a), .int v])) b = wPF cyI cyJ { S with O_Elimination := { S.O_Elimination with f_rowCount := va_up S.O_Elimination.f_rowCount a v } } b := by by_cases hb : b = a <;> first | (simp only [wPF, va_up_ne _ _ hb]; done) | (simp only [wPF, va_up, if_neg hb]; done) | simp [wPF, va_re, va_up, va_rf, hb, h]
theorem wPu_O_Elimination_f_rowCount (cyI : ClassId) (cyJ : ClassId) (X : va_W) (S : wPS) {A : Nat → Prop} {a k : Nat} (hD : va_D A (X ++ va_pl S.L (wPF cyI cyJ S))) (hL : a ∈ S.L) (h : S.K a = 1) (hk : (X ++ va_pl S.L (wPF cyI cyJ S))[k]? = some (a, wPF cyI cyJ S a)) (v : Int32) : (X ++ va_pl S.L (wPF cyI cyJ S)).set k (a, .inr (1, [va_rf (S.O_Elimination.f_rows a), va_rf (S.O_Elimination.f_values a), .int v])) = X ++ va_pl S.L (wPF cyI cyJ { S with O_Elimination := { S.O_Elimination with f_rowCount := va_up S.O_Elimination.f_rowCount a v } }) := by
  rw [va_pl_set hD hL hk]
  exact congrArg (fun l => X ++ l) (va_pl_congr (wSt_O_Elimination_f_rowCount cyI cyJ S h v))
theorem wNw_O_Elimination (cyI : ClassId) (cyJ : ClassId) (S : wPS) (a b : Nat) : va_up (wPF cyI cyJ S) a (.inr (1, [.null, .null, .int 0])) b = wPF cyI cyJ { S with L := S.L ++ [a], K := va_up S.K a 1, O_Elimination := { f_rows := va_up S.O_Elimination.f_rows a none, f_values := va_up S.O_Elimination.f_values a none, f_rowCount := va_up S.O_Elimination.f_rowCount a 0 } } b := by by_cases hb : b = a <;> first | (simp only [wPF, va_up_ne _ _ hb]; done) | (simp only [wPF, va_up, if_neg hb]; done) | simp [wPF, va_re, va_up, va_rf, hb]
theorem wPn_O_Elimination (cyI : ClassId) (cyJ : ClassId) (X : va_W) (S : wPS) {a : Nat} (ha : a ∉ S.L) : (X ++ va_pl S.L (wPF cyI cyJ S)) ++ [(a, .inr (1, [.null, .null, .int 0]))] = X ++ va_pl (S.L ++ [a]) (wPF cyI cyJ { S with L := S.L ++ [a], K := va_up S.K a 1, O_Elimination := { f_rows := va_up S.O_Elimination.f_rows a none, f_values := va_up S.O_Elimination.f_values a none, f_rowCount := va_up S.O_Elimination.f_rowCount a 0 } }) := by
  rw [List.append_assoc, va_pl_push ha]
  exact congrArg (fun l => X ++ l) (va_pl_congr (wNw_O_Elimination cyI cyJ S a))
theorem wAt_O_Peeler (cyI : ClassId) (cyJ : ClassId) (S : wPS) {a : Nat} (h : S.K a = 2) : wPF cyI cyJ S a = .inr (2, [va_rf (S.O_Peeler.f_equationSets a), .int (S.O_Peeler.f_equationCount a), va_rf (S.O_Peeler.f_peelOrder a), va_rf (S.O_Peeler.f_peelEquations a), .int (S.O_Peeler.f_peeledCount a), .long (S.O_Peeler.f_peeledSet a)]) := by simp [wPF, h]
theorem wGt_O_Peeler (cyI : ClassId) (cyJ : ClassId) (X : va_W) (S : wPS) {a : Nat} (hL : a ∈ S.L) (h : S.K a = 2) : ∃ k : Nat, (X ++ va_pl S.L (wPF cyI cyJ S))[k]? = some (a, wPF cyI cyJ S a) ∧ (X ++ va_pl S.L (wPF cyI cyJ S))[k]? = some (a, .inr (2, [va_rf (S.O_Peeler.f_equationSets a), .int (S.O_Peeler.f_equationCount a), va_rf (S.O_Peeler.f_peelOrder a), va_rf (S.O_Peeler.f_peelEquations a), .int (S.O_Peeler.f_peeledCount a), .long (S.O_Peeler.f_peeledSet a)])) := by
  obtain ⟨k, hk⟩ := va_pl_get (X := X) (f := wPF cyI cyJ S) hL
  exact ⟨k, hk, hk.trans (congrArg (fun e => some (a, e)) (wAt_O_Peeler cyI cyJ S h))⟩
theorem wSt_O_Peeler_f_equationSets (cyI : ClassId) (cyJ : ClassId) (S : wPS) {a : Nat} (h : S.K a = 2) (v : Option Nat) (b : Nat) : va_up (wPF cyI cyJ S) a (.inr (2, [va_rf v, .int (S.O_Peeler.f_equationCount a), va_rf (S.O_Peeler.f_peelOrder a), va_rf (S.O_Peeler.f_peelEquations a), .int (S.O_Peeler.f_peeledCount a), .long (S.O_Peeler.f_peeledSet a)])) b = wPF cyI cyJ { S with O_Peeler := { S.O_Peeler with f_equationSets := va_up S.O_Peeler.f_equationSets a v } } b := by by_cases hb : b = a <;> first | (simp only [wPF, va_up_ne _ _ hb]; done) | (simp only [wPF, va_up, if_neg hb]; done) | simp [wPF, va_re, va_up, va_rf, hb, h]
theorem wPu_O_Peeler_f_equationSets (cyI : ClassId) (cyJ : ClassId) (X : va_W) (S : wPS) {A : Nat → Prop} {a k : Nat} (hD : va_D A (X ++ va_pl S.L (wPF cyI cyJ S))) (hL : a ∈ S.L) (h : S.K a = 2) (hk : (X ++ va_pl S.L (wPF cyI cyJ S))[k]? = some (a, wPF cyI cyJ S a)) (v : Option Nat) : (X ++ va_pl S.L (wPF cyI cyJ S)).set k (a, .inr (2, [va_rf v, .int (S.O_Peeler.f_equationCount a), va_rf (S.O_Peeler.f_peelOrder a), va_rf (S.O_Peeler.f_peelEquations a), .int (S.O_Peeler.f_peeledCount a), .long (S.O_Peeler.f_peeledSet a)])) = X ++ va_pl S.L (wPF cyI cyJ { S with O_Peeler := { S.O_Peeler with f_equationSets := va_up S.O_Peeler.f_equationSets a v } }) := by
  rw [va_pl_set hD hL hk]
  exact congrArg (fun l => X ++ l) (va_pl_congr (wSt_O_Peeler_f_equationSets cyI cyJ S h v))
theorem wSt_O_Peeler_f_equationCount (cyI : ClassId) (cyJ : ClassId) (S : wPS) {a : Nat} (h : S.K a = 2) (v : Int32) (b : Nat) : va_up (wPF cyI cyJ S) a (.inr (2, [va_rf (S.O_Peeler.f_equationSets a), .int v, va_rf (S.O_Peeler.f_peelOrder a), va_rf (S.O_Peeler.f_peelEquations a), .int (S.O_Peeler.f_peeledCount a), .long (S.O_Peeler.f_peeledSet a)])) b = wPF cyI cyJ { S with O_Peeler := { S.O_Peeler with f_equationCount := va_up S.O_Peeler.f_equationCount a v } } b := by by_cases hb : b = a <;> first | (simp only [wPF, va_up_ne _ _ hb]; done) | (simp only [wPF, va_up, if_neg hb]; done) | simp [wPF, va_re, va_up, va_rf, hb, h]
theorem wPu_O_Peeler_f_equationCount (cyI : ClassId) (cyJ : ClassId) (X : va_W) (S : wPS) {A : Nat → Prop} {a k : Nat} (hD : va_D A (X ++ va_pl S.L (wPF cyI cyJ S))) (hL : a ∈ S.L) (h : S.K a = 2) (hk : (X ++ va_pl S.L (wPF cyI cyJ S))[k]? = some (a, wPF cyI cyJ S a)) (v : Int32) : (X ++ va_pl S.L (wPF cyI cyJ S)).set k (a, .inr (2, [va_rf (S.O_Peeler.f_equationSets a), .int v, va_rf (S.O_Peeler.f_peelOrder a), va_rf (S.O_Peeler.f_peelEquations a), .int (S.O_Peeler.f_peeledCount a), .long (S.O_Peeler.f_peeledSet a)])) = X ++ va_pl S.L (wPF cyI cyJ { S with O_Peeler := { S.O_Peeler with f_equationCount := va_up S.O_Peeler.f_equationCount a v } }) := by
  rw [va_pl_set hD hL hk]
  exact congrArg (fun l => X ++ l) (va_pl_congr (wSt_O_Peeler_f_equationCount cyI cyJ S h v))
theorem wSt_O_Peeler_f_peelOrder (cyI : ClassId) (cyJ : ClassId) (S : wPS) {a : Nat} (h : S.K a = 2) (v : Option Nat) (b : Nat) : va_up (wPF cyI cyJ S) a (.inr (2, [va_rf (S.O_Peeler.f_equationSets a), .int (S.O_Peeler.f_equationCount a), va_rf v, va_rf (S.O_Peeler.f_peelEquations a), .int (S.O_Peeler.f_peeledCount a), .long (S.O_Peeler.f_peeledSet a)])) b = wPF cyI cyJ { S with O_Peeler := { S.O_Peeler with f_peelOrder := va_up S.O_Peeler.f_peelOrder a v } } b := by by_cases hb : b = a <;> first | (simp only [wPF, va_up_ne _ _ hb]; done) | (simp only [wPF, va_up, if_neg hb]; done) | simp [wPF, va_re, va_up, va_rf, hb, h]
theorem wPu_O_Peeler_f_peelOrder (cyI : ClassId) (cyJ : ClassId) (X : va_W) (S : wPS) {A : Nat → Prop} {a k : Nat} (hD : va_D A (X ++ va_pl S.L (wPF cyI cyJ S))) (hL : a ∈ S.L) (h : S.K a = 2) (hk : (X ++ va_pl S.L (wPF cyI cyJ S))[k]? = some (a, wPF cyI cyJ S a)) (v : Option Nat) : (X ++ va_pl S.L (wPF cyI cyJ S)).set k (a, .inr (2, [va_rf (S.O_Peeler.f_equationSets a), .int (S.O_Peeler.f_equationCount a), va_rf v, va_rf (S.O_Peeler.f_peelEquations a), .int (S.O_Peeler.f_peeledCount a), .long (S.O_Peeler.f_peeledSet a)])) = X ++ va_pl S.L (wPF cyI cyJ { S with O_Peeler := { S.O_Peeler with f_peelOrder := va_up S.O_Peeler.f_peelOrder a v } }) := by
  rw [va_pl_set hD hL hk]
  exact congrArg (fun l => X ++ l) (va_pl_congr (wSt_O_Peeler_f_peelOrder cyI cyJ S h v))
theorem wSt_O_Peeler_f_peelEquations (cyI : ClassId) (cyJ : ClassId) (S : wPS) {a : Nat} (h : S.K a = 2) (v : Option Nat) (b : Nat) : va_up (wPF cyI cyJ S) a (.inr (2, [va_rf (S.O_Peeler.f_equationSets a), .int (S.O_Peeler.f_equationCount a), va_rf (S.O_Peeler.f_peelOrder a), va_rf v, .int (S.O_Peeler.f_peeledCount a), .long (S.O_Peeler.f_peeledSet a)])) b = wPF cyI cyJ { S with O_Peeler := { S.O_Peeler with f_peelEquations := va_up S.O_Peeler.f_peelEquations a v } } b := by by_cases hb : b = a <;> first | (simp only [wPF, va_up_ne _ _ hb]; done) | (simp only [wPF, va_up, if_neg hb]; done) | simp [wPF, va_re, va_up, va_rf, hb, h]
theorem wPu_O_Peeler_f_peelEquations (cyI : ClassId) (cyJ : ClassId) (X : va_W) (S : wPS) {A : Nat → Prop} {a k : Nat} (hD : va_D A (X ++ va_pl S.L (wPF cyI cyJ S))) (hL : a ∈ S.L) (h : S.K a = 2) (hk : (X ++ va_pl S.L (wPF cyI cyJ S))[k]? = some (a, wPF cyI cyJ S a)) (v : Option Nat) : (X ++ va_pl S.L (wPF cyI cyJ S)).set k (a, .inr (2, [va_rf (S.O_Peeler.f_equationSets a), .int (S.O_Peeler.f_equationCount a), va_rf (S.O_Peeler.f_peelOrder a), va_rf v, .int (S.O_Peeler.f_peeledCount a), .long (S.O_Peeler.f_peeledSet a)])) = X ++ va_pl S.L (wPF cyI cyJ { S with O_Peeler := { S.O_Peeler with f_peelEquations := va_up S.O_Peeler.f_peelEquations a v } }) := by
  rw [va_pl_set hD hL hk]
  exact congrArg (fun l => X ++ l) (va_pl_congr (wSt_O_Peeler_f_peelEquations cyI cyJ S h v))
theorem wSt_O_Peeler_f_peeledCount (cyI : ClassId) (cyJ : ClassId) (S : wPS) {a : Nat} (h : S.K a = 2) (v : Int32) (b : Nat) : va_up (wPF cyI cyJ S) a (.inr (2, [va_rf (S.O_Peeler.f_equationSets a), .int (S.O_Peeler.f_equationCount a), va_rf (S.O_Peeler.f_peelOrder a), va_rf (S.O_Peeler.f_peelEquations a), .int v, .long (S.O_Peeler.f_peeledSet a)])) b = wPF cyI cyJ { S with O_Peeler := { S.O_Peeler with f_peeledCount := va_up S.O_Peeler.f_peeledCount a v } } b := by by_cases hb : b = a <;> first | (simp only [wPF, va_up_ne _ _ hb]; done) | (simp only [wPF, va_up, if_neg hb]; done) | simp [wPF, va_re, va_up, va_rf, hb, h]
theorem wPu_O_Peeler_f_peeledCount (cyI : ClassId) (cyJ : ClassId) (X : va_W) (S : wPS) {A : Nat → Prop} {a k : Nat} (hD : va_D A (X ++ va_pl S.L (wPF cyI cyJ S))) (hL : a ∈ S.L) (h : S.K a = 2) (hk : (X ++ va_pl S.L (wPF cyI cyJ S))[k]? = some (a, wPF cyI cyJ S a)) (v : Int32) : (X ++ va_pl S.L (wPF cyI cyJ S)).set k (a, .inr (2, [va_rf (S.O_Peeler.f_equationSets a), .int (S.O_Peeler.f_equationCount a), va_rf (S.O_Peeler.f_peelOrder a), va_rf (S.O_Peeler.f_peelEquations a), .int v, .long (S.O_Peeler.f_peeledSet a)])) = X ++ va_pl S.L (wPF cyI cyJ { S with O_Peeler := { S.O_Peeler with f_peeledCount := va_up S.O_Peeler.f_peeledCount a v } }) := by
  rw [va_pl_set hD hL hk]
  exact congrArg (fun l => X ++ l) (va_pl_congr (wSt_O_Peeler_f_peeledCount cyI cyJ S h v))
theorem wSt_O_Peeler_f_peeledSet (cyI : ClassId) (cyJ : ClassId) (S : wPS) {a : Nat} (h : S.K a = 2) (v : Int64) (b : Nat) : va_up (wPF cyI cyJ S) a (.inr (2, [va_rf (S.O_Peeler.f_equationSets a), .int (S.O_Peeler.f_equationCount a), va_rf (S.O_Peeler.f_peelOrder a), va_rf (S.O_Peeler.f_peelEquations a), .int (S.O_Peeler.f_peeledCount a), .long v])) b = wPF cyI cyJ { S with O_Peeler := { S.O_Peeler with f_peeledSet := va_up S.O_Peeler.f_peeledSet a v } } b := by by_cases hb : b = a <;> first | (simp only [wPF, va_up_ne _ _ hb]; done) | (simp only [wPF, va_up, if_neg hb]; done) | simp [wPF, va_re, va_up, va_rf, hb, h]
theorem wPu_O_Peeler_f_peeledSet (cyI : ClassId) (cyJ : ClassId) (X : va_W) (S : wPS) {A : Nat → Prop} {a k : Nat} (hD : va_D A (X ++ va_pl S.L (wPF cyI cyJ S))) (hL : a ∈ S.L) (h : S.K a = 2) (hk : (X ++ va_pl S.L (wPF cyI cyJ S))[k]? = some (a, wPF cyI cyJ S a)) (v : Int64) : (X ++ va_pl S.L (wPF cyI cyJ S)).set k (a, .inr (2, [va_rf (S.O_Peeler.f_equationSets a), .int (S.O_Peeler.f_equationCount a), va_rf (S.O_Peeler.f_peelOrder a), va_rf (S.O_Peeler.f_peelEquations a), .int (S.O_Peeler.f_peeledCount a), .long v])) = X ++ va_pl S.L (wPF cyI cyJ { S with O_Peeler := { S.O_Peeler with f_peeledSet := va_up S.O_Peeler.f_peeledSet a v } }) := by
  rw [va_pl_set hD hL hk]
  exact congrArg (fun l => X ++ l) (va_pl_congr (wSt_O_Peeler_f_peeledSet cyI cyJ S h v))
theorem wNw_O_Peeler (cyI : ClassId) (cyJ : ClassId) (S : wPS) (a b : Nat) : va_up (wPF cyI cyJ S) a (.inr (2, [.null, .int 0, .null, .null, .int 0, .long 0])) b = wPF cyI cyJ { S with L := S.L ++ [a], K := va_up S.K a 2, O_Peeler := { f_equationSets := va_up S.O_Peeler.f_equationSets a none, f_equationCount := va_up S.O_Peeler.f_equationCount a 0, f_peelOrder := va_up S.O_Peeler.f_peelOrder a none, f_peelEquations := va_up S.O_Peeler.f_peelEquations a none, f_peeledCount := va_up S.O_Peeler.f_peeledCount a 0, f_peeledSet := va_up S.O_Peeler.f_peeledSet a 0 } } b := by by_cases hb : b = a <;> first | (simp only [wPF, va_up_ne _ _ hb]; done) | (simp only [wPF, va_up, if_neg hb]; done) | simp [wPF, va_re, va_up, va_rf, hb]
theorem wPn_O_Peeler (cyI : ClassId) (cyJ : ClassId) (X : va_W) (S : wPS) {a : Nat} (ha : a ∉ S.L) : (X ++ va_pl S.L (wPF cyI cyJ S)) ++ [(a, .inr (2, [.null, .int 0, .null, .null, .int 0, .long 0]))] = X ++ va_pl (S.L ++ [a]) (wPF cyI cyJ { S with L := S.L ++ [a], K := va_up S.K a 2, O_Peeler := { f_equationSets := va_up S.O_Peeler.f_equationSets a none, f_equationCount := va_up S.O_Peeler.f_equationCount a 0, f_peelOrder := va_up S.O_Peeler.f_peelOrder a none, f_peelEquations := va_up S.O_Peeler.f_peelEquations a none, f_peeledCount := va_up S.O_Peeler.f_peeledCount a 0, f_peeledSet := va_up S.O_Peeler.f_peeledSet a 0 } }) := by
  rw [List.append_assoc, va_pl_push ha]
  exact congrArg (fun l => X ++ l) (va_pl_congr (wNw_O_Peeler cyI cyJ S a))
theorem wAt_O_Sender (cyI : ClassId) (cyJ : ClassId) (S : wPS) {a : Nat} (h : S.K a = 3) : wPF cyI cyJ S a = .inr (3, [va_rf (S.O_Sender.f_sourceValues a), .int (S.O_Sender.f_sources a), .int (S.O_Sender.f_parities a)]) := by simp [wPF, h]
theorem wGt_O_Sender (cyI : ClassId) (cyJ : ClassId) (X : va_W) (S : wPS) {a : Nat} (hL : a ∈ S.L) (h : S.K a = 3) : ∃ k : Nat, (X ++ va_pl S.L (wPF cyI cyJ S))[k]? = some (a, wPF cyI cyJ S a) ∧ (X ++ va_pl S.L (wPF cyI cyJ S))[k]? = some (a, .inr (3, [va_rf (S.O_Sender.f_sourceValues a), .int (S.O_Sender.f_sources a), .int (S.O_Sender.f_parities a)])) := by
  obtain ⟨k, hk⟩ := va_pl_get (X := X) (f := wPF cyI cyJ S) hL
  exact ⟨k, hk, hk.trans (congrArg (fun e => some (a, e)) (wAt_O_Sender cyI cyJ S h))⟩
theorem wSt_O_Sender_f_sourceValues (cyI : ClassId) (cyJ : ClassId) (S : wPS) {a : Nat} (h : S.K a = 3) (v : Option Nat) (b : Nat) : va_up (wPF cyI cyJ S) a (.inr (3, [va_rf v, .int (S.O_Sender.f_sources a), .int (S.O_Sender.f_parities a)])) b = wPF cyI cyJ { S with O_Sender := { S.O_Sender with f_sourceValues := va_up S.O_Sender.f_sourceValues a v } } b := by by_cases hb : b = a <;> first | (simp only [wPF, va_up_ne _ _ hb]; done) | (simp only [wPF, va_up, if_neg hb]; done) | simp [wPF, va_re, va_up, va_rf, hb, h]
theorem wPu_O_Sender_f_sourceValues (cyI : ClassId) (cyJ : ClassId) (X : va_W) (S : wPS) {A : Nat → Prop} {a k : Nat} (hD : va_D A (X ++ va_pl S.L (wPF cyI cyJ S))) (hL : a ∈ S.L) (h : S.K a = 3) (hk : (X ++ va_pl S.L (wPF cyI cyJ S))[k]? = some (a, wPF cyI cyJ S a)) (v : Option Nat) : (X ++ va_pl S.L (wPF cyI cyJ S)).set k (a, .inr (3, [va_rf v, .int (S.O_Sender.f_sources a), .int (S.O_Sender.f_parities a)])) = X ++ va_pl S.L (wPF cyI cyJ { S with O_Sender := { S.O_Sender with f_sourceValues := va_up S.O_Sender.f_sourceValues a v } }) := by
  rw [va_pl_set hD hL hk]
  exact congrArg (fun l => X ++ l) (va_pl_congr (wSt_O_Sender_f_sourceValues cyI cyJ S h v))
theorem wSt_O_Sender_f_sources (cyI : ClassId) (cyJ : ClassId) (S : wPS) {a : Nat} (h : S.K a = 3) (v : Int32) (b : Nat) : va_up (wPF cyI cyJ S) a (.inr (3, [va_rf (S.O_Sender.f_sourceValues a), .int v, .int (S.O_Sender.f_parities a)])) b = wPF cyI cyJ { S with O_Sender := { S.O_Sender with f_sources := va_up S.O_Sender.f_sources a v } } b := by by_cases hb : b = a <;> first | (simp only [wPF, va_up_ne _ _ hb]; done) | (simp only [wPF, va_up, if_neg hb]; done) | simp [wPF, va_re, va_up, va_rf, hb, h]
theorem wPu_O_Sender_f_sources (cyI : ClassId) (cyJ : ClassId) (X : va_W) (S : wPS) {A : Nat → Prop} {a k : Nat} (hD : va_D A (X ++ va_pl S.L (wPF cyI cyJ S))) (hL : a ∈ S.L) (h : S.K a = 3) (hk : (X ++ va_pl S.L (wPF cyI cyJ S))[k]? = some (a, wPF cyI cyJ S a)) (v : Int32) : (X ++ va_pl S.L (wPF cyI cyJ S)).set k (a, .inr (3, [va_rf (S.O_Sender.f_sourceValues a), .int v, .int (S.O_Sender.f_parities a)])) = X ++ va_pl S.L (wPF cyI cyJ { S with O_Sender := { S.O_Sender with f_sources := va_up S.O_Sender.f_sources a v } }) := by
  rw [va_pl_set hD hL hk]
  exact congrArg (fun l => X ++ l) (va_pl_congr (wSt_O_Sender_f_sources cyI cyJ S h v))
theorem wSt_O_Sender_f_parities (cyI : ClassId) (cyJ : ClassId) (S : wPS) {a : Nat} (h : S.K a = 3) (v : Int32) (b : Nat) : va_up (wPF cyI cyJ S) a (.inr (3, [va_rf (S.O_Sender.f_sourceValues a), .int (S.O_Sender.f_sources a), .int v])) b = wPF cyI cyJ { S with O_Sender := { S.O_Sender with f_parities := va_up S.O_Sender.f_parities a v } } b := by by_cases hb : b = a <;> first | (simp only [wPF, va_up_ne _ _ hb]; done) | (simp only [wPF, va_up, if_neg hb]; done) | simp [wPF, va_re, va_up, va_rf, hb, h]
theorem wPu_O_Sender_f_parities (cyI : ClassId) (cyJ : ClassId) (X : va_W) (S : wPS) {A : Nat → Prop} {a k : Nat} (hD : va_D A (X ++ va_pl S.L (wPF cyI cyJ S))) (hL : a ∈ S.L) (h : S.K a = 3) (hk : (X ++ va_pl S.L (wPF cyI cyJ S))[k]? = some (a, wPF cyI cyJ S a)) (v : Int32) : (X ++ va_pl S.L (wPF cyI cyJ S)).set k (a, .inr (3, [va_rf (S.O_Sender.f_sourceValues a), .int (S.O_Sender.f_sources a), .int v])) = X ++ va_pl S.L (wPF cyI cyJ { S with O_Sender := { S.O_Sender with f_parities := va_up S.O_Sender.f_parities a v } }) := by
  rw [va_pl_set hD hL hk]
  exact congrArg (fun l => X ++ l) (va_pl_congr (wSt_O_Sender_f_parities cyI cyJ S h v))
theorem wNw_O_Sender (cyI : ClassId) (cyJ : ClassId) (S : wPS) (a b : Nat) : va_up (wPF cyI cyJ S) a (.inr (3, [.null, .int 0, .int 0])) b = wPF cyI cyJ { S with L := S.L ++ [a], K := va_up S.K a 3, O_Sender := { f_sourceValues := va_up S.O_Sender.f_sourceValues a none, f_sources := va_up S.O_Sender.f_sources a 0, f_parities := va_up S.O_Sender.f_parities a 0 } } b := by by_cases hb : b = a <;> first | (simp only [wPF, va_up_ne _ _ hb]; done) | (simp only [wPF, va_up, if_neg hb]; done) | simp [wPF, va_re, va_up, va_rf, hb]
theorem wPn_O_Sender (cyI : ClassId) (cyJ : ClassId) (X : va_W) (S : wPS) {a : Nat} (ha : a ∉ S.L) : (X ++ va_pl S.L (wPF cyI cyJ S)) ++ [(a, .inr (3, [.null, .int 0, .int 0]))] = X ++ va_pl (S.L ++ [a]) (wPF cyI cyJ { S with L := S.L ++ [a], K := va_up S.K a 3, O_Sender := { f_sourceValues := va_up S.O_Sender.f_sourceValues a none, f_sources := va_up S.O_Sender.f_sources a 0, f_parities := va_up S.O_Sender.f_parities a 0 } }) := by
  rw [List.append_assoc, va_pl_push ha]
  exact congrArg (fun l => X ++ l) (va_pl_congr (wNw_O_Sender cyI cyJ S a))
theorem wAt_O_Weights (cyI : ClassId) (cyJ : ClassId) (S : wPS) {a : Nat} (h : S.K a = 4) : wPF cyI cyJ S a = .inr (4, [va_rf (S.O_Weights.f_list a)]) := by simp [wPF, h]
theorem wGt_O_Weights (cyI : ClassId) (cyJ : ClassId) (X : va_W) (S : wPS) {a : Nat} (hL : a ∈ S.L) (h : S.K a = 4) : ∃ k : Nat, (X ++ va_pl S.L (wPF cyI cyJ S))[k]? = some (a, wPF cyI cyJ S a) ∧ (X ++ va_pl S.L (wPF cyI cyJ S))[k]? = some (a, .inr (4, [va_rf (S.O_Weights.f_list a)])) := by
  obtain ⟨k, hk⟩ := va_pl_get (X := X) (f := wPF cyI cyJ S) hL
  exact ⟨k, hk, hk.trans (congrArg (fun e => some (a, e)) (wAt_O_Weights cyI cyJ S h))⟩
theorem wSt_O_Weights_f_list (cyI : ClassId) (cyJ : ClassId) (S : wPS) {a : Nat} (h : S.K a = 4) (v : Option Nat) (b : Nat) : va_up (wPF cyI cyJ S) a (.inr (4, [va_rf v])) b = wPF cyI cyJ { S with O_Weights := { f_list := va_up S.O_Weights.f_list a v } } b := by by_cases hb : b = a <;> first | (simp only [wPF, va_up_ne _ _ hb]; done) | (simp only [wPF, va_up, if_neg hb]; done) | simp [wPF, va_re, va_up, va_rf, hb, h]
theorem wPu_O_Weights_f_list (cyI : ClassId) (cyJ : ClassId) (X : va_W) (S : wPS) {A : Nat → Prop} {a k : Nat} (hD : va_D A (X ++ va_pl S.L (wPF cyI cyJ S))) (hL : a ∈ S.L) (h : S.K a = 4) (hk : (X ++ va_pl S.L (wPF cyI cyJ S))[k]? = some (a, wPF cyI cyJ S a)) (v : Option Nat) : (X ++ va_pl S.L (wPF cyI cyJ S)).set k (a, .inr (4, [va_rf v])) = X ++ va_pl S.L (wPF cyI cyJ { S with O_Weights := { f_list := va_up S.O_Weights.f_list a v } }) := by
  rw [va_pl_set hD hL hk]
  exact congrArg (fun l => X ++ l) (va_pl_congr (wSt_O_Weights_f_list cyI cyJ S h v))
theorem wNw_O_Weights (cyI : ClassId) (cyJ : ClassId) (S : wPS) (a b : Nat) : va_up (wPF cyI cyJ S) a (.inr (4, [.null])) b = wPF cyI cyJ { S with L := S.L ++ [a], K := va_up S.K a 4, O_Weights := { f_list := va_up S.O_Weights.f_list a none } } b := by by_cases hb : b = a <;> first | (simp only [wPF, va_up_ne _ _ hb]; done) | (simp only [wPF, va_up, if_neg hb]; done) | simp [wPF, va_re, va_up, va_rf, hb]
theorem wPn_O_Weights (cyI : ClassId) (cyJ : ClassId) (X : va_W) (S : wPS) {a : Nat} (ha : a ∉ S.L) : (X ++ va_pl S.L (wPF cyI cyJ S)) ++ [(a, .inr (4, [.null]))] = X ++ va_pl (S.L ++ [a]) (wPF cyI cyJ { S with L := S.L ++ [a], K := va_up S.K a 4, O_Weights := { f_list := va_up S.O_Weights.f_list a none } }) := by
  rw [List.append_assoc, va_pl_push ha]
  exact congrArg (fun l => X ++ l) (va_pl_congr (wNw_O_Weights cyI cyJ S a))
theorem wAt_O_FountainCode (cyI : ClassId) (cyJ : ClassId) (S : wPS) {a : Nat} (h : S.K a = 5) : wPF cyI cyJ S a = .inr (5, [va_rf (S.O_FountainCode.f_weights a), va_rf (S.O_FountainCode.f_sender a), va_rf (S.O_FountainCode.f_peeler a), va_rf (S.O_FountainCode.f_elimination a), va_rf (S.O_FountainCode.f_scratchDrop a)]) := by simp [wPF, h]
theorem wGt_O_FountainCode (cyI : ClassId) (cyJ : ClassId) (X : va_W) (S : wPS) {a : Nat} (hL : a ∈ S.L) (h : S.K a = 5) : ∃ k : Nat, (X ++ va_pl S.L (wPF cyI cyJ S))[k]? = some (a, wPF cyI cyJ S a) ∧ (X ++ va_pl S.L (wPF cyI cyJ S))[k]? = some (a, .inr (5, [va_rf (S.O_FountainCode.f_weights a), va_rf (S.O_FountainCode.f_sender a), va_rf (S.O_FountainCode.f_peeler a), va_rf (S.O_FountainCode.f_elimination a), va_rf (S.O_FountainCode.f_scratchDrop a)])) := by
  obtain ⟨k, hk⟩ := va_pl_get (X := X) (f := wPF cyI cyJ S) hL
  exact ⟨k, hk, hk.trans (congrArg (fun e => some (a, e)) (wAt_O_FountainCode cyI cyJ S h))⟩
theorem wSt_O_FountainCode_f_weights (cyI : ClassId) (cyJ : ClassId) (S : wPS) {a : Nat} (h : S.K a = 5) (v : Option Nat) (b : Nat) : va_up (wPF cyI cyJ S) a (.inr (5, [va_rf v, va_rf (S.O_FountainCode.f_sender a), va_rf (S.O_FountainCode.f_peeler a), va_rf (S.O_FountainCode.f_elimination a), va_rf (S.O_FountainCode.f_scratchDrop a)])) b = wPF cyI cyJ { S with O_FountainCode := { S.O_FountainCode with f_weights := va_up S.O_FountainCode.f_weights a v } } b := by by_cases hb : b = a <;> first | (simp only [wPF, va_up_ne _ _ hb]; done) | (simp only [wPF, va_up, if_neg hb]; done) | simp [wPF, va_re, va_up, va_rf, hb, h]
theorem wPu_O_FountainCode_f_weights (cyI : ClassId) (cyJ : ClassId) (X : va_W) (S : wPS) {A : Nat → Prop} {a k : Nat} (hD : va_D A (X ++ va_pl S.L (wPF cyI cyJ S))) (hL : a ∈ S.L) (h : S.K a = 5) (hk : (X ++ va_pl S.L (wPF cyI cyJ S))[k]? = some (a, wPF cyI cyJ S a)) (v : Option Nat) : (X ++ va_pl S.L (wPF cyI cyJ S)).set k (a, .inr (5, [va_rf v, va_rf (S.O_FountainCode.f_sender a), va_rf (S.O_FountainCode.f_peeler a), va_rf (S.O_FountainCode.f_elimination a), va_rf (S.O_FountainCode.f_scratchDrop a)])) = X ++ va_pl S.L (wPF cyI cyJ { S with O_FountainCode := { S.O_FountainCode with f_weights := va_up S.O_FountainCode.f_weights a v } }) := by
  rw [va_pl_set hD hL hk]
  exact congrArg (fun l => X ++ l) (va_pl_congr (wSt_O_FountainCode_f_weights cyI cyJ S h v))
theorem wSt_O_FountainCode_f_sender (cyI : ClassId) (cyJ : ClassId) (S : wPS) {a : Nat} (h : S.K a = 5) (v : Option Nat) (b : Nat) : va_up (wPF cyI cyJ S) a (.inr (5, [va_rf (S.O_FountainCode.f_weights a), va_rf v, va_rf (S.O_FountainCode.f_peeler a), va_rf (S.O_FountainCode.f_elimination a), va_rf (S.O_FountainCode.f_scratchDrop a)])) b = wPF cyI cyJ { S with O_FountainCode := { S.O_FountainCode with f_sender := va_up S.O_FountainCode.f_sender a v } } b := by by_cases hb : b = a <;> first | (simp only [wPF, va_up_ne _ _ hb]; done) | (simp only [wPF, va_up, if_neg hb]; done) | simp [wPF, va_re, va_up, va_rf, hb, h]
theorem wPu_O_FountainCode_f_sender (cyI : ClassId) (cyJ : ClassId) (X : va_W) (S : wPS) {A : Nat → Prop} {a k : Nat} (hD : va_D A (X ++ va_pl S.L (wPF cyI cyJ S))) (hL : a ∈ S.L) (h : S.K a = 5) (hk : (X ++ va_pl S.L (wPF cyI cyJ S))[k]? = some (a, wPF cyI cyJ S a)) (v : Option Nat) : (X ++ va_pl S.L (wPF cyI cyJ S)).set k (a, .inr (5, [va_rf (S.O_FountainCode.f_weights a), va_rf v, va_rf (S.O_FountainCode.f_peeler a), va_rf (S.O_FountainCode.f_elimination a), va_rf (S.O_FountainCode.f_scratchDrop a)])) = X ++ va_pl S.L (wPF cyI cyJ { S with O_FountainCode := { S.O_FountainCode with f_sender := va_up S.O_FountainCode.f_sender a v } }) := by
  rw [va_pl_set hD hL hk]
  exact congrArg (fun l => X ++ l) (va_pl_congr (wSt_O_FountainCode_f_sender cyI cyJ S h v))
theorem wSt_O_FountainCode_f_peeler (cyI : ClassId) (cyJ : ClassId) (S : wPS) {a : Nat} (h : S.K a = 5) (v : Option Nat) (b : Nat) : va_up (wPF cyI cyJ S) a (.inr (5, [va_rf (S.O_FountainCode.f_weights a), va_rf (S.O_FountainCode.f_sender a), va_rf v, va_rf (S.O_FountainCode.f_elimination a), va_rf (S.O_FountainCode.f_scratchDrop a)])) b = wPF cyI cyJ { S with O_FountainCode := { S.O_FountainCode with f_peeler := va_up S.O_FountainCode.f_peeler a v } } b := by by_cases hb : b = a <;> first | (simp only [wPF, va_up_ne _ _ hb]; done) | (simp only [wPF, va_up, if_neg hb]; done) | simp [wPF, va_re, va_up, va_rf, hb, h]
theorem wPu_O_FountainCode_f_peeler (cyI : ClassId) (cyJ : ClassId) (X : va_W) (S : wPS) {A : Nat → Prop} {a k : Nat} (hD : va_D A (X ++ va_pl S.L (wPF cyI cyJ S))) (hL : a ∈ S.L) (h : S.K a = 5) (hk : (X ++ va_pl S.L (wPF cyI cyJ S))[k]? = some (a, wPF cyI cyJ S a)) (v : Option Nat) : (X ++ va_pl S.L (wPF cyI cyJ S)).set k (a, .inr (5, [va_rf (S.O_FountainCode.f_weights a), va_rf (S.O_FountainCode.f_sender a), va_rf v, va_rf (S.O_FountainCode.f_elimination a), va_rf (S.O_FountainCode.f_scratchDrop a)])) = X ++ va_pl S.L (wPF cyI cyJ { S with O_FountainCode := { S.O_FountainCode with f_peeler := va_up S.O_FountainCode.f_peeler a v } }) := by
  rw [va_pl_set hD hL hk]
  exact congrArg (fun l => X ++ l) (va_pl_congr (wSt_O_FountainCode_f_peeler cyI cyJ S h v))
theorem wSt_O_FountainCode_f_elimination (cyI : ClassId) (cyJ : ClassId) (S : wPS) {a : Nat} (h : S.K a = 5) (v : Option Nat) (b : Nat) : va_up (wPF cyI cyJ S) a (.inr (5, [va_rf (S.O_FountainCode.f_weights a), va_rf (S.O_FountainCode.f_sender a), va_rf (S.O_FountainCode.f_peeler a), va_rf v, va_rf (S.O_FountainCode.f_scratchDrop a)])) b = wPF cyI cyJ { S with O_FountainCode := { S.O_FountainCode with f_elimination := va_up S.O_FountainCode.f_elimination a v } } b := by by_cases hb : b = a <;> first | (simp only [wPF, va_up_ne _ _ hb]; done) | (simp only [wPF, va_up, if_neg hb]; done) | simp [wPF, va_re, va_up, va_rf, hb, h]
theorem wPu_O_FountainCode_f_elimination (cyI : ClassId) (cyJ : ClassId) (X : va_W) (S : wPS) {A : Nat → Prop} {a k : Nat} (hD : va_D A (X ++ va_pl S.L (wPF cyI cyJ S))) (hL : a ∈ S.L) (h : S.K a = 5) (hk : (X ++ va_pl S.L (wPF cyI cyJ S))[k]? = some (a, wPF cyI cyJ S a)) (v : Option Nat) : (X ++ va_pl S.L (wPF cyI cyJ S)).set k (a, .inr (5, [va_rf (S.O_FountainCode.f_weights a), va_rf (S.O_FountainCode.f_sender a), va_rf (S.O_FountainCode.f_peeler a), va_rf v, va_rf (S.O_FountainCode.f_scratchDrop a)])) = X ++ va_pl S.L (wPF cyI cyJ { S with O_FountainCode := { S.O_FountainCode with f_elimination := va_up S.O_FountainCode.f_elimination a v } }) := by
  rw [va_pl_set hD hL hk]
  exact congrArg (fun l => X ++ l) (va_pl_congr (wSt_O_FountainCode_f_elimination cyI cyJ S h v))
theorem wSt_O_FountainCode_f_scratchDrop (cyI : ClassId) (cyJ : ClassId) (S : wPS) {a : Nat} (h : S.K a = 5) (v : Option Nat) (b : Nat) : va_up (wPF cyI cyJ S) a (.inr (5, [va_rf (S.O_FountainCode.f_weights a), va_rf (S.O_FountainCode.f_sender a), va_rf (S.O_FountainCode.f_peeler a), va_rf (S.O_FountainCode.f_elimination a), va_rf v])) b = wPF cyI cyJ { S with O_FountainCode := { S.O_FountainCode with f_scratchDrop := va_up S.O_FountainCode.f_scratchDrop a v } } b := by by_cases hb : b = a <;> first | (simp only [wPF, va_up_ne _ _ hb]; done) | (simp only [wPF, va_up, if_neg hb]; done) | simp [wPF, va_re, va_up, va_rf, hb, h]
theorem wPu_O_FountainCode_f_scratchDrop (cyI : ClassId) (cyJ : ClassId) (X : va_W) (S : wPS) {A : Nat → Prop} {a k : Nat} (hD : va_D A (X ++ va_pl S.L (wPF cyI cyJ S))) (hL : a ∈ S.L) (h : S.K a = 5) (hk : (X ++ va_pl S.L (wPF cyI cyJ S))[k]? = some (a, wPF cyI cyJ S a)) (v : Option Nat) : (X ++ va_pl S.L (wPF cyI cyJ S)).set k (a, .inr (5, [va_rf (S.O_FountainCode.f_weights a), va_rf (S.O_FountainCode.f_sender a), va_rf (S.O_FountainCode.f_peeler a), va_rf (S.O_FountainCode.f_elimination a), va_rf v])) = X ++ va_pl S.L (wPF cyI cyJ { S with O_FountainCode := { S.O_FountainCode with f_scratchDrop := va_up S.O_FountainCode.f_scratchDrop a v } }) := by
  rw [va_pl_set hD hL hk]
  exact congrArg (fun l => X ++ l) (va_pl_congr (wSt_O_FountainCode_f_scratchDrop cyI cyJ S h v))
theorem wNw_O_FountainCode (cyI : ClassId) (cyJ : ClassId) (S : wPS) (a b : Nat) : va_up (wPF cyI cyJ S) a (.inr (5, [.null, .null, .null, .null, .null])) b = wPF cyI cyJ { S with L := S.L ++ [a], K := va_up S.K a 5, O_FountainCode := { f_weights := va_up S.O_FountainCode.f_weights a none, f_sender := va_up S.O_FountainCode.f_sender a none, f_peeler := va_up S.O_FountainCode.f_peeler a none, f_elimination := va_up S.O_FountainCode.f_elimination a none, f_scratchDrop := va_up S.O_FountainCode.f_scratchDrop a none } } b := by by_cases hb : b = a <;> first | (simp only [wPF, va_up_ne _ _ hb]; done) | (simp only [wPF, va_up, if_neg hb]; done) | simp [wPF, va_re, va_up, va_rf, hb]
theorem wPn_O_FountainCode (cyI : ClassId) (cyJ : ClassId) (X : va_W) (S : wPS) {a : Nat} (ha : a ∉ S.L) : (X ++ va_pl S.L (wPF cyI cyJ S)) ++ [(a, .inr (5, [.null, .null, .null, .null, .null]))] = X ++ va_pl (S.L ++ [a]) (wPF cyI cyJ { S with L := S.L ++ [a], K := va_up S.K a 5, O_FountainCode := { f_weights := va_up S.O_FountainCode.f_weights a none, f_sender := va_up S.O_FountainCode.f_sender a none, f_peeler := va_up S.O_FountainCode.f_peeler a none, f_elimination := va_up S.O_FountainCode.f_elimination a none, f_scratchDrop := va_up S.O_FountainCode.f_scratchDrop a none } }) := by
  rw [List.append_assoc, va_pl_push ha]
  exact congrArg (fun l => X ++ l) (va_pl_congr (wNw_O_FountainCode cyI cyJ S a))
theorem wAt_O_FountainCodeModel (cyI : ClassId) (cyJ : ClassId) (S : wPS) {a : Nat} (h : S.K a = 6) : wPF cyI cyJ S a = .inr (6, [.int (S.O_FountainCodeModel.f_refusal a), va_rf (S.O_FountainCodeModel.f_weights a), .int (S.O_FountainCodeModel.f_sources a), .int (S.O_FountainCodeModel.f_blocks a), va_rf (S.O_FountainCodeModel.f_values a), .int (S.O_FountainCodeModel.f_many a), .int (S.O_FountainCodeModel.f_drops a), va_rf (S.O_FountainCodeModel.f_masks a), va_rf (S.O_FountainCodeModel.f_numbers a), .int (S.O_FountainCodeModel.f_peeled a), .long (S.O_FountainCodeModel.f_peeledMask a), va_rf (S.O_FountainCodeModel.f_order a), va_rf (S.O_FountainCodeModel.f_by a), va_rf (S.O_FountainCodeModel.f_rows a), va_rf (S.O_FountainCodeModel.f_rowNumbers a), va_rf (S.O_FountainCodeModel.f_rowsKept a), va_rf (S.O_FountainCodeModel.f_rowNumbersKept a), .long (S.O_FountainCodeModel.f_reduced a), .int (S.O_FountainCodeModel.f_reducedNumber a), .long (S.O_FountainCodeModel.f_generator a), .int (S.O_FountainCodeModel.f_drawnMany a), va_rf (S.O_FountainCodeModel.f_drawn a)]) := by simp [wPF, h]
theorem wGt_O_FountainCodeModel (cyI : ClassId) (cyJ : ClassId) (X : va_W) (S : wPS) {a : Nat} (hL : a ∈ S.L) (h : S.K a = 6) : ∃ k : Nat, (X ++ va_pl S.L (wPF cyI cyJ S))[k]? = some (a, wPF cyI cyJ S a) ∧ (X ++ va_pl S.L (wPF cyI cyJ S))[k]? = some (a, .inr (6, [.int (S.O_FountainCodeModel.f_refusal a), va_rf (S.O_FountainCodeModel.f_weights a), .int (S.O_FountainCodeModel.f_sources a), .int (S.O_FountainCodeModel.f_blocks a), va_rf (S.O_FountainCodeModel.f_values a), .int (S.O_FountainCodeModel.f_many a), .int (S.O_FountainCodeModel.f_drops a), va_rf (S.O_FountainCodeModel.f_masks a), va_rf (S.O_FountainCodeModel.f_numbers a), .int (S.O_FountainCodeModel.f_peeled a), .long (S.O_FountainCodeModel.f_peeledMask a), va_rf (S.O_FountainCodeModel.f_order a), va_rf (S.O_FountainCodeModel.f_by a), va_rf (S.O_FountainCodeModel.f_rows a), va_rf (S.O_FountainCodeModel.f_rowNumbers a), va_rf (S.O_FountainCodeModel.f_rowsKept a), va_rf (S.O_FountainCodeModel.f_rowNumbersKept a), .long (S.O_FountainCodeModel.f_reduced a), .int (S.O_FountainCodeModel.f_reducedNumber a), .long (S.O_FountainCodeModel.f_generator a), .int (S.O_FountainCodeModel.f_drawnMany a), va_rf (S.O_FountainCodeModel.f_drawn a)])) := by
  obtain ⟨k, hk⟩ := va_pl_get (X := X) (f := wPF cyI cyJ S) hL
  exact ⟨k, hk, hk.trans (congrArg (fun e => some (a, e)) (wAt_O_FountainCodeModel cyI cyJ S h))⟩
theorem wSt_O_FountainCodeModel_f_refusal (cyI : ClassId) (cyJ : ClassId) (S : wPS) {a : Nat} (h : S.K a = 6) (v : Int32) (b : Nat) : va_up (wPF cyI cyJ S) a (.inr (6, [.int v, va_rf (S.O_FountainCodeModel.f_weights a), .int (S.O_FountainCodeModel.f_sources a), .int (S.O_FountainCodeModel.f_blocks a), va_rf (S.O_FountainCodeModel.f_values a), .int (S.O_FountainCodeModel.f_many a), .int (S.O_FountainCodeModel.f_drops a), va_rf (S.O_FountainCodeModel.f_masks a), va_rf (S.O_FountainCodeModel.f_numbers a), .int (S.O_FountainCodeModel.f_peeled a), .long (S.O_FountainCodeModel.f_peeledMask a), va_rf (S.O_FountainCodeModel.f_order a), va_rf (S.O_FountainCodeModel.f_by a), va_rf (S.O_FountainCodeModel.f_rows a), va_rf (S.O_FountainCodeModel.f_rowNumbers a), va_rf (S.O_FountainCodeModel.f_rowsKept a), va_rf (S.O_FountainCodeModel.f_rowNumbersKept a), .long (S.O_FountainCodeModel.f_reduced a), .int (S.O_FountainCodeModel.f_reducedNumber a), .long (S.O_FountainCodeModel.f_generator a), .int (S.O_FountainCodeModel.f_drawnMany a), va_rf (S.O_FountainCodeModel.f_drawn a)])) b = wPF cyI cyJ { S with O_FountainCodeModel := { S.O_FountainCodeModel with f_refusal := va_up S.O_FountainCodeModel.f_refusal a v } } b := by by_cases hb : b = a <;> first | (simp only [wPF, va_up_ne _ _ hb]; done) | (simp only [wPF, va_up, if_neg hb]; done) | simp [wPF, va_re, va_up, va_rf, hb, h]
theorem wPu_O_FountainCodeModel_f_refusal (cyI : ClassId) (cyJ : ClassId) (X : va_W) (S : wPS) {A : Nat → Prop} {a k : Nat} (hD : va_D A (X ++ va_pl S.L (wPF cyI cyJ S))) (hL : a ∈ S.L) (h : S.K a = 6) (hk : (X ++ va_pl S.L (wPF cyI cyJ S))[k]? = some (a, wPF cyI cyJ S a)) (v : Int32) : (X ++ va_pl S.L (wPF cyI cyJ S)).set k (a, .inr (6, [.int v, va_rf (S.O_FountainCodeModel.f_weights a), .int (S.O_FountainCodeModel.f_sources a), .int (S.O_FountainCodeModel.f_blocks a), va_rf (S.O_FountainCodeModel.f_values a), .int (S.O_FountainCodeModel.f_many a), .int (S.O_FountainCodeModel.f_drops a), va_rf (S.O_FountainCodeModel.f_masks a), va_rf (S.O_FountainCodeModel.f_numbers a), .int (S.O_FountainCodeModel.f_peeled a), .long (S.O_FountainCodeModel.f_peeledMask a), va_rf (S.O_FountainCodeModel.f_order a), va_rf (S.O_FountainCodeModel.f_by a), va_rf (S.O_FountainCodeModel.f_rows a), va_rf (S.O_FountainCodeModel.f_rowNumbers a), va_rf (S.O_FountainCodeModel.f_rowsKept a), va_rf (S.O_FountainCodeModel.f_rowNumbersKept a), .long (S.O_FountainCodeModel.f_reduced a), .int (S.O_FountainCodeModel.f_reducedNumber a), .long (S.O_FountainCodeModel.f_generator a), .int (S.O_FountainCodeModel.f_drawnMany a), va_rf (S.O_FountainCodeModel.f_drawn a)])) = X ++ va_pl S.L (wPF cyI cyJ { S with O_FountainCodeModel := { S.O_FountainCodeModel with f_refusal := va_up S.O_FountainCodeModel.f_refusal a v } }) := by
  rw [va_pl_set hD hL hk]
  exact congrArg (fun l => X ++ l) (va_pl_congr (wSt_O_FountainCodeModel_f_refusal cyI cyJ S h v))
theorem wSt_O_FountainCodeModel_f_weights (cyI : ClassId) (cyJ : ClassId) (S : wPS) {a : Nat} (h : S.K a = 6) (v : Option Nat) (b : Nat) : va_up (wPF cyI cyJ S) a (.inr (6, [.int (S.O_FountainCodeModel.f_refusal a), va_rf v, .int (S.O_FountainCodeModel.f_sources a), .int (S.O_FountainCodeModel.f_blocks a), va_rf (S.O_FountainCodeModel.f_values a), .int (S.O_FountainCodeModel.f_many a), .int (S.O_FountainCodeModel.f_drops a), va_rf (S.O_FountainCodeModel.f_masks a), va_rf (S.O_FountainCodeModel.f_numbers a), .int (S.O_FountainCodeModel.f_peeled a), .long (S.O_FountainCodeModel.f_peeledMask a), va_rf (S.O_FountainCodeModel.f_order a), va_rf (S.O_FountainCodeModel.f_by a), va_rf (S.O_FountainCodeModel.f_rows a), va_rf (S.O_FountainCodeModel.f_rowNumbers a), va_rf (S.O_FountainCodeModel.f_rowsKept a), va_rf (S.O_FountainCodeModel.f_rowNumbersKept a), .long (S.O_FountainCodeModel.f_reduced a), .int (S.O_FountainCodeModel.f_reducedNumber a), .long (S.O_FountainCodeModel.f_generator a), .int (S.O_FountainCodeModel.f_drawnMany a), va_rf (S.O_FountainCodeModel.f_drawn a)])) b = wPF cyI cyJ { S with O_FountainCodeModel := { S.O_FountainCodeModel with f_weights := va_up S.O_FountainCodeModel.f_weights a v } } b := by by_cases hb : b = a <;> first | (simp only [wPF, va_up_ne _ _ hb]; done) | (simp only [wPF, va_up, if_neg hb]; done) | simp [wPF, va_re, va_up, va_rf, hb, h]
theorem wPu_O_FountainCodeModel_f_weights (cyI : ClassId) (cyJ : ClassId) (X : va_W) (S : wPS) {A : Nat → Prop} {a k : Nat} (hD : va_D A (X ++ va_pl S.L (wPF cyI cyJ S))) (hL : a ∈ S.L) (h : S.K a = 6) (hk : (X ++ va_pl S.L (wPF cyI cyJ S))[k]? = some (a, wPF cyI cyJ S a)) (v : Option Nat) : (X ++ va_pl S.L (wPF cyI cyJ S)).set k (a, .inr (6, [.int (S.O_FountainCodeModel.f_refusal a), va_rf v, .int (S.O_FountainCodeModel.f_sources a), .int (S.O_FountainCodeModel.f_blocks a), va_rf (S.O_FountainCodeModel.f_values a), .int (S.O_FountainCodeModel.f_many a), .int (S.O_FountainCodeModel.f_drops a), va_rf (S.O_FountainCodeModel.f_masks a), va_rf (S.O_FountainCodeModel.f_numbers a), .int (S.O_FountainCodeModel.f_peeled a), .long (S.O_FountainCodeModel.f_peeledMask a), va_rf (S.O_FountainCodeModel.f_order a), va_rf (S.O_FountainCodeModel.f_by a), va_rf (S.O_FountainCodeModel.f_rows a), va_rf (S.O_FountainCodeModel.f_rowNumbers a), va_rf (S.O_FountainCodeModel.f_rowsKept a), va_rf (S.O_FountainCodeModel.f_rowNumbersKept a), .long (S.O_FountainCodeModel.f_reduced a), .int (S.O_FountainCodeModel.f_reducedNumber a), .long (S.O_FountainCodeModel.f_generator a), .int (S.O_FountainCodeModel.f_drawnMany a), va_rf (S.O_FountainCodeModel.f_drawn a)])) = X ++ va_pl S.L (wPF cyI cyJ { S with O_FountainCodeModel := { S.O_FountainCodeModel with f_weights := va_up S.O_FountainCodeModel.f_weights a v } }) := by
  rw [va_pl_set hD hL hk]
  exact congrArg (fun l => X ++ l) (va_pl_congr (wSt_O_FountainCodeModel_f_weights cyI cyJ S h v))
theorem wSt_O_FountainCodeModel_f_sources (cyI : ClassId) (cyJ : ClassId) (S : wPS) {a : Nat} (h : S.K a = 6) (v : Int32) (b : Nat) : va_up (wPF cyI cyJ S) a (.inr (6, [.int (S.O_FountainCodeModel.f_refusal a), va_rf (S.O_FountainCodeModel.f_weights a), .int v, .int (S.O_FountainCodeModel.f_blocks a), va_rf (S.O_FountainCodeModel.f_values a), .int (S.O_FountainCodeModel.f_many a), .int (S.O_FountainCodeModel.f_drops a), va_rf (S.O_FountainCodeModel.f_masks a), va_rf (S.O_FountainCodeModel.f_numbers a), .int (S.O_FountainCodeModel.f_peeled a), .long (S.O_FountainCodeModel.f_peeledMask a), va_rf (S.O_FountainCodeModel.f_order a), va_rf (S.O_FountainCodeModel.f_by a), va_rf (S.O_FountainCodeModel.f_rows a), va_rf (S.O_FountainCodeModel.f_rowNumbers a), va_rf (S.O_FountainCodeModel.f_rowsKept a), va_rf (S.O_FountainCodeModel.f_rowNumbersKept a), .long (S.O_FountainCodeModel.f_reduced a), .int (S.O_FountainCodeModel.f_reducedNumber a), .long (S.O_FountainCodeModel.f_generator a), .int (S.O_FountainCodeModel.f_drawnMany a), va_rf (S.O_FountainCodeModel.f_drawn a)])) b = wPF cyI cyJ { S with O_FountainCodeModel := { S.O_FountainCodeModel with f_sources := va_up S.O_FountainCodeModel.f_sources a v } } b := by by_cases hb : b = a <;> first | (simp only [wPF, va_up_ne _ _ hb]; done) | (simp only [wPF, va_up, if_neg hb]; done) | simp [wPF, va_re, va_up, va_rf, hb, h]
theorem wPu_O_FountainCodeModel_f_sources (cyI : ClassId) (cyJ : ClassId) (X : va_W) (S : wPS) {A : Nat → Prop} {a k : Nat} (hD : va_D A (X ++ va_pl S.L (wPF cyI cyJ S))) (hL : a ∈ S.L) (h : S.K a = 6) (hk : (X ++ va_pl S.L (wPF cyI cyJ S))[k]? = some (a, wPF cyI cyJ S a)) (v : Int32) : (X ++ va_pl S.L (wPF cyI cyJ S)).set k (a, .inr (6, [.int (S.O_FountainCodeModel.f_refusal a), va_rf (S.O_FountainCodeModel.f_weights a), .int v, .int (S.O_FountainCodeModel.f_blocks a), va_rf (S.O_FountainCodeModel.f_values a), .int (S.O_FountainCodeModel.f_many a), .int (S.O_FountainCodeModel.f_drops a), va_rf (S.O_FountainCodeModel.f_masks a), va_rf (S.O_FountainCodeModel.f_numbers a), .int (S.O_FountainCodeModel.f_peeled a), .long (S.O_FountainCodeModel.f_peeledMask a), va_rf (S.O_FountainCodeModel.f_order a), va_rf (S.O_FountainCodeModel.f_by a), va_rf (S.O_FountainCodeModel.f_rows a), va_rf (S.O_FountainCodeModel.f_rowNumbers a), va_rf (S.O_FountainCodeModel.f_rowsKept a), va_rf (S.O_FountainCodeModel.f_rowNumbersKept a), .long (S.O_FountainCodeModel.f_reduced a), .int (S.O_FountainCodeModel.f_reducedNumber a), .long (S.O_FountainCodeModel.f_generator a), .int (S.O_FountainCodeModel.f_drawnMany a), va_rf (S.O_FountainCodeModel.f_drawn a)])) = X ++ va_pl S.L (wPF cyI cyJ { S with O_FountainCodeModel := { S.O_FountainCodeModel with f_sources := va_up S.O_FountainCodeModel.f_sources a v } }) := by
  rw [va_pl_set hD hL hk]
  exact congrArg (fun l => X ++ l) (va_pl_congr (wSt_O_FountainCodeModel_f_sources cyI cyJ S h v))
theorem wSt_O_FountainCodeModel_f_blocks (cyI : ClassId) (cyJ : ClassId) (S : wPS) {a : Nat} (h : S.K a = 6) (v : Int32) (b : Nat) : va_up (wPF cyI cyJ S) a (.inr (6, [.int (S.O_FountainCodeModel.f_refusal a), va_rf (S.O_FountainCodeModel.f_weights a), .int (S.O_FountainCodeModel.f_sources a), .int v, va_rf (S.O_FountainCodeModel.f_values a), .int (S.O_FountainCodeModel.f_many a), .int (S.O_FountainCodeModel.f_drops a), va_rf (S.O_FountainCodeModel.f_masks a), va_rf (S.O_FountainCodeModel.f_numbers a), .int (S.O_FountainCodeModel.f_peeled a), .long (S.O_FountainCodeModel.f_peeledMask a), va_rf (S.O_FountainCodeModel.f_order a), va_rf (S.O_FountainCodeModel.f_by a), va_rf (S.O_FountainCodeModel.f_rows a), va_rf (S.O_FountainCodeModel.f_rowNumbers a), va_rf (S.O_FountainCodeModel.f_rowsKept a), va_rf (S.O_FountainCodeModel.f_rowNumbersKept a), .long (S.O_FountainCodeModel.f_reduced a), .int (S.O_FountainCodeModel.f_reducedNumber a), .long (S.O_FountainCodeModel.f_generator a), .int (S.O_FountainCodeModel.f_drawnMany a), va_rf (S.O_FountainCodeModel.f_drawn a)])) b = wPF cyI cyJ { S with O_FountainCodeModel := { S.O_FountainCodeModel with f_blocks := va_up S.O_FountainCodeModel.f_blocks a v } } b := by by_cases hb : b = a <;> first | (simp only [wPF, va_up_ne _ _ hb]; done) | (simp only [wPF, va_up, if_neg hb]; done) | simp [wPF, va_re, va_up, va_rf, hb, h]
theorem wPu_O_FountainCodeModel_f_blocks (cyI : ClassId) (cyJ : ClassId) (X : va_W) (S : wPS) {A : Nat → Prop} {a k : Nat} (hD : va_D A (X ++ va_pl S.L (wPF cyI cyJ S))) (hL : a ∈ S.L) (h : S.K a = 6) (hk : (X ++ va_pl S.L (wPF cyI cyJ S))[k]? = some (a, wPF cyI cyJ S a)) (v : Int32) : (X ++ va_pl S.L (wPF cyI cyJ S)).set k (a, .inr (6, [.int (S.O_FountainCodeModel.f_refusal a), va_rf (S.O_FountainCodeModel.f_weights a), .int (S.O_FountainCodeModel.f_sources a), .int v, va_rf (S.O_FountainCodeModel.f_values a), .int (S.O_FountainCodeModel.f_many a), .int (S.O_FountainCodeModel.f_drops a), va_rf (S.O_FountainCodeModel.f_masks a), va_rf (S.O_FountainCodeModel.f_numbers a), .int (S.O_FountainCodeModel.f_peeled a), .long (S.O_FountainCodeModel.f_peeledMask a), va_rf (S.O_FountainCodeModel.f_order a), va_rf (S.O_FountainCodeModel.f_by a), va_rf (S.O_FountainCodeModel.f_rows a), va_rf (S.O_FountainCodeModel.f_rowNumbers a), va_rf (S.O_FountainCodeModel.f_rowsKept a), va_rf (S.O_FountainCodeModel.f_rowNumbersKept a), .long (S.O_FountainCodeModel.f_reduced a), .int (S.O_FountainCodeModel.f_reducedNumber a), .long (S.O_FountainCodeModel.f_generator a), .int (S.O_FountainCodeModel.f_drawnMany a), va_rf (S.O_FountainCodeModel.f_drawn a)])) = X ++ va_pl S.L (wPF cyI cyJ { S with O_FountainCodeModel := { S.O_FountainCodeModel with f_blocks := va_up S.O_FountainCodeModel.f_blocks a v } }) := by
  rw [va_pl_set hD hL hk]
  exact congrArg (fun l => X ++ l) (va_pl_congr (wSt_O_FountainCodeModel_f_blocks cyI cyJ S h v))
theorem wSt_O_FountainCodeModel_f_values (cyI : ClassId) (cyJ : ClassId) (S : wPS) {a : Nat} (h : S.K a = 6) (v : Option Nat) (b : Nat) : va_up (wPF cyI cyJ S) a (.inr (6, [.int (S.O_FountainCodeModel.f_refusal a), va_rf (S.O_FountainCodeModel.f_weights a), .int (S.O_FountainCodeModel.f_sources a), .int (S.O_FountainCodeModel.f_blocks a), va_rf v, .int (S.O_FountainCodeModel.f_many a), .int (S.O_FountainCodeModel.f_drops a), va_rf (S.O_FountainCodeModel.f_masks a), va_rf (S.O_FountainCodeModel.f_numbers a), .int (S.O_FountainCodeModel.f_peeled a), .long (S.O_FountainCodeModel.f_peeledMask a), va_rf (S.O_FountainCodeModel.f_order a), va_rf (S.O_FountainCodeModel.f_by a), va_rf (S.O_FountainCodeModel.f_rows a), va_rf (S.O_FountainCodeModel.f_rowNumbers a), va_rf (S.O_FountainCodeModel.f_rowsKept a), va_rf (S.O_FountainCodeModel.f_rowNumbersKept a), .long (S.O_FountainCodeModel.f_reduced a), .int (S.O_FountainCodeModel.f_reducedNumber a), .long (S.O_FountainCodeModel.f_generator a), .int (S.O_FountainCodeModel.f_drawnMany a), va_rf (S.O_FountainCodeModel.f_drawn a)])) b = wPF cyI cyJ { S with O_FountainCodeModel := { S.O_FountainCodeModel with f_values := va_up S.O_FountainCodeModel.f_values a v } } b := by by_cases hb : b = a <;> first | (simp only [wPF, va_up_ne _ _ hb]; done) | (simp only [wPF, va_up, if_neg hb]; done) | simp [wPF, va_re, va_up, va_rf, hb, h]
theorem wPu_O_FountainCodeModel_f_values (cyI : ClassId) (cyJ : ClassId) (X : va_W) (S : wPS) {A : Nat → Prop} {a k : Nat} (hD : va_D A (X ++ va_pl S.L (wPF cyI cyJ S))) (hL : a ∈ S.L) (h : S.K a = 6) (hk : (X ++ va_pl S.L (wPF cyI cyJ S))[k]? = some (a, wPF cyI cyJ S a)) (v : Option Nat) : (X ++ va_pl S.L (wPF cyI cyJ S)).set k (a, .inr (6, [.int (S.O_FountainCodeModel.f_refusal a), va_rf (S.O_FountainCodeModel.f_weights a), .int (S.O_FountainCodeModel.f_sources a), .int (S.O_FountainCodeModel.f_blocks a), va_rf v, .int (S.O_FountainCodeModel.f_many a), .int (S.O_FountainCodeModel.f_drops a), va_rf (S.O_FountainCodeModel.f_masks a), va_rf (S.O_FountainCodeModel.f_numbers a), .int (S.O_FountainCodeModel.f_peeled a), .long (S.O_FountainCodeModel.f_peeledMask a), va_rf (S.O_FountainCodeModel.f_order a), va_rf (S.O_FountainCodeModel.f_by a), va_rf (S.O_FountainCodeModel.f_rows a), va_rf (S.O_FountainCodeModel.f_rowNumbers a), va_rf (S.O_FountainCodeModel.f_rowsKept a), va_rf (S.O_FountainCodeModel.f_rowNumbersKept a), .long (S.O_FountainCodeModel.f_reduced a), .int (S.O_FountainCodeModel.f_reducedNumber a), .long (S.O_FountainCodeModel.f_generator a), .int (S.O_FountainCodeModel.f_drawnMany a), va_rf (S.O_FountainCodeModel.f_drawn a)])) = X ++ va_pl S.L (wPF cyI cyJ { S with O_FountainCodeModel := { S.O_FountainCodeModel with f_values := va_up S.O_FountainCodeModel.f_values a v } }) := by
  rw [va_pl_set hD hL hk]
  exact congrArg (fun l => X ++ l) (va_pl_congr (wSt_O_FountainCodeModel_f_values cyI cyJ S h v))
theorem wSt_O_FountainCodeModel_f_many (cyI : ClassId) (cyJ : ClassId) (S : wPS) {a : Nat} (h : S.K a = 6) (v : Int32) (b : Nat) : va_up (wPF cyI cyJ S) a (.inr (6, [.int (S.O_FountainCodeModel.f_refusal a), va_rf (S.O_FountainCodeModel.f_weights a), .int (S.O_FountainCodeModel.f_sources a), .int (S.O_FountainCodeModel.f_blocks a), va_rf (S.O_FountainCodeModel.f_values a), .int v, .int (S.O_FountainCodeModel.f_drops a), va_rf (S.O_FountainCodeModel.f_masks a), va_rf (S.O_FountainCodeModel.f_numbers a), .int (S.O_FountainCodeModel.f_peeled a), .long (S.O_FountainCodeModel.f_peeledMask a), va_rf (S.O_FountainCodeModel.f_order a), va_rf (S.O_FountainCodeModel.f_by a), va_rf (S.O_FountainCodeModel.f_rows a), va_rf (S.O_FountainCodeModel.f_rowNumbers a), va_rf (S.O_FountainCodeModel.f_rowsKept a), va_rf (S.O_FountainCodeModel.f_rowNumbersKept a), .long (S.O_FountainCodeModel.f_reduced a), .int (S.O_FountainCodeModel.f_reducedNumber a), .long (S.O_FountainCodeModel.f_generator a), .int (S.O_FountainCodeModel.f_drawnMany a), va_rf (S.O_FountainCodeModel.f_drawn a)])) b = wPF cyI cyJ { S with O_FountainCodeModel := { S.O_FountainCodeModel with f_many := va_up S.O_FountainCodeModel.f_many a v } } b := by by_cases hb : b = a <;> first | (simp only [wPF, va_up_ne _ _ hb]; done) | (simp only [wPF, va_up, if_neg hb]; done) | simp [wPF, va_re, va_up, va_rf, hb, h]
theorem wPu_O_FountainCodeModel_f_many (cyI : ClassId) (cyJ : ClassId) (X : va_W) (S : wPS) {A : Nat → Prop} {a k : Nat} (hD : va_D A (X ++ va_pl S.L (wPF cyI cyJ S))) (hL : a ∈ S.L) (h : S.K a = 6) (hk : (X ++ va_pl S.L (wPF cyI cyJ S))[k]? = some (a, wPF cyI cyJ S a)) (v : Int32) : (X ++ va_pl S.L (wPF cyI cyJ S)).set k (a, .inr (6, [.int (S.O_FountainCodeModel.f_refusal a), va_rf (S.O_FountainCodeModel.f_weights a), .int (S.O_FountainCodeModel.f_sources a), .int (S.O_FountainCodeModel.f_blocks a), va_rf (S.O_FountainCodeModel.f_values a), .int v, .int (S.O_FountainCodeModel.f_drops a), va_rf (S.O_FountainCodeModel.f_masks a), va_rf (S.O_FountainCodeModel.f_numbers a), .int (S.O_FountainCodeModel.f_peeled a), .long (S.O_FountainCodeModel.f_peeledMask a), va_rf (S.O_FountainCodeModel.f_order a), va_rf (S.O_FountainCodeModel.f_by a), va_rf (S.O_FountainCodeModel.f_rows a), va_rf (S.O_FountainCodeModel.f_rowNumbers a), va_rf (S.O_FountainCodeModel.f_rowsKept a), va_rf (S.O_FountainCodeModel.f_rowNumbersKept a), .long (S.O_FountainCodeModel.f_reduced a), .int (S.O_FountainCodeModel.f_reducedNumber a), .long (S.O_FountainCodeModel.f_generator a), .int (S.O_FountainCodeModel.f_drawnMany a), va_rf (S.O_FountainCodeModel.f_drawn a)])) = X ++ va_pl S.L (wPF cyI cyJ { S with O_FountainCodeModel := { S.O_FountainCodeModel with f_many := va_up S.O_FountainCodeModel.f_many a v } }) := by
  rw [va_pl_set hD hL hk]
  exact congrArg (fun l => X ++ l) (va_pl_congr (wSt_O_FountainCodeModel_f_many cyI cyJ S h v))
theorem wSt_O_FountainCodeModel_f_drops (cyI : ClassId) (cyJ : ClassId) (S : wPS) {a : Nat} (h : S.K a = 6) (v : Int32) (b : Nat) : va_up (wPF cyI cyJ S) a (.inr (6, [.int (S.O_FountainCodeModel.f_refusal a), va_rf (S.O_FountainCodeModel.f_weights a), .int (S.O_FountainCodeModel.f_sources a), .int (S.O_FountainCodeModel.f_blocks a), va_rf (S.O_FountainCodeModel.f_values a), .int (S.O_FountainCodeModel.f_many a), .int v, va_rf (S.O_FountainCodeModel.f_masks a), va_rf (S.O_FountainCodeModel.f_numbers a), .int (S.O_FountainCodeModel.f_peeled a), .long (S.O_FountainCodeModel.f_peeledMask a), va_rf (S.O_FountainCodeModel.f_order a), va_rf (S.O_FountainCodeModel.f_by a), va_rf (S.O_FountainCodeModel.f_rows a), va_rf (S.O_FountainCodeModel.f_rowNumbers a), va_rf (S.O_FountainCodeModel.f_rowsKept a), va_rf (S.O_FountainCodeModel.f_rowNumbersKept a), .long (S.O_FountainCodeModel.f_reduced a), .int (S.O_FountainCodeModel.f_reducedNumber a), .long (S.O_FountainCodeModel.f_generator a), .int (S.O_FountainCodeModel.f_drawnMany a), va_rf (S.O_FountainCodeModel.f_drawn a)])) b = wPF cyI cyJ { S with O_FountainCodeModel := { S.O_FountainCodeModel with f_drops := va_up S.O_FountainCodeModel.f_drops a v } } b := by by_cases hb : b = a <;> first | (simp only [wPF, va_up_ne _ _ hb]; done) | (simp only [wPF, va_up, if_neg hb]; done) | simp [wPF, va_re, va_up, va_rf, hb, h]
theorem wPu_O_FountainCodeModel_f_drops (cyI : ClassId) (cyJ : ClassId) (X : va_W) (S : wPS) {A : Nat → Prop} {a k : Nat} (hD : va_D A (X ++ va_pl S.L (wPF cyI cyJ S))) (hL : a ∈ S.L) (h : S.K a = 6) (hk : (X ++ va_pl S.L (wPF cyI cyJ S))[k]? = some (a, wPF cyI cyJ S a)) (v : Int32) : (X ++ va_pl S.L (wPF cyI cyJ S)).set k (a, .inr (6, [.int (S.O_FountainCodeModel.f_refusal a), va_rf (S.O_FountainCodeModel.f_weights a), .int (S.O_FountainCodeModel.f_sources a), .int (S.O_FountainCodeModel.f_blocks a), va_rf (S.O_FountainCodeModel.f_values a), .int (S.O_FountainCodeModel.f_many a), .int v, va_rf (S.O_FountainCodeModel.f_masks a), va_rf (S.O_FountainCodeModel.f_numbers a), .int (S.O_FountainCodeModel.f_peeled a), .long (S.O_FountainCodeModel.f_peeledMask a), va_rf (S.O_FountainCodeModel.f_order a), va_rf (S.O_FountainCodeModel.f_by a), va_rf (S.O_FountainCodeModel.f_rows a), va_rf (S.O_FountainCodeModel.f_rowNumbers a), va_rf (S.O_FountainCodeModel.f_rowsKept a), va_rf (S.O_FountainCodeModel.f_rowNumbersKept a), .long (S.O_FountainCodeModel.f_reduced a), .int (S.O_FountainCodeModel.f_reducedNumber a), .long (S.O_FountainCodeModel.f_generator a), .int (S.O_FountainCodeModel.f_drawnMany a), va_rf (S.O_FountainCodeModel.f_drawn a)])) = X ++ va_pl S.L (wPF cyI cyJ { S with O_FountainCodeModel := { S.O_FountainCodeModel with f_drops := va_up S.O_FountainCodeModel.f_drops a v } }) := by
  rw [va_pl_set hD hL hk]
  exact congrArg (fun l => X ++ l) (va_pl_congr (wSt_O_FountainCodeModel_f_drops cyI cyJ S h v))
theorem wSt_O_FountainCodeModel_f_masks (cyI : ClassId) (cyJ : ClassId) (S : wPS) {a : Nat} (h : S.K a = 6) (v : Option Nat) (b : Nat) : va_up (wPF cyI cyJ S) a (.inr (6, [.int (S.O_FountainCodeModel.f_refusal a), va_rf (S.O_FountainCodeModel.f_weights a), .int (S.O_FountainCodeModel.f_sources a), .int (S.O_FountainCodeModel.f_blocks a), va_rf (S.O_FountainCodeModel.f_values a), .int (S.O_FountainCodeModel.f_many a), .int (S.O_FountainCodeModel.f_drops a), va_rf v, va_rf (S.O_FountainCodeModel.f_numbers a), .int (S.O_FountainCodeModel.f_peeled a), .long (S.O_FountainCodeModel.f_peeledMask a), va_rf (S.O_FountainCodeModel.f_order a), va_rf (S.O_FountainCodeModel.f_by a), va_rf (S.O_FountainCodeModel.f_rows a), va_rf (S.O_FountainCodeModel.f_rowNumbers a), va_rf (S.O_FountainCodeModel.f_rowsKept a), va_rf (S.O_FountainCodeModel.f_rowNumbersKept a), .long (S.O_FountainCodeModel.f_reduced a), .int (S.O_FountainCodeModel.f_reducedNumber a), .long (S.O_FountainCodeModel.f_generator a), .int (S.O_FountainCodeModel.f_drawnMany a), va_rf (S.O_FountainCodeModel.f_drawn a)])) b = wPF cyI cyJ { S with O_FountainCodeModel := { S.O_FountainCodeModel with f_masks := va_up S.O_FountainCodeModel.f_masks a v } } b := by by_cases hb : b = a <;> first | (simp only [wPF, va_up_ne _ _ hb]; done) | (simp only [wPF, va_up, if_neg hb]; done) | simp [wPF, va_re, va_up, va_rf, hb, h]
theorem wPu_O_FountainCodeModel_f_masks (cyI : ClassId) (cyJ : ClassId) (X : va_W) (S : wPS) {A : Nat → Prop} {a k : Nat} (hD : va_D A (X ++ va_pl S.L (wPF cyI cyJ S))) (hL : a ∈ S.L) (h : S.K a = 6) (hk : (X ++ va_pl S.L (wPF cyI cyJ S))[k]? = some (a, wPF cyI cyJ S a)) (v : Option Nat) : (X ++ va_pl S.L (wPF cyI cyJ S)).set k (a, .inr (6, [.int (S.O_FountainCodeModel.f_refusal a), va_rf (S.O_FountainCodeModel.f_weights a), .int (S.O_FountainCodeModel.f_sources a), .int (S.O_FountainCodeModel.f_blocks a), va_rf (S.O_FountainCodeModel.f_values a), .int (S.O_FountainCodeModel.f_many a), .int (S.O_FountainCodeModel.f_drops a), va_rf v, va_rf (S.O_FountainCodeModel.f_numbers a), .int (S.O_FountainCodeModel.f_peeled a), .long (S.O_FountainCodeModel.f_peeledMask a), va_rf (S.O_FountainCodeModel.f_order a), va_rf (S.O_FountainCodeModel.f_by a), va_rf (S.O_FountainCodeModel.f_rows a), va_rf (S.O_FountainCodeModel.f_rowNumbers a), va_rf (S.O_FountainCodeModel.f_rowsKept a), va_rf (S.O_FountainCodeModel.f_rowNumbersKept a), .long (S.O_FountainCodeModel.f_reduced a), .int (S.O_FountainCodeModel.f_reducedNumber a), .long (S.O_FountainCodeModel.f_generator a), .int (S.O_FountainCodeModel.f_drawnMany a), va_rf (S.O_FountainCodeModel.f_drawn a)])) = X ++ va_pl S.L (wPF cyI cyJ { S with O_FountainCodeModel := { S.O_FountainCodeModel with f_masks := va_up S.O_FountainCodeModel.f_masks a v } }) := by
  rw [va_pl_set hD hL hk]
  exact congrArg (fun l => X ++ l) (va_pl_congr (wSt_O_FountainCodeModel_f_masks cyI cyJ S h v))
theorem wSt_O_FountainCodeModel_f_numbers (cyI : ClassId) (cyJ : ClassId) (S : wPS) {a : Nat} (h : S.K a = 6) (v : Option Nat) (b : Nat) : va_up (wPF cyI cyJ S) a (.inr (6, [.int (S.O_FountainCodeModel.f_refusal a), va_rf (S.O_FountainCodeModel.f_weights a), .int (S.O_FountainCodeModel.f_sources a), .int (S.O_FountainCodeModel.f_blocks a), va_rf (S.O_FountainCodeModel.f_values a), .int (S.O_FountainCodeModel.f_many a), .int (S.O_FountainCodeModel.f_drops a), va_rf (S.O_FountainCodeModel.f_masks a), va_rf v, .int (S.O_FountainCodeModel.f_peeled a), .long (S.O_FountainCodeModel.f_peeledMask a), va_rf (S.O_FountainCodeModel.f_order a), va_rf (S.O_FountainCodeModel.f_by a), va_rf (S.O_FountainCodeModel.f_rows a), va_rf (S.O_FountainCodeModel.f_rowNumbers a), va_rf (S.O_FountainCodeModel.f_rowsKept a), va_rf (S.O_FountainCodeModel.f_rowNumbersKept a), .long (S.O_FountainCodeModel.f_reduced a), .int (S.O_FountainCodeModel.f_reducedNumber a), .long (S.O_FountainCodeModel.f_generator a), .int (S.O_FountainCodeModel.f_drawnMany a), va_rf (S.O_FountainCodeModel.f_drawn a)])) b = wPF cyI cyJ { S with O_FountainCodeModel := { S.O_FountainCodeModel with f_numbers := va_up S.O_FountainCodeModel.f_numbers a v } } b := by by_cases hb : b = a <;> first | (simp only [wPF, va_up_ne _ _ hb]; done) | (simp only [wPF, va_up, if_neg hb]; done) | simp [wPF, va_re, va_up, va_rf, hb, h]
theorem wPu_O_FountainCodeModel_f_numbers (cyI : ClassId) (cyJ : ClassId) (X : va_W) (S : wPS) {A : Nat → Prop} {a k : Nat} (hD : va_D A (X ++ va_pl S.L (wPF cyI cyJ S))) (hL : a ∈ S.L) (h : S.K a = 6) (hk : (X ++ va_pl S.L (wPF cyI cyJ S))[k]? = some (a, wPF cyI cyJ S a)) (v : Option Nat) : (X ++ va_pl S.L (wPF cyI cyJ S)).set k (a, .inr (6, [.int (S.O_FountainCodeModel.f_refusal a), va_rf (S.O_FountainCodeModel.f_weights a), .int (S.O_FountainCodeModel.f_sources a), .int (S.O_FountainCodeModel.f_blocks a), va_rf (S.O_FountainCodeModel.f_values a), .int (S.O_FountainCodeModel.f_many a), .int (S.O_FountainCodeModel.f_drops a), va_rf (S.O_FountainCodeModel.f_masks a), va_rf v, .int (S.O_FountainCodeModel.f_peeled a), .long (S.O_FountainCodeModel.f_peeledMask a), va_rf (S.O_FountainCodeModel.f_order a), va_rf (S.O_FountainCodeModel.f_by a), va_rf (S.O_FountainCodeModel.f_rows a), va_rf (S.O_FountainCodeModel.f_rowNumbers a), va_rf (S.O_FountainCodeModel.f_rowsKept a), va_rf (S.O_FountainCodeModel.f_rowNumbersKept a), .long (S.O_FountainCodeModel.f_reduced a), .int (S.O_FountainCodeModel.f_reducedNumber a), .long (S.O_FountainCodeModel.f_generator a), .int (S.O_FountainCodeModel.f_drawnMany a), va_rf (S.O_FountainCodeModel.f_drawn a)])) = X ++ va_pl S.L (wPF cyI cyJ { S with O_FountainCodeModel := { S.O_FountainCodeModel with f_numbers := va_up S.O_FountainCodeModel.f_numbers a v } }) := by
  rw [va_pl_set hD hL hk]
  exact congrArg (fun l => X ++ l) (va_pl_congr (wSt_O_FountainCodeModel_f_numbers cyI cyJ S h v))
theorem wSt_O_FountainCodeModel_f_peeled (cyI : ClassId) (cyJ : ClassId) (S : wPS) {a : Nat} (h : S.K a = 6) (v : Int32) (b : Nat) : va_up (wPF cyI cyJ S) a (.inr (6, [.int (S.O_FountainCodeModel.f_refusal a), va_rf (S.O_FountainCodeModel.f_weights a), .int (S.O_FountainCodeModel.f_sources a), .int (S.O_FountainCodeModel.f_blocks a), va_rf (S.O_FountainCodeModel.f_values a), .int (S.O_FountainCodeModel.f_many a), .int (S.O_FountainCodeModel.f_drops a), va_rf (S.O_FountainCodeModel.f_masks a), va_rf (S.O_FountainCodeModel.f_numbers a), .int v, .long (S.O_FountainCodeModel.f_peeledMask a), va_rf (S.O_FountainCodeModel.f_order a), va_rf (S.O_FountainCodeModel.f_by a), va_rf (S.O_FountainCodeModel.f_rows a), va_rf (S.O_FountainCodeModel.f_rowNumbers a), va_rf (S.O_FountainCodeModel.f_rowsKept a), va_rf (S.O_FountainCodeModel.f_rowNumbersKept a), .long (S.O_FountainCodeModel.f_reduced a), .int (S.O_FountainCodeModel.f_reducedNumber a), .long (S.O_FountainCodeModel.f_generator a), .int (S.O_FountainCodeModel.f_drawnMany a), va_rf (S.O_FountainCodeModel.f_drawn a)])) b = wPF cyI cyJ { S with O_FountainCodeModel := { S.O_FountainCodeModel with f_peeled := va_up S.O_FountainCodeModel.f_peeled a v } } b := by by_cases hb : b = a <;> first | (simp only [wPF, va_up_ne _ _ hb]; done) | (simp only [wPF, va_up, if_neg hb]; done) | simp [wPF, va_re, va_up, va_rf, hb, h]
theorem wPu_O_FountainCodeModel_f_peeled (cyI : ClassId) (cyJ : ClassId) (X : va_W) (S : wPS) {A : Nat → Prop} {a k : Nat} (hD : va_D A (X ++ va_pl S.L (wPF cyI cyJ S))) (hL : a ∈ S.L) (h : S.K a = 6) (hk : (X ++ va_pl S.L (wPF cyI cyJ S))[k]? = some (a, wPF cyI cyJ S a)) (v : Int32) : (X ++ va_pl S.L (wPF cyI cyJ S)).set k (a, .inr (6, [.int (S.O_FountainCodeModel.f_refusal a), va_rf (S.O_FountainCodeModel.f_weights a), .int (S.O_FountainCodeModel.f_sources a), .int (S.O_FountainCodeModel.f_blocks a), va_rf (S.O_FountainCodeModel.f_values a), .int (S.O_FountainCodeModel.f_many a), .int (S.O_FountainCodeModel.f_drops a), va_rf (S.O_FountainCodeModel.f_masks a), va_rf (S.O_FountainCodeModel.f_numbers a), .int v, .long (S.O_FountainCodeModel.f_peeledMask a), va_rf (S.O_FountainCodeModel.f_order a), va_rf (S.O_FountainCodeModel.f_by a), va_rf (S.O_FountainCodeModel.f_rows a), va_rf (S.O_FountainCodeModel.f_rowNumbers a), va_rf (S.O_FountainCodeModel.f_rowsKept a), va_rf (S.O_FountainCodeModel.f_rowNumbersKept a), .long (S.O_FountainCodeModel.f_reduced a), .int (S.O_FountainCodeModel.f_reducedNumber a), .long (S.O_FountainCodeModel.f_generator a), .int (S.O_FountainCodeModel.f_drawnMany a), va_rf (S.O_FountainCodeModel.f_drawn a)])) = X ++ va_pl S.L (wPF cyI cyJ { S with O_FountainCodeModel := { S.O_FountainCodeModel with f_peeled := va_up S.O_FountainCodeModel.f_peeled a v } }) := by
  rw [va_pl_set hD hL hk]
  exact congrArg (fun l => X ++ l) (va_pl_congr (wSt_O_FountainCodeModel_f_peeled cyI cyJ S h v))
theorem wSt_O_FountainCodeModel_f_peeledMask (cyI : ClassId) (cyJ : ClassId) (S : wPS) {a : Nat} (h : S.K a = 6) (v : Int64) (b : Nat) : va_up (wPF cyI cyJ S) a (.inr (6, [.int (S.O_FountainCodeModel.f_refusal a), va_rf (S.O_FountainCodeModel.f_weights a), .int (S.O_FountainCodeModel.f_sources a), .int (S.O_FountainCodeModel.f_blocks a), va_rf (S.O_FountainCodeModel.f_values a), .int (S.O_FountainCodeModel.f_many a), .int (S.O_FountainCodeModel.f_drops a), va_rf (S.O_FountainCodeModel.f_masks a), va_rf (S.O_FountainCodeModel.f_numbers a), .int (S.O_FountainCodeModel.f_peeled a), .long v, va_rf (S.O_FountainCodeModel.f_order a), va_rf (S.O_FountainCodeModel.f_by a), va_rf (S.O_FountainCodeModel.f_rows a), va_rf (S.O_FountainCodeModel.f_rowNumbers a), va_rf (S.O_FountainCodeModel.f_rowsKept a), va_rf (S.O_FountainCodeModel.f_rowNumbersKept a), .long (S.O_FountainCodeModel.f_reduced a), .int (S.O_FountainCodeModel.f_reducedNumber a), .long (S.O_FountainCodeModel.f_generator a), .int (S.O_FountainCodeModel.f_drawnMany a), va_rf (S.O_FountainCodeModel.f_drawn a)])) b = wPF cyI cyJ { S with O_FountainCodeModel := { S.O_FountainCodeModel with f_peeledMask := va_up S.O_FountainCodeModel.f_peeledMask a v } } b := by by_cases hb : b = a <;> first | (simp only [wPF, va_up_ne _ _ hb]; done) | (simp only [wPF, va_up, if_neg hb]; done) | simp [wPF, va_re, va_up, va_rf, hb, h]
theorem wPu_O_FountainCodeModel_f_peeledMask (cyI : ClassId) (cyJ : ClassId) (X : va_W) (S : wPS) {A : Nat → Prop} {a k : Nat} (hD : va_D A (X ++ va_pl S.L (wPF cyI cyJ S))) (hL : a ∈ S.L) (h : S.K a = 6) (hk : (X ++ va_pl S.L (wPF cyI cyJ S))[k]? = some (a, wPF cyI cyJ S a)) (v : Int64) : (X ++ va_pl S.L (wPF cyI cyJ S)).set k (a, .inr (6, [.int (S.O_FountainCodeModel.f_refusal a), va_rf (S.O_FountainCodeModel.f_weights a), .int (S.O_FountainCodeModel.f_sources a), .int (S.O_FountainCodeModel.f_blocks a), va_rf (S.O_FountainCodeModel.f_values a), .int (S.O_FountainCodeModel.f_many a), .int (S.O_FountainCodeModel.f_drops a), va_rf (S.O_FountainCodeModel.f_masks a), va_rf (S.O_FountainCodeModel.f_numbers a), .int (S.O_FountainCodeModel.f_peeled a), .long v, va_rf (S.O_FountainCodeModel.f_order a), va_rf (S.O_FountainCodeModel.f_by a), va_rf (S.O_FountainCodeModel.f_rows a), va_rf (S.O_FountainCodeModel.f_rowNumbers a), va_rf (S.O_FountainCodeModel.f_rowsKept a), va_rf (S.O_FountainCodeModel.f_rowNumbersKept a), .long (S.O_FountainCodeModel.f_reduced a), .int (S.O_FountainCodeModel.f_reducedNumber a), .long (S.O_FountainCodeModel.f_generator a), .int (S.O_FountainCodeModel.f_drawnMany a), va_rf (S.O_FountainCodeModel.f_drawn a)])) = X ++ va_pl S.L (wPF cyI cyJ { S with O_FountainCodeModel := { S.O_FountainCodeModel with f_peeledMask := va_up S.O_FountainCodeModel.f_peeledMask a v } }) := by
  rw [va_pl_set hD hL hk]
  exact congrArg (fun l => X ++ l) (va_pl_congr (wSt_O_FountainCodeModel_f_peeledMask cyI cyJ S h v))
theorem wSt_O_FountainCodeModel_f_order (cyI : ClassId) (cyJ : ClassId) (S : wPS) {a : Nat} (h : S.K a = 6) (v : Option Nat) (b : Nat) : va_up (wPF cyI cyJ S) a (.inr (6, [.int (S.O_FountainCodeModel.f_refusal a), va_rf (S.O_FountainCodeModel.f_weights a), .int (S.O_FountainCodeModel.f_sources a), .int (S.O_FountainCodeModel.f_blocks a), va_rf (S.O_FountainCodeModel.f_values a), .int (S.O_FountainCodeModel.f_many a), .int (S.O_FountainCodeModel.f_drops a), va_rf (S.O_FountainCodeModel.f_masks a), va_rf (S.O_FountainCodeModel.f_numbers a), .int (S.O_FountainCodeModel.f_peeled a), .long (S.O_FountainCodeModel.f_peeledMask a), va_rf v, va_rf (S.O_FountainCodeModel.f_by a), va_rf (S.O_FountainCodeModel.f_rows a), va_rf (S.O_FountainCodeModel.f_rowNumbers a), va_rf (S.O_FountainCodeModel.f_rowsKept a), va_rf (S.O_FountainCodeModel.f_rowNumbersKept a), .long (S.O_FountainCodeModel.f_reduced a), .int (S.O_FountainCodeModel.f_reducedNumber a), .long (S.O_FountainCodeModel.f_generator a), .int (S.O_FountainCodeModel.f_drawnMany a), va_rf (S.O_FountainCodeModel.f_drawn a)])) b = wPF cyI cyJ { S with O_FountainCodeModel := { S.O_FountainCodeModel with f_order := va_up S.O_FountainCodeModel.f_order a v } } b := by by_cases hb : b = a <;> first | (simp only [wPF, va_up_ne _ _ hb]; done) | (simp only [wPF, va_up, if_neg hb]; done) | simp [wPF, va_re, va_up, va_rf, hb, h]
theorem wPu_O_FountainCodeModel_f_order (cyI : ClassId) (cyJ : ClassId) (X : va_W) (S : wPS) {A : Nat → Prop} {a k : Nat} (hD : va_D A (X ++ va_pl S.L (wPF cyI cyJ S))) (hL : a ∈ S.L) (h : S.K a = 6) (hk : (X ++ va_pl S.L (wPF cyI cyJ S))[k]? = some (a, wPF cyI cyJ S a)) (v : Option Nat) : (X ++ va_pl S.L (wPF cyI cyJ S)).set k (a, .inr (6, [.int (S.O_FountainCodeModel.f_refusal a), va_rf (S.O_FountainCodeModel.f_weights a), .int (S.O_FountainCodeModel.f_sources a), .int (S.O_FountainCodeModel.f_blocks a), va_rf (S.O_FountainCodeModel.f_values a), .int (S.O_FountainCodeModel.f_many a), .int (S.O_FountainCodeModel.f_drops a), va_rf (S.O_FountainCodeModel.f_masks a), va_rf (S.O_FountainCodeModel.f_numbers a), .int (S.O_FountainCodeModel.f_peeled a), .long (S.O_FountainCodeModel.f_peeledMask a), va_rf v, va_rf (S.O_FountainCodeModel.f_by a), va_rf (S.O_FountainCodeModel.f_rows a), va_rf (S.O_FountainCodeModel.f_rowNumbers a), va_rf (S.O_FountainCodeModel.f_rowsKept a), va_rf (S.O_FountainCodeModel.f_rowNumbersKept a), .long (S.O_FountainCodeModel.f_reduced a), .int (S.O_FountainCodeModel.f_reducedNumber a), .long (S.O_FountainCodeModel.f_generator a), .int (S.O_FountainCodeModel.f_drawnMany a), va_rf (S.O_FountainCodeModel.f_drawn a)])) = X ++ va_pl S.L (wPF cyI cyJ { S with O_FountainCodeModel := { S.O_FountainCodeModel with f_order := va_up S.O_FountainCodeModel.f_order a v } }) := by
  rw [va_pl_set hD hL hk]
  exact congrArg (fun l => X ++ l) (va_pl_congr (wSt_O_FountainCodeModel_f_order cyI cyJ S h v))
theorem wSt_O_FountainCodeModel_f_by (cyI : ClassId) (cyJ : ClassId) (S : wPS) {a : Nat} (h : S.K a = 6) (v : Option Nat) (b : Nat) : va_up (wPF cyI cyJ S) a (.inr (6, [.int (S.O_FountainCodeModel.f_refusal a), va_rf (S.O_FountainCodeModel.f_weights a), .int (S.O_FountainCodeModel.f_sources a), .int (S.O_FountainCodeModel.f_blocks a), va_rf (S.O_FountainCodeModel.f_values a), .int (S.O_FountainCodeModel.f_many a), .int (S.O_FountainCodeModel.f_drops a), va_rf (S.O_FountainCodeModel.f_masks a), va_rf (S.O_FountainCodeModel.f_numbers a), .int (S.O_FountainCodeModel.f_peeled a), .long (S.O_FountainCodeModel.f_peeledMask a), va_rf (S.O_FountainCodeModel.f_order a), va_rf v, va_rf (S.O_FountainCodeModel.f_rows a), va_rf (S.O_FountainCodeModel.f_rowNumbers a), va_rf (S.O_FountainCodeModel.f_rowsKept a), va_rf (S.O_FountainCodeModel.f_rowNumbersKept a), .long (S.O_FountainCodeModel.f_reduced a), .int (S.O_FountainCodeModel.f_reducedNumber a), .long (S.O_FountainCodeModel.f_generator a), .int (S.O_FountainCodeModel.f_drawnMany a), va_rf (S.O_FountainCodeModel.f_drawn a)])) b = wPF cyI cyJ { S with O_FountainCodeModel := { S.O_FountainCodeModel with f_by := va_up S.O_FountainCodeModel.f_by a v } } b := by by_cases hb : b = a <;> first | (simp only [wPF, va_up_ne _ _ hb]; done) | (simp only [wPF, va_up, if_neg hb]; done) | simp [wPF, va_re, va_up, va_rf, hb, h]
theorem wPu_O_FountainCodeModel_f_by (cyI : ClassId) (cyJ : ClassId) (X : va_W) (S : wPS) {A : Nat → Prop} {a k : Nat} (hD : va_D A (X ++ va_pl S.L (wPF cyI cyJ S))) (hL : a ∈ S.L) (h : S.K a = 6) (hk : (X ++ va_pl S.L (wPF cyI cyJ S))[k]? = some (a, wPF cyI cyJ S a)) (v : Option Nat) : (X ++ va_pl S.L (wPF cyI cyJ S)).set k (a, .inr (6, [.int (S.O_FountainCodeModel.f_refusal a), va_rf (S.O_FountainCodeModel.f_weights a), .int (S.O_FountainCodeModel.f_sources a), .int (S.O_FountainCodeModel.f_blocks a), va_rf (S.O_FountainCodeModel.f_values a), .int (S.O_FountainCodeModel.f_many a), .int (S.O_FountainCodeModel.f_drops a), va_rf (S.O_FountainCodeModel.f_masks a), va_rf (S.O_FountainCodeModel.f_numbers a), .int (S.O_FountainCodeModel.f_peeled a), .long (S.O_FountainCodeModel.f_peeledMask a), va_rf (S.O_FountainCodeModel.f_order a), va_rf v, va_rf (S.O_FountainCodeModel.f_rows a), va_rf (S.O_FountainCodeModel.f_rowNumbers a), va_rf (S.O_FountainCodeModel.f_rowsKept a), va_rf (S.O_FountainCodeModel.f_rowNumbersKept a), .long (S.O_FountainCodeModel.f_reduced a), .int (S.O_FountainCodeModel.f_reducedNumber a), .long (S.O_FountainCodeModel.f_generator a), .int (S.O_FountainCodeModel.f_drawnMany a), va_rf (S.O_FountainCodeModel.f_drawn a)])) = X ++ va_pl S.L (wPF cyI cyJ { S with O_FountainCodeModel := { S.O_FountainCodeModel with f_by := va_up S.O_FountainCodeModel.f_by a v } }) := by
  rw [va_pl_set hD hL hk]
  exact congrArg (fun l => X ++ l) (va_pl_congr (wSt_O_FountainCodeModel_f_by cyI cyJ S h v))
theorem wSt_O_FountainCodeModel_f_rows (cyI : ClassId) (cyJ : ClassId) (S : wPS) {a : Nat} (h : S.K a = 6) (v : Option Nat) (b : Nat) : va_up (wPF cyI cyJ S) a (.inr (6, [.int (S.O_FountainCodeModel.f_refusal a), va_rf (S.O_FountainCodeModel.f_weights a), .int (S.O_FountainCodeModel.f_sources a), .int (S.O_FountainCodeModel.f_blocks a), va_rf (S.O_FountainCodeModel.f_values a), .int (S.O_FountainCodeModel.f_many a), .int (S.O_FountainCodeModel.f_drops a), va_rf (S.O_FountainCodeModel.f_masks a), va_rf (S.O_FountainCodeModel.f_numbers a), .int (S.O_FountainCodeModel.f_peeled a), .long (S.O_FountainCodeModel.f_peeledMask a), va_rf (S.O_FountainCodeModel.f_order a), va_rf (S.O_FountainCodeModel.f_by a), va_rf v, va_rf (S.O_FountainCodeModel.f_rowNumbers a), va_rf (S.O_FountainCodeModel.f_rowsKept a), va_rf (S.O_FountainCodeModel.f_rowNumbersKept a), .long (S.O_FountainCodeModel.f_reduced a), .int (S.O_FountainCodeModel.f_reducedNumber a), .long (S.O_FountainCodeModel.f_generator a), .int (S.O_FountainCodeModel.f_drawnMany a), va_rf (S.O_FountainCodeModel.f_drawn a)])) b = wPF cyI cyJ { S with O_FountainCodeModel := { S.O_FountainCodeModel with f_rows := va_up S.O_FountainCodeModel.f_rows a v } } b := by by_cases hb : b = a <;> first | (simp only [wPF, va_up_ne _ _ hb]; done) | (simp only [wPF, va_up, if_neg hb]; done) | simp [wPF, va_re, va_up, va_rf, hb, h]
theorem wPu_O_FountainCodeModel_f_rows (cyI : ClassId) (cyJ : ClassId) (X : va_W) (S : wPS) {A : Nat → Prop} {a k : Nat} (hD : va_D A (X ++ va_pl S.L (wPF cyI cyJ S))) (hL : a ∈ S.L) (h : S.K a = 6) (hk : (X ++ va_pl S.L (wPF cyI cyJ S))[k]? = some (a, wPF cyI cyJ S a)) (v : Option Nat) : (X ++ va_pl S.L (wPF cyI cyJ S)).set k (a, .inr (6, [.int (S.O_FountainCodeModel.f_refusal a), va_rf (S.O_FountainCodeModel.f_weights a), .int (S.O_FountainCodeModel.f_sources a), .int (S.O_FountainCodeModel.f_blocks a), va_rf (S.O_FountainCodeModel.f_values a), .int (S.O_FountainCodeModel.f_many a), .int (S.O_FountainCodeModel.f_drops a), va_rf (S.O_FountainCodeModel.f_masks a), va_rf (S.O_FountainCodeModel.f_numbers a), .int (S.O_FountainCodeModel.f_peeled a), .long (S.O_FountainCodeModel.f_peeledMask a), va_rf (S.O_FountainCodeModel.f_order a), va_rf (S.O_FountainCodeModel.f_by a), va_rf v, va_rf (S.O_FountainCodeModel.f_rowNumbers a), va_rf (S.O_FountainCodeModel.f_rowsKept a), va_rf (S.O_FountainCodeModel.f_rowNumbersKept a), .long (S.O_FountainCodeModel.f_reduced a), .int (S.O_FountainCodeModel.f_reducedNumber a), .long (S.O_FountainCodeModel.f_generator a), .int (S.O_FountainCodeModel.f_drawnMany a), va_rf (S.O_FountainCodeModel.f_drawn a)])) = X ++ va_pl S.L (wPF cyI cyJ { S with O_FountainCodeModel := { S.O_FountainCodeModel with f_rows := va_up S.O_FountainCodeModel.f_rows a v } }) := by
  rw [va_pl_set hD hL hk]
  exact congrArg (fun l => X ++ l) (va_pl_congr (wSt_O_FountainCodeModel_f_rows cyI cyJ S h v))
theorem wSt_O_FountainCodeModel_f_rowNumbers (cyI : ClassId) (cyJ : ClassId) (S : wPS) {a : Nat} (h : S.K a = 6) (v : Option Nat) (b : Nat) : va_up (wPF cyI cyJ S) a (.inr (6, [.int (S.O_FountainCodeModel.f_refusal a), va_rf (S.O_FountainCodeModel.f_weights a), .int (S.O_FountainCodeModel.f_sources a), .int (S.O_FountainCodeModel.f_blocks a), va_rf (S.O_FountainCodeModel.f_values a), .int (S.O_FountainCodeModel.f_many a), .int (S.O_FountainCodeModel.f_drops a), va_rf (S.O_FountainCodeModel.f_masks a), va_rf (S.O_FountainCodeModel.f_numbers a), .int (S.O_FountainCodeModel.f_peeled a), .long (S.O_FountainCodeModel.f_peeledMask a), va_rf (S.O_FountainCodeModel.f_order a), va_rf (S.O_FountainCodeModel.f_by a), va_rf (S.O_FountainCodeModel.f_rows a), va_rf v, va_rf (S.O_FountainCodeModel.f_rowsKept a), va_rf (S.O_FountainCodeModel.f_rowNumbersKept a), .long (S.O_FountainCodeModel.f_reduced a), .int (S.O_FountainCodeModel.f_reducedNumber a), .long (S.O_FountainCodeModel.f_generator a), .int (S.O_FountainCodeModel.f_drawnMany a), va_rf (S.O_FountainCodeModel.f_drawn a)])) b = wPF cyI cyJ { S with O_FountainCodeModel := { S.O_FountainCodeModel with f_rowNumbers := va_up S.O_FountainCodeModel.f_rowNumbers a v } } b := by by_cases hb : b = a <;> first | (simp only [wPF, va_up_ne _ _ hb]; done) | (simp only [wPF, va_up, if_neg hb]; done) | simp [wPF, va_re, va_up, va_rf, hb, h]
theorem wPu_O_FountainCodeModel_f_rowNumbers (cyI : ClassId) (cyJ : ClassId) (X : va_W) (S : wPS) {A : Nat → Prop} {a k : Nat} (hD : va_D A (X ++ va_pl S.L (wPF cyI cyJ S))) (hL : a ∈ S.L) (h : S.K a = 6) (hk : (X ++ va_pl S.L (wPF cyI cyJ S))[k]? = some (a, wPF cyI cyJ S a)) (v : Option Nat) : (X ++ va_pl S.L (wPF cyI cyJ S)).set k (a, .inr (6, [.int (S.O_FountainCodeModel.f_refusal a), va_rf (S.O_FountainCodeModel.f_weights a), .int (S.O_FountainCodeModel.f_sources a), .int (S.O_FountainCodeModel.f_blocks a), va_rf (S.O_FountainCodeModel.f_values a), .int (S.O_FountainCodeModel.f_many a), .int (S.O_FountainCodeModel.f_drops a), va_rf (S.O_FountainCodeModel.f_masks a), va_rf (S.O_FountainCodeModel.f_numbers a), .int (S.O_FountainCodeModel.f_peeled a), .long (S.O_FountainCodeModel.f_peeledMask a), va_rf (S.O_FountainCodeModel.f_order a), va_rf (S.O_FountainCodeModel.f_by a), va_rf (S.O_FountainCodeModel.f_rows a), va_rf v, va_rf (S.O_FountainCodeModel.f_rowsKept a), va_rf (S.O_FountainCodeModel.f_rowNumbersKept a), .long (S.O_FountainCodeModel.f_reduced a), .int (S.O_FountainCodeModel.f_reducedNumber a), .long (S.O_FountainCodeModel.f_generator a), .int (S.O_FountainCodeModel.f_drawnMany a), va_rf (S.O_FountainCodeModel.f_drawn a)])) = X ++ va_pl S.L (wPF cyI cyJ { S with O_FountainCodeModel := { S.O_FountainCodeModel with f_rowNumbers := va_up S.O_FountainCodeModel.f_rowNumbers a v } }) := by
  rw [va_pl_set hD hL hk]
  exact congrArg (fun l => X ++ l) (va_pl_congr (wSt_O_FountainCodeModel_f_rowNumbers cyI cyJ S h v))
theorem wSt_O_FountainCodeModel_f_rowsKept (cyI : ClassId) (cyJ : ClassId) (S : wPS) {a : Nat} (h : S.K a = 6) (v : Option Nat) (b : Nat) : va_up (wPF cyI cyJ S) a (.inr (6, [.int (S.O_FountainCodeModel.f_refusal a), va_rf (S.O_FountainCodeModel.f_weights a), .int (S.O_FountainCodeModel.f_sources a), .int (S.O_FountainCodeModel.f_blocks a), va_rf (S.O_FountainCodeModel.f_values a), .int (S.O_FountainCodeModel.f_many a), .int (S.O_FountainCodeModel.f_drops a), va_rf (S.O_FountainCodeModel.f_masks a), va_rf (S.O_FountainCodeModel.f_numbers a), .int (S.O_FountainCodeModel.f_peeled a), .long (S.O_FountainCodeModel.f_peeledMask a), va_rf (S.O_FountainCodeModel.f_order a), va_rf (S.O_FountainCodeModel.f_by a), va_rf (S.O_FountainCodeModel.f_rows a), va_rf (S.O_FountainCodeModel.f_rowNumbers a), va_rf v, va_rf (S.O_FountainCodeModel.f_rowNumbersKept a), .long (S.O_FountainCodeModel.f_reduced a), .int (S.O_FountainCodeModel.f_reducedNumber a), .long (S.O_FountainCodeModel.f_generator a), .int (S.O_FountainCodeModel.f_drawnMany a), va_rf (S.O_FountainCodeModel.f_drawn a)])) b = wPF cyI cyJ { S with O_FountainCodeModel := { S.O_FountainCodeModel with f_rowsKept := va_up S.O_FountainCodeModel.f_rowsKept a v } } b := by by_cases hb : b = a <;> first | (simp only [wPF, va_up_ne _ _ hb]; done) | (simp only [wPF, va_up, if_neg hb]; done) | simp [wPF, va_re, va_up, va_rf, hb, h]
theorem wPu_O_FountainCodeModel_f_rowsKept (cyI : ClassId) (cyJ : ClassId) (X : va_W) (S : wPS) {A : Nat → Prop} {a k : Nat} (hD : va_D A (X ++ va_pl S.L (wPF cyI cyJ S))) (hL : a ∈ S.L) (h : S.K a = 6) (hk : (X ++ va_pl S.L (wPF cyI cyJ S))[k]? = some (a, wPF cyI cyJ S a)) (v : Option Nat) : (X ++ va_pl S.L (wPF cyI cyJ S)).set k (a, .inr (6, [.int (S.O_FountainCodeModel.f_refusal a), va_rf (S.O_FountainCodeModel.f_weights a), .int (S.O_FountainCodeModel.f_sources a), .int (S.O_FountainCodeModel.f_blocks a), va_rf (S.O_FountainCodeModel.f_values a), .int (S.O_FountainCodeModel.f_many a), .int (S.O_FountainCodeModel.f_drops a), va_rf (S.O_FountainCodeModel.f_masks a), va_rf (S.O_FountainCodeModel.f_numbers a), .int (S.O_FountainCodeModel.f_peeled a), .long (S.O_FountainCodeModel.f_peeledMask a), va_rf (S.O_FountainCodeModel.f_order a), va_rf (S.O_FountainCodeModel.f_by a), va_rf (S.O_FountainCodeModel.f_rows a), va_rf (S.O_FountainCodeModel.f_rowNumbers a), va_rf v, va_rf (S.O_FountainCodeModel.f_rowNumbersKept a), .long (S.O_FountainCodeModel.f_reduced a), .int (S.O_FountainCodeModel.f_reducedNumber a), .long (S.O_FountainCodeModel.f_generator a), .int (S.O_FountainCodeModel.f_drawnMany a), va_rf (S.O_FountainCodeModel.f_drawn a)])) = X ++ va_pl S.L (wPF cyI cyJ { S with O_FountainCodeModel := { S.O_FountainCodeModel with f_rowsKept := va_up S.O_FountainCodeModel.f_rowsKept a v } }) := by
  rw [va_pl_set hD hL hk]
  exact congrArg (fun l => X ++ l) (va_pl_congr (wSt_O_FountainCodeModel_f_rowsKept cyI cyJ S h v))
theorem wSt_O_FountainCodeModel_f_rowNumbersKept (cyI : ClassId) (cyJ : ClassId) (S : wPS) {a : Nat} (h : S.K a = 6) (v : Option Nat) (b : Nat) : va_up (wPF cyI cyJ S) a (.inr (6, [.int (S.O_FountainCodeModel.f_refusal a), va_rf (S.O_FountainCodeModel.f_weights a), .int (S.O_FountainCodeModel.f_sources a), .int (S.O_FountainCodeModel.f_blocks a), va_rf (S.O_FountainCodeModel.f_values a), .int (S.O_FountainCodeModel.f_many a), .int (S.O_FountainCodeModel.f_drops a), va_rf (S.O_FountainCodeModel.f_masks a), va_rf (S.O_FountainCodeModel.f_numbers a), .int (S.O_FountainCodeModel.f_peeled a), .long (S.O_FountainCodeModel.f_peeledMask a), va_rf (S.O_FountainCodeModel.f_order a), va_rf (S.O_FountainCodeModel.f_by a), va_rf (S.O_FountainCodeModel.f_rows a), va_rf (S.O_FountainCodeModel.f_rowNumbers a), va_rf (S.O_FountainCodeModel.f_rowsKept a), va_rf v, .long (S.O_FountainCodeModel.f_reduced a), .int (S.O_FountainCodeModel.f_reducedNumber a), .long (S.O_FountainCodeModel.f_generator a), .int (S.O_FountainCodeModel.f_drawnMany a), va_rf (S.O_FountainCodeModel.f_drawn a)])) b = wPF cyI cyJ { S with O_FountainCodeModel := { S.O_FountainCodeModel with f_rowNumbersKept := va_up S.O_FountainCodeModel.f_rowNumbersKept a v } } b := by by_cases hb : b = a <;> first | (simp only [wPF, va_up_ne _ _ hb]; done) | (simp only [wPF, va_up, if_neg hb]; done) | simp [wPF, va_re, va_up, va_rf, hb, h]
theorem wPu_O_FountainCodeModel_f_rowNumbersKept (cyI : ClassId) (cyJ : ClassId) (X : va_W) (S : wPS) {A : Nat → Prop} {a k : Nat} (hD : va_D A (X ++ va_pl S.L (wPF cyI cyJ S))) (hL : a ∈ S.L) (h : S.K a = 6) (hk : (X ++ va_pl S.L (wPF cyI cyJ S))[k]? = some (a, wPF cyI cyJ S a)) (v : Option Nat) : (X ++ va_pl S.L (wPF cyI cyJ S)).set k (a, .inr (6, [.int (S.O_FountainCodeModel.f_refusal a), va_rf (S.O_FountainCodeModel.f_weights a), .int (S.O_FountainCodeModel.f_sources a), .int (S.O_FountainCodeModel.f_blocks a), va_rf (S.O_FountainCodeModel.f_values a), .int (S.O_FountainCodeModel.f_many a), .int (S.O_FountainCodeModel.f_drops a), va_rf (S.O_FountainCodeModel.f_masks a), va_rf (S.O_FountainCodeModel.f_numbers a), .int (S.O_FountainCodeModel.f_peeled a), .long (S.O_FountainCodeModel.f_peeledMask a), va_rf (S.O_FountainCodeModel.f_order a), va_rf (S.O_FountainCodeModel.f_by a), va_rf (S.O_FountainCodeModel.f_rows a), va_rf (S.O_FountainCodeModel.f_rowNumbers a), va_rf (S.O_FountainCodeModel.f_rowsKept a), va_rf v, .long (S.O_FountainCodeModel.f_reduced a), .int (S.O_FountainCodeModel.f_reducedNumber a), .long (S.O_FountainCodeModel.f_generator a), .int (S.O_FountainCodeModel.f_drawnMany a), va_rf (S.O_FountainCodeModel.f_drawn a)])) = X ++ va_pl S.L (wPF cyI cyJ { S with O_FountainCodeModel := { S.O_FountainCodeModel with f_rowNumbersKept := va_up S.O_FountainCodeModel.f_rowNumbersKept a v } }) := by
  rw [va_pl_set hD hL hk]
  exact congrArg (fun l => X ++ l) (va_pl_congr (wSt_O_FountainCodeModel_f_rowNumbersKept cyI cyJ S h v))
theorem wSt_O_FountainCodeModel_f_reduced (cyI : ClassId) (cyJ : ClassId) (S : wPS) {a : Nat} (h : S.K a = 6) (v : Int64) (b : Nat) : va_up (wPF cyI cyJ S) a (.inr (6, [.int (S.O_FountainCodeModel.f_refusal a), va_rf (S.O_FountainCodeModel.f_weights a), .int (S.O_FountainCodeModel.f_sources a), .int (S.O_FountainCodeModel.f_blocks a), va_rf (S.O_FountainCodeModel.f_values a), .int (S.O_FountainCodeModel.f_many a), .int (S.O_FountainCodeModel.f_drops a), va_rf (S.O_FountainCodeModel.f_masks a), va_rf (S.O_FountainCodeModel.f_numbers a), .int (S.O_FountainCodeModel.f_peeled a), .long (S.O_FountainCodeModel.f_peeledMask a), va_rf (S.O_FountainCodeModel.f_order a), va_rf (S.O_FountainCodeModel.f_by a), va_rf (S.O_FountainCodeModel.f_rows a), va_rf (S.O_FountainCodeModel.f_rowNumbers a), va_rf (S.O_FountainCodeModel.f_rowsKept a), va_rf (S.O_FountainCodeModel.f_rowNumbersKept a), .long v, .int (S.O_FountainCodeModel.f_reducedNumber a), .long (S.O_FountainCodeModel.f_generator a), .int (S.O_FountainCodeModel.f_drawnMany a), va_rf (S.O_FountainCodeModel.f_drawn a)])) b = wPF cyI cyJ { S with O_FountainCodeModel := { S.O_FountainCodeModel with f_reduced := va_up S.O_FountainCodeModel.f_reduced a v } } b := by by_cases hb : b = a <;> first | (simp only [wPF, va_up_ne _ _ hb]; done) | (simp only [wPF, va_up, if_neg hb]; done) | simp [wPF, va_re, va_up, va_rf, hb, h]
theorem wPu_O_FountainCodeModel_f_reduced (cyI : ClassId) (cyJ : ClassId) (X : va_W) (S : wPS) {A : Nat → Prop} {a k : Nat} (hD : va_D A (X ++ va_pl S.L (wPF cyI cyJ S))) (hL : a ∈ S.L) (h : S.K a = 6) (hk : (X ++ va_pl S.L (wPF cyI cyJ S))[k]? = some (a, wPF cyI cyJ S a)) (v : Int64) : (X ++ va_pl S.L (wPF cyI cyJ S)).set k (a, .inr (6, [.int (S.O_FountainCodeModel.f_refusal a), va_rf (S.O_FountainCodeModel.f_weights a), .int (S.O_FountainCodeModel.f_sources a), .int (S.O_FountainCodeModel.f_blocks a), va_rf (S.O_FountainCodeModel.f_values a), .int (S.O_FountainCodeModel.f_many a), .int (S.O_FountainCodeModel.f_drops a), va_rf (S.O_FountainCodeModel.f_masks a), va_rf (S.O_FountainCodeModel.f_numbers a), .int (S.O_FountainCodeModel.f_peeled a), .long (S.O_FountainCodeModel.f_peeledMask a), va_rf (S.O_FountainCodeModel.f_order a), va_rf (S.O_FountainCodeModel.f_by a), va_rf (S.O_FountainCodeModel.f_rows a), va_rf (S.O_FountainCodeModel.f_rowNumbers a), va_rf (S.O_FountainCodeModel.f_rowsKept a), va_rf (S.O_FountainCodeModel.f_rowNumbersKept a), .long v, .int (S.O_FountainCodeModel.f_reducedNumber a), .long (S.O_FountainCodeModel.f_generator a), .int (S.O_FountainCodeModel.f_drawnMany a), va_rf (S.O_FountainCodeModel.f_drawn a)])) = X ++ va_pl S.L (wPF cyI cyJ { S with O_FountainCodeModel := { S.O_FountainCodeModel with f_reduced := va_up S.O_FountainCodeModel.f_reduced a v } }) := by
  rw [va_pl_set hD hL hk]
  exact congrArg (fun l => X ++ l) (va_pl_congr (wSt_O_FountainCodeModel_f_reduced cyI cyJ S h v))
theorem wSt_O_FountainCodeModel_f_reducedNumber (cyI : ClassId) (cyJ : ClassId) (S : wPS) {a : Nat} (h : S.K a = 6) (v : Int32) (b : Nat) : va_up (wPF cyI cyJ S) a (.inr (6, [.int (S.O_FountainCodeModel.f_refusal a), va_rf (S.O_FountainCodeModel.f_weights a), .int (S.O_FountainCodeModel.f_sources a), .int (S.O_FountainCodeModel.f_blocks a), va_rf (S.O_FountainCodeModel.f_values a), .int (S.O_FountainCodeModel.f_many a), .int (S.O_FountainCodeModel.f_drops a), va_rf (S.O_FountainCodeModel.f_masks a), va_rf (S.O_FountainCodeModel.f_numbers a), .int (S.O_FountainCodeModel.f_peeled a), .long (S.O_FountainCodeModel.f_peeledMask a), va_rf (S.O_FountainCodeModel.f_order a), va_rf (S.O_FountainCodeModel.f_by a), va_rf (S.O_FountainCodeModel.f_rows a), va_rf (S.O_FountainCodeModel.f_rowNumbers a), va_rf (S.O_FountainCodeModel.f_rowsKept a), va_rf (S.O_FountainCodeModel.f_rowNumbersKept a), .long (S.O_FountainCodeModel.f_reduced a), .int v, .long (S.O_FountainCodeModel.f_generator a), .int (S.O_FountainCodeModel.f_drawnMany a), va_rf (S.O_FountainCodeModel.f_drawn a)])) b = wPF cyI cyJ { S with O_FountainCodeModel := { S.O_FountainCodeModel with f_reducedNumber := va_up S.O_FountainCodeModel.f_reducedNumber a v } } b := by by_cases hb : b = a <;> first | (simp only [wPF, va_up_ne _ _ hb]; done) | (simp only [wPF, va_up, if_neg hb]; done) | simp [wPF, va_re, va_up, va_rf, hb, h]
theorem wPu_O_FountainCodeModel_f_reducedNumber (cyI : ClassId) (cyJ : ClassId) (X : va_W) (S : wPS) {A : Nat → Prop} {a k : Nat} (hD : va_D A (X ++ va_pl S.L (wPF cyI cyJ S))) (hL : a ∈ S.L) (h : S.K a = 6) (hk : (X ++ va_pl S.L (wPF cyI cyJ S))[k]? = some (a, wPF cyI cyJ S a)) (v : Int32) : (X ++ va_pl S.L (wPF cyI cyJ S)).set k (a, .inr (6, [.int (S.O_FountainCodeModel.f_refusal a), va_rf (S.O_FountainCodeModel.f_weights a), .int (S.O_FountainCodeModel.f_sources a), .int (S.O_FountainCodeModel.f_blocks a), va_rf (S.O_FountainCodeModel.f_values a), .int (S.O_FountainCodeModel.f_many a), .int (S.O_FountainCodeModel.f_drops a), va_rf (S.O_FountainCodeModel.f_masks a), va_rf (S.O_FountainCodeModel.f_numbers a), .int (S.O_FountainCodeModel.f_peeled a), .long (S.O_FountainCodeModel.f_peeledMask a), va_rf (S.O_FountainCodeModel.f_order a), va_rf (S.O_FountainCodeModel.f_by a), va_rf (S.O_FountainCodeModel.f_rows a), va_rf (S.O_FountainCodeModel.f_rowNumbers a), va_rf (S.O_FountainCodeModel.f_rowsKept a), va_rf (S.O_FountainCodeModel.f_rowNumbersKept a), .long (S.O_FountainCodeModel.f_reduced a), .int v, .long (S.O_FountainCodeModel.f_generator a), .int (S.O_FountainCodeModel.f_drawnMany a), va_rf (S.O_FountainCodeModel.f_drawn a)])) = X ++ va_pl S.L (wPF cyI cyJ { S with O_FountainCodeModel := { S.O_FountainCodeModel with f_reducedNumber := va_up S.O_FountainCodeModel.f_reducedNumber a v } }) := by
  rw [va_pl_set hD hL hk]
  exact congrArg (fun l => X ++ l) (va_pl_congr (wSt_O_FountainCodeModel_f_reducedNumber cyI cyJ S h v))
theorem wSt_O_FountainCodeModel_f_generator (cyI : ClassId) (cyJ : ClassId) (S : wPS) {a : Nat} (h : S.K a = 6) (v : Int64) (b : Nat) : va_up (wPF cyI cyJ S) a (.inr (6, [.int (S.O_FountainCodeModel.f_refusal a), va_rf (S.O_FountainCodeModel.f_weights a), .int (S.O_FountainCodeModel.f_sources a), .int (S.O_FountainCodeModel.f_blocks a), va_rf (S.O_FountainCodeModel.f_values a), .int (S.O_FountainCodeModel.f_many a), .int (S.O_FountainCodeModel.f_drops a), va_rf (S.O_FountainCodeModel.f_masks a), va_rf (S.O_FountainCodeModel.f_numbers a), .int (S.O_FountainCodeModel.f_peeled a), .long (S.O_FountainCodeModel.f_peeledMask a), va_rf (S.O_FountainCodeModel.f_order a), va_rf (S.O_FountainCodeModel.f_by a), va_rf (S.O_FountainCodeModel.f_rows a), va_rf (S.O_FountainCodeModel.f_rowNumbers a), va_rf (S.O_FountainCodeModel.f_rowsKept a), va_rf (S.O_FountainCodeModel.f_rowNumbersKept a), .long (S.O_FountainCodeModel.f_reduced a), .int (S.O_FountainCodeModel.f_reducedNumber a), .long v, .int (S.O_FountainCodeModel.f_drawnMany a), va_rf (S.O_FountainCodeModel.f_drawn a)])) b = wPF cyI cyJ { S with O_FountainCodeModel := { S.O_FountainCodeModel with f_generator := va_up S.O_FountainCodeModel.f_generator a v } } b := by by_cases hb : b = a <;> first | (simp only [wPF, va_up_ne _ _ hb]; done) | (simp only [wPF, va_up, if_neg hb]; done) | simp [wPF, va_re, va_up, va_rf, hb, h]
theorem wPu_O_FountainCodeModel_f_generator (cyI : ClassId) (cyJ : ClassId) (X : va_W) (S : wPS) {A : Nat → Prop} {a k : Nat} (hD : va_D A (X ++ va_pl S.L (wPF cyI cyJ S))) (hL : a ∈ S.L) (h : S.K a = 6) (hk : (X ++ va_pl S.L (wPF cyI cyJ S))[k]? = some (a, wPF cyI cyJ S a)) (v : Int64) : (X ++ va_pl S.L (wPF cyI cyJ S)).set k (a, .inr (6, [.int (S.O_FountainCodeModel.f_refusal a), va_rf (S.O_FountainCodeModel.f_weights a), .int (S.O_FountainCodeModel.f_sources a), .int (S.O_FountainCodeModel.f_blocks a), va_rf (S.O_FountainCodeModel.f_values a), .int (S.O_FountainCodeModel.f_many a), .int (S.O_FountainCodeModel.f_drops a), va_rf (S.O_FountainCodeModel.f_masks a), va_rf (S.O_FountainCodeModel.f_numbers a), .int (S.O_FountainCodeModel.f_peeled a), .long (S.O_FountainCodeModel.f_peeledMask a), va_rf (S.O_FountainCodeModel.f_order a), va_rf (S.O_FountainCodeModel.f_by a), va_rf (S.O_FountainCodeModel.f_rows a), va_rf (S.O_FountainCodeModel.f_rowNumbers a), va_rf (S.O_FountainCodeModel.f_rowsKept a), va_rf (S.O_FountainCodeModel.f_rowNumbersKept a), .long (S.O_FountainCodeModel.f_reduced a), .int (S.O_FountainCodeModel.f_reducedNumber a), .long v, .int (S.O_FountainCodeModel.f_drawnMany a), va_rf (S.O_FountainCodeModel.f_drawn a)])) = X ++ va_pl S.L (wPF cyI cyJ { S with O_FountainCodeModel := { S.O_FountainCodeModel with f_generator := va_up S.O_FountainCodeModel.f_generator a v } }) := by
  rw [va_pl_set hD hL hk]
  exact congrArg (fun l => X ++ l) (va_pl_congr (wSt_O_FountainCodeModel_f_generator cyI cyJ S h v))
theorem wSt_O_FountainCodeModel_f_drawnMany (cyI : ClassId) (cyJ : ClassId) (S : wPS) {a : Nat} (h : S.K a = 6) (v : Int32) (b : Nat) : va_up (wPF cyI cyJ S) a (.inr (6, [.int (S.O_FountainCodeModel.f_refusal a), va_rf (S.O_FountainCodeModel.f_weights a), .int (S.O_FountainCodeModel.f_sources a), .int (S.O_FountainCodeModel.f_blocks a), va_rf (S.O_FountainCodeModel.f_values a), .int (S.O_FountainCodeModel.f_many a), .int (S.O_FountainCodeModel.f_drops a), va_rf (S.O_FountainCodeModel.f_masks a), va_rf (S.O_FountainCodeModel.f_numbers a), .int (S.O_FountainCodeModel.f_peeled a), .long (S.O_FountainCodeModel.f_peeledMask a), va_rf (S.O_FountainCodeModel.f_order a), va_rf (S.O_FountainCodeModel.f_by a), va_rf (S.O_FountainCodeModel.f_rows a), va_rf (S.O_FountainCodeModel.f_rowNumbers a), va_rf (S.O_FountainCodeModel.f_rowsKept a), va_rf (S.O_FountainCodeModel.f_rowNumbersKept a), .long (S.O_FountainCodeModel.f_reduced a), .int (S.O_FountainCodeModel.f_reducedNumber a), .long (S.O_FountainCodeModel.f_generator a), .int v, va_rf (S.O_FountainCodeModel.f_drawn a)])) b = wPF cyI cyJ { S with O_FountainCodeModel := { S.O_FountainCodeModel with f_drawnMany := va_up S.O_FountainCodeModel.f_drawnMany a v } } b := by by_cases hb : b = a <;> first | (simp only [wPF, va_up_ne _ _ hb]; done) | (simp only [wPF, va_up, if_neg hb]; done) | simp [wPF, va_re, va_up, va_rf, hb, h]
theorem wPu_O_FountainCodeModel_f_drawnMany (cyI : ClassId) (cyJ : ClassId) (X : va_W) (S : wPS) {A : Nat → Prop} {a k : Nat} (hD : va_D A (X ++ va_pl S.L (wPF cyI cyJ S))) (hL : a ∈ S.L) (h : S.K a = 6) (hk : (X ++ va_pl S.L (wPF cyI cyJ S))[k]? = some (a, wPF cyI cyJ S a)) (v : Int32) : (X ++ va_pl S.L (wPF cyI cyJ S)).set k (a, .inr (6, [.int (S.O_FountainCodeModel.f_refusal a), va_rf (S.O_FountainCodeModel.f_weights a), .int (S.O_FountainCodeModel.f_sources a), .int (S.O_FountainCodeModel.f_blocks a), va_rf (S.O_FountainCodeModel.f_values a), .int (S.O_FountainCodeModel.f_many a), .int (S.O_FountainCodeModel.f_drops a), va_rf (S.O_FountainCodeModel.f_masks a), va_rf (S.O_FountainCodeModel.f_numbers a), .int (S.O_FountainCodeModel.f_peeled a), .long (S.O_FountainCodeModel.f_peeledMask a), va_rf (S.O_FountainCodeModel.f_order a), va_rf (S.O_FountainCodeModel.f_by a), va_rf (S.O_FountainCodeModel.f_rows a), va_rf (S.O_FountainCodeModel.f_rowNumbers a), va_rf (S.O_FountainCodeModel.f_rowsKept a), va_rf (S.O_FountainCodeModel.f_rowNumbersKept a), .long (S.O_FountainCodeModel.f_reduced a), .int (S.O_FountainCodeModel.f_reducedNumber a), .long (S.O_FountainCodeModel.f_generator a), .int v, va_rf (S.O_FountainCodeModel.f_drawn a)])) = X ++ va_pl S.L (wPF cyI cyJ { S with O_FountainCodeModel := { S.O_FountainCodeModel with f_drawnMany := va_up S.O_FountainCodeModel.f_drawnMany a v } }) := by
  rw [va_pl_set hD hL hk]
  exact congrArg (fun l => X ++ l) (va_pl_congr (wSt_O_FountainCodeModel_f_drawnMany cyI cyJ S h v))
theorem wSt_O_FountainCodeModel_f_drawn (cyI : ClassId) (cyJ : ClassId) (S : wPS) {a : Nat} (h : S.K a = 6) (v : Option Nat) (b : Nat) : va_up (wPF cyI cyJ S) a (.inr (6, [.int (S.O_FountainCodeModel.f_refusal a), va_rf (S.O_FountainCodeModel.f_weights a), .int (S.O_FountainCodeModel.f_sources a), .int (S.O_FountainCodeModel.f_blocks a), va_rf (S.O_FountainCodeModel.f_values a), .int (S.O_FountainCodeModel.f_many a), .int (S.O_FountainCodeModel.f_drops a), va_rf (S.O_FountainCodeModel.f_masks a), va_rf (S.O_FountainCodeModel.f_numbers a), .int (S.O_FountainCodeModel.f_peeled a), .long (S.O_FountainCodeModel.f_peeledMask a), va_rf (S.O_FountainCodeModel.f_order a), va_rf (S.O_FountainCodeModel.f_by a), va_rf (S.O_FountainCodeModel.f_rows a), va_rf (S.O_FountainCodeModel.f_rowNumbers a), va_rf (S.O_FountainCodeModel.f_rowsKept a), va_rf (S.O_FountainCodeModel.f_rowNumbersKept a), .long (S.O_FountainCodeModel.f_reduced a), .int (S.O_FountainCodeModel.f_reducedNumber a), .long (S.O_FountainCodeModel.f_generator a), .int (S.O_FountainCodeModel.f_drawnMany a), va_rf v])) b = wPF cyI cyJ { S with O_FountainCodeModel := { S.O_FountainCodeModel with f_drawn := va_up S.O_FountainCodeModel.f_drawn a v } } b := by by_cases hb : b = a <;> first | (simp only [wPF, va_up_ne _ _ hb]; done) | (simp only [wPF, va_up, if_neg hb]; done) | simp [wPF, va_re, va_up, va_rf, hb, h]
theorem wPu_O_FountainCodeModel_f_drawn (cyI : ClassId) (cyJ : ClassId) (X : va_W) (S : wPS) {A : Nat → Prop} {a k : Nat} (hD : va_D A (X ++ va_pl S.L (wPF cyI cyJ S))) (hL : a ∈ S.L) (h : S.K a = 6) (hk : (X ++ va_pl S.L (wPF cyI cyJ S))[k]? = some (a, wPF cyI cyJ S a)) (v : Option Nat) : (X ++ va_pl S.L (wPF cyI cyJ S)).set k (a, .inr (6, [.int (S.O_FountainCodeModel.f_refusal a), va_rf (S.O_FountainCodeModel.f_weights a), .int (S.O_FountainCodeModel.f_sources a), .int (S.O_FountainCodeModel.f_blocks a), va_rf (S.O_FountainCodeModel.f_values a), .int (S.O_FountainCodeModel.f_many a), .int (S.O_FountainCodeModel.f_drops a), va_rf (S.O_FountainCodeModel.f_masks a), va_rf (S.O_FountainCodeModel.f_numbers a), .int (S.O_FountainCodeModel.f_peeled a), .long (S.O_FountainCodeModel.f_peeledMask a), va_rf (S.O_FountainCodeModel.f_order a), va_rf (S.O_FountainCodeModel.f_by a), va_rf (S.O_FountainCodeModel.f_rows a), va_rf (S.O_FountainCodeModel.f_rowNumbers a), va_rf (S.O_FountainCodeModel.f_rowsKept a), va_rf (S.O_FountainCodeModel.f_rowNumbersKept a), .long (S.O_FountainCodeModel.f_reduced a), .int (S.O_FountainCodeModel.f_reducedNumber a), .long (S.O_FountainCodeModel.f_generator a), .int (S.O_FountainCodeModel.f_drawnMany a), va_rf v])) = X ++ va_pl S.L (wPF cyI cyJ { S with O_FountainCodeModel := { S.O_FountainCodeModel with f_drawn := va_up S.O_FountainCodeModel.f_drawn a v } }) := by
  rw [va_pl_set hD hL hk]
  exact congrArg (fun l => X ++ l) (va_pl_congr (wSt_O_FountainCodeModel_f_drawn cyI cyJ S h v))
theorem wNw_O_FountainCodeModel (cyI : ClassId) (cyJ : ClassId) (S : wPS) (a b : Nat) : va_up (wPF cyI cyJ S) a (.inr (6, [.int 0, .null, .int 0, .int 0, .null, .int 0, .int 0, .null, .null, .int 0, .long 0, .null, .null, .null, .null, .null, .null, .long 0, .int 0, .long 0, .int 0, .null])) b = wPF cyI cyJ { S with L := S.L ++ [a], K := va_up S.K a 6, O_FountainCodeModel := { f_refusal := va_up S.O_FountainCodeModel.f_refusal a 0, f_weights := va_up S.O_FountainCodeModel.f_weights a none, f_sources := va_up S.O_FountainCodeModel.f_sources a 0, f_blocks := va_up S.O_FountainCodeModel.f_blocks a 0, f_values := va_up S.O_FountainCodeModel.f_values a none, f_many := va_up S.O_FountainCodeModel.f_many a 0, f_drops := va_up S.O_FountainCodeModel.f_drops a 0, f_masks := va_up S.O_FountainCodeModel.f_masks a none, f_numbers := va_up S.O_FountainCodeModel.f_numbers a none, f_peeled := va_up S.O_FountainCodeModel.f_peeled a 0, f_peeledMask := va_up S.O_FountainCodeModel.f_peeledMask a 0, f_order := va_up S.O_FountainCodeModel.f_order a none, f_by := va_up S.O_FountainCodeModel.f_by a none, f_rows := va_up S.O_FountainCodeModel.f_rows a none, f_rowNumbers := va_up S.O_FountainCodeModel.f_rowNumbers a none, f_rowsKept := va_up S.O_FountainCodeModel.f_rowsKept a none, f_rowNumbersKept := va_up S.O_FountainCodeModel.f_rowNumbersKept a none, f_reduced := va_up S.O_FountainCodeModel.f_reduced a 0, f_reducedNumber := va_up S.O_FountainCodeModel.f_reducedNumber a 0, f_generator := va_up S.O_FountainCodeModel.f_generator a 0, f_drawnMany := va_up S.O_FountainCodeModel.f_drawnMany a 0, f_drawn := va_up S.O_FountainCodeModel.f_drawn a none } } b := by by_cases hb : b = a <;> first | (simp only [wPF, va_up_ne _ _ hb]; done) | (simp only [wPF, va_up, if_neg hb]; done) | simp [wPF, va_re, va_up, va_rf, hb]
theorem wPn_O_FountainCodeModel (cyI : ClassId) (cyJ : ClassId) (X : va_W) (S : wPS) {a : Nat} (ha : a ∉ S.L) : (X ++ va_pl S.L (wPF cyI cyJ S)) ++ [(a, .inr (6, [.int 0, .null, .int 0, .int 0, .null, .int 0, .int 0, .null, .null, .int 0, .long 0, .null, .null, .null, .null, .null, .null, .long 0, .int 0, .long 0, .int 0, .null]))] = X ++ va_pl (S.L ++ [a]) (wPF cyI cyJ { S with L := S.L ++ [a], K := va_up S.K a 6, O_FountainCodeModel := { f_refusal := va_up S.O_FountainCodeModel.f_refusal a 0, f_weights := va_up S.O_FountainCodeModel.f_weights a none, f_sources := va_up S.O_FountainCodeModel.f_sources a 0, f_blocks := va_up S.O_FountainCodeModel.f_blocks a 0, f_values := va_up S.O_FountainCodeModel.f_values a none, f_many := va_up S.O_FountainCodeModel.f_many a 0, f_drops := va_up S.O_FountainCodeModel.f_drops a 0, f_masks := va_up S.O_FountainCodeModel.f_masks a none, f_numbers := va_up S.O_FountainCodeModel.f_numbers a none, f_peeled := va_up S.O_FountainCodeModel.f_peeled a 0, f_peeledMask := va_up S.O_FountainCodeModel.f_peeledMask a 0, f_order := va_up S.O_FountainCodeModel.f_order a none, f_by := va_up S.O_FountainCodeModel.f_by a none, f_rows := va_up S.O_FountainCodeModel.f_rows a none, f_rowNumbers := va_up S.O_FountainCodeModel.f_rowNumbers a none, f_rowsKept := va_up S.O_FountainCodeModel.f_rowsKept a none, f_rowNumbersKept := va_up S.O_FountainCodeModel.f_rowNumbersKept a none, f_reduced := va_up S.O_FountainCodeModel.f_reduced a 0, f_reducedNumber := va_up S.O_FountainCodeModel.f_reducedNumber a 0, f_generator := va_up S.O_FountainCodeModel.f_generator a 0, f_drawnMany := va_up S.O_FountainCodeModel.f_drawnMany a 0, f_drawn := va_up S.O_FountainCodeModel.f_drawn a none } }) := by
  rw [List.append_assoc, va_pl_push ha]
  exact congrArg (fun l => X ++ l) (va_pl_congr (wNw_O_FountainCodeModel cyI cyJ S a))
theorem wAt_R_I (cyI : ClassId) (cyJ : ClassId) (S : wPS) {a : Nat} (h : S.K a = 7) : wPF cyI cyJ S a = .inl (cyI, S.R_I.len a, .inl (S.R_I.row a)) := by simp [wPF, h]
theorem wGt_R_I (cyI : ClassId) (cyJ : ClassId) (X : va_W) (S : wPS) {a : Nat} (hL : a ∈ S.L) (h : S.K a = 7) : ∃ k : Nat, (X ++ va_pl S.L (wPF cyI cyJ S))[k]? = some (a, wPF cyI cyJ S a) ∧ (X ++ va_pl S.L (wPF cyI cyJ S))[k]? = some (a, .inl (cyI, S.R_I.len a, .inl (S.R_I.row a))) := by
  obtain ⟨k, hk⟩ := va_pl_get (X := X) (f := wPF cyI cyJ S) hL
  exact ⟨k, hk, hk.trans (congrArg (fun e => some (a, e)) (wAt_R_I cyI cyJ S h))⟩
theorem wSt_R_I_row (cyI : ClassId) (cyJ : ClassId) (S : wPS) {a : Nat} (h : S.K a = 7) (v : Nat → Int32) (b : Nat) : va_up (wPF cyI cyJ S) a (.inl (cyI, S.R_I.len a, .inl v)) b = wPF cyI cyJ { S with R_I := { S.R_I with row := va_up S.R_I.row a v } } b := by by_cases hb : b = a <;> first | (simp only [wPF, va_up_ne _ _ hb]; done) | (simp only [wPF, va_up, if_neg hb]; done) | simp [wPF, va_re, va_up, va_rf, hb, h]
theorem wPu_R_I_row (cyI : ClassId) (cyJ : ClassId) (X : va_W) (S : wPS) {A : Nat → Prop} {a k : Nat} (hD : va_D A (X ++ va_pl S.L (wPF cyI cyJ S))) (hL : a ∈ S.L) (h : S.K a = 7) (hk : (X ++ va_pl S.L (wPF cyI cyJ S))[k]? = some (a, wPF cyI cyJ S a)) (v : Nat → Int32) : (X ++ va_pl S.L (wPF cyI cyJ S)).set k (a, .inl (cyI, S.R_I.len a, .inl v)) = X ++ va_pl S.L (wPF cyI cyJ { S with R_I := { S.R_I with row := va_up S.R_I.row a v } }) := by
  rw [va_pl_set hD hL hk]
  exact congrArg (fun l => X ++ l) (va_pl_congr (wSt_R_I_row cyI cyJ S h v))
theorem wNw_R_I (cyI : ClassId) (cyJ : ClassId) (S : wPS) (a : Nat) (z : Nat) (f : Nat → Int32) (b : Nat) : va_up (wPF cyI cyJ S) a (.inl (cyI, z, .inl f)) b = wPF cyI cyJ { S with L := S.L ++ [a], K := va_up S.K a 7, R_I := { len := va_up S.R_I.len a z, row := va_up S.R_I.row a f } } b := by by_cases hb : b = a <;> first | (simp only [wPF, va_up_ne _ _ hb]; done) | (simp only [wPF, va_up, if_neg hb]; done) | simp [wPF, va_re, va_up, va_rf, hb]
theorem wAt_R_J (cyI : ClassId) (cyJ : ClassId) (S : wPS) {a : Nat} (h : S.K a = 8) : wPF cyI cyJ S a = .inl (cyJ, S.R_J.len a, .inr (.inl (S.R_J.row a))) := by simp [wPF, h]
theorem wGt_R_J (cyI : ClassId) (cyJ : ClassId) (X : va_W) (S : wPS) {a : Nat} (hL : a ∈ S.L) (h : S.K a = 8) : ∃ k : Nat, (X ++ va_pl S.L (wPF cyI cyJ S))[k]? = some (a, wPF cyI cyJ S a) ∧ (X ++ va_pl S.L (wPF cyI cyJ S))[k]? = some (a, .inl (cyJ, S.R_J.len a, .inr (.inl (S.R_J.row a)))) := by
  obtain ⟨k, hk⟩ := va_pl_get (X := X) (f := wPF cyI cyJ S) hL
  exact ⟨k, hk, hk.trans (congrArg (fun e => some (a, e)) (wAt_R_J cyI cyJ S h))⟩
theorem wSt_R_J_row (cyI : ClassId) (cyJ : ClassId) (S : wPS) {a : Nat} (h : S.K a = 8) (v : Nat → Int64) (b : Nat) : va_up (wPF cyI cyJ S) a (.inl (cyJ, S.R_J.len a, .inr (.inl v))) b = wPF cyI cyJ { S with R_J := { S.R_J with row := va_up S.R_J.row a v } } b := by by_cases hb : b = a <;> first | (simp only [wPF, va_up_ne _ _ hb]; done) | (simp only [wPF, va_up, if_neg hb]; done) | simp [wPF, va_re, va_up, va_rf, hb, h]
theorem wPu_R_J_row (cyI : ClassId) (cyJ : ClassId) (X : va_W) (S : wPS) {A : Nat → Prop} {a k : Nat} (hD : va_D A (X ++ va_pl S.L (wPF cyI cyJ S))) (hL : a ∈ S.L) (h : S.K a = 8) (hk : (X ++ va_pl S.L (wPF cyI cyJ S))[k]? = some (a, wPF cyI cyJ S a)) (v : Nat → Int64) : (X ++ va_pl S.L (wPF cyI cyJ S)).set k (a, .inl (cyJ, S.R_J.len a, .inr (.inl v))) = X ++ va_pl S.L (wPF cyI cyJ { S with R_J := { S.R_J with row := va_up S.R_J.row a v } }) := by
  rw [va_pl_set hD hL hk]
  exact congrArg (fun l => X ++ l) (va_pl_congr (wSt_R_J_row cyI cyJ S h v))
theorem wNw_R_J (cyI : ClassId) (cyJ : ClassId) (S : wPS) (a : Nat) (z : Nat) (f : Nat → Int64) (b : Nat) : va_up (wPF cyI cyJ S) a (.inl (cyJ, z, .inr (.inl f))) b = wPF cyI cyJ { S with L := S.L ++ [a], K := va_up S.K a 8, R_J := { len := va_up S.R_J.len a z, row := va_up S.R_J.row a f } } b := by by_cases hb : b = a <;> first | (simp only [wPF, va_up_ne _ _ hb]; done) | (simp only [wPF, va_up, if_neg hb]; done) | simp [wPF, va_re, va_up, va_rf, hb]
/-! ===== END printed: names ===== -/
