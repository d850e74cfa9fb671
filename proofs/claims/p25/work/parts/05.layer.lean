/-! the layer: a context, a world, contracts that say exactly what a method does -/
section VQ0
abbrev vq_G : Type := va_G × ClassId × ClassId
def vq_ty (G : vq_G) : List (ClassId × FieldType) := [(G.2.1, .int), (G.2.2, .long)]
/-- private members that another class of the nest calls -/
def vq_nest : List (String × Nat × MethodName) := [(RX5, 11, yX4_init), (RX5, 18, yX3_init), (RX5, 25, yX2_init), (RX5, 32, yX1_init), (RX5, 39, yX0_init), (RX3, 28, yX5_setOf), (RX1, 32, yX5_holds), (RX1, 48, yX5_lowestOf), (RX2, 55, yX5_lowestOf), (RX2, 58, yX5_setOf), (RX0, 53, yX5_setOf), (RX3, 43, yX5_holds), (RX1, 51, yX5_setOf)]
def vq_N (U : State) : Prop := ∀ q ∈ vq_nest, va_Nw (.methodLinkNest q.1 q.2.1 q.2.2 RX5) U
theorem vq_N.warm {s U : State} (hW : s.WarmedH U.vm) (h : vq_N s) : vq_N U := fun q hq => va_Nw.warmM hW (h q hq)
theorem vq_N.same {u U : State} (e : u.vm = U.vm) (h : vq_N u) : vq_N U := fun q hq => va_Nw.same rfl e (h q hq)
theorem vq_N.at {U : State} (h : vq_N U) (k : Nat) {a : String} {i : Nat} {y : MethodName} (hk : vq_nest[k]? = some (a, i, y)) : va_Nw (.methodLinkNest a i y RX5) U := h _ (List.mem_of_getElem? hk)
/-- a method's start -/
def vq_U (G : vq_G) (ws : va_W) (sz : Nat) (U : State) : Prop := U.heap.size = sz ∧ va_P G.1 vwCl ws U.heap ∧ va_K G.1 vwCl (vq_ty G) U ∧ va_D (fun _ => True) ws ∧ vq_N U
/-- its end -/
def vq_T (G : vq_G) (A : Nat → Prop) (ws : va_W) (t : State) : Prop := va_P G.1 vwCl ws t.heap ∧ va_D A ws
/-- the world while it runs -/
def vq_H (G : vq_G) (A : Nat → Prop) (s : State) (ws : va_W) (H : Heap) (locs : List Loc) : Prop := va_P G.1 vwCl ws H ∧ va_D A ws ∧ va_S A s.heap H locs
/-- what stays fixed while it runs -/
def vq_C (cc : ByteArray) (nL : Nat) (ret : Option FieldType) (Ts : List Cond) (own : String) (G : vq_G) (A : Nat → Prop) (p : Program) (s : State) (m : MethodId) (args : Array Value) (meth : Method) (c : Code) : Prop :=
  (p.tables.exec = Jvm.exec ∧ c.code = cc ∧ c.maxLocals = nL ∧ s.vm.findClass own = some m.cls ∧ ∀ w ∈ Ts, w.before args s = true) ∧ va_K G.1 vwCl (vq_ty G) s ∧ vq_N s ∧ (∀ q : Nat, s.heap.size ≤ q → A q) ∧ meth.locks = false ∧ meth.sig.returnType = ret
abbrev vq_i (l : Launch) (y : MethodName) (Ts : List Cond) (f lo : Nat) (G : vq_G) (as : List Value) (ws : va_W) (r : Int32) (ws' : va_W) : Prop := ∀ sz : Nat, Met l y Ts ({ frames := f, cells := 0, slots := 0, locals := lo } : Room) (va_Pc as (vq_U G ws sz)) (va_Qi (fun x (_ : Unit) => x = r) (fun _ => vq_T G (va_A ws sz) ws') (va_A ws sz)) 0 0 (va_A ws sz)
abbrev vq_l (l : Launch) (y : MethodName) (Ts : List Cond) (f lo : Nat) (G : vq_G) (as : List Value) (ws : va_W) (r : Int64) (ws' : va_W) : Prop := ∀ sz : Nat, Met l y Ts ({ frames := f, cells := 0, slots := 0, locals := lo } : Room) (va_Pc as (vq_U G ws sz)) (va_Ql (fun x (_ : Unit) => x = r) (fun _ => vq_T G (va_A ws sz) ws') (va_A ws sz)) 0 0 (va_A ws sz)
abbrev vq_v (l : Launch) (y : MethodName) (Ts : List Cond) (f lo : Nat) (G : vq_G) (as : List Value) (ws : va_W) (ws' : va_W) : Prop := ∀ sz : Nat, Met l y Ts ({ frames := f, cells := 0, slots := 0, locals := lo } : Room) (va_Pc as (vq_U G ws sz)) (va_Qv (fun (_ : Unit) => True) (fun _ => vq_T G (va_A ws sz) ws') (va_A ws sz)) 0 0 (va_A ws sz)
abbrev vq_r (l : Launch) (y : MethodName) (Ts : List Cond) (f lo : Nat) (G : vq_G) (as : List Value) (ws : va_W) (r : Nat) (ws' : va_W) : Prop := ∀ sz : Nat, Met l y Ts ({ frames := f, cells := 0, slots := 0, locals := lo } : Room) (va_Pc as (vq_U G ws sz)) (va_Qr (fun (_ : Unit) => True) (fun _ a t => a = r ∧ vq_T G (va_A ws sz) ws' t) (va_A ws sz)) 0 0 (va_A ws sz)
theorem vq_fb {G : vq_G} {as : List Value} {ws : va_W} {sz : Nat} : FrameBlind (va_Pc as (vq_U G ws sz)) := by
  intro a U g mk q
  obtain ⟨q0, q1, qP, qK, qD, qN⟩ := q
  exact ⟨q0, q1, qP, va_K.moved (u := U) (U := U.calling g mk a) (Vm.Alike.refl U.vm) qK, qD, vq_N.same rfl qN⟩
theorem q_fm {α β : Type} {f : α → Option β} : ∀ {is : List α} {ws : List β}, is.map f = ws.map some → is.filterMap f = ws := by
  intro is
  induction is with
  | nil => intro ws h; cases ws with
    | nil => rfl
    | cons => simp at h
  | cons i is ih => intro ws h; cases ws with
    | nil => simp at h
    | cons w ws =>
      simp only [List.map_cons, List.cons.injEq] at h
      rw [List.filterMap_cons, h.1]
      simp [ih h.2]
theorem vq_H.sub {G : vq_G} {A : Nat → Prop} {s : State} {ws ws' : va_W} {H : Heap} {locs : List Loc} (h : vq_H G A s ws H locs) (is : List Nat) (hn : va_nd is = true) (hs : is.map (fun i => ws[i]?) = ws'.map some) : vq_H G A s ws' H locs := ⟨h.1.sub is (q_fm hs), h.2.1.sub is hn hs, h.2.2⟩
theorem q_after {G : vq_G} {A : Nat → Prop} {s : State} {ws wc wr w1 w' : va_W} {H H1 : Heap} {locs locs1 : List Loc} (h : vq_H G A s ws H locs) (isC isR perm : List Nat) (hC : isC.map (fun i => ws[i]?) = wc.map some) (hR : isR.map (fun i => ws[i]?) = wr.map some) (hn : va_nd isR = true) (hdis : ∀ i ∈ isR, i ∉ isC) (hp : perm.map (fun i => (wr ++ w1)[i]?) = w'.map some) (hnp : va_nd perm = true)
    (hF : ∀ q, va_A wc H.size q → A q) (hk : ∀ q : Nat, q < H.size → ¬ va_A wc H.size q → H1[q]? = H[q]?) (hP1 : va_P G.1 vwCl w1 H1) (hD1 : va_D (va_A wc H.size) w1) (hS1 : va_S A s.heap H1 locs1) : vq_H G A s w' H1 locs1 := by
  obtain ⟨hP, hD⟩ := va_join h.1 h.2.1 isC isR hC hR hn hdis hk hF hP1 hD1
  exact vq_H.sub ⟨hP, hD, hS1⟩ perm hnp hp
/-- a row whose places are the same has one cell -/
theorem q_arrc {cA : ClassId} {n : Nat} {f g : Nat → Value} (h : ∀ j, j < n → f j = g j) : arrV cA n f = arrV cA n g := by
  unfold arrV
  congr 1
  apply Array.ext
  · simp
  · intro i h1 h2
    simp at h1 ⊢
    exact h i h1
theorem q_setsame {ws : va_W} {k : Nat} {x : Nat × va_E} : ∀ {ws : va_W} {k : Nat}, ws[k]? = some x → ws.set k x = ws := by
  intro ws
  induction ws with
  | nil => intro k h; simp at h
  | cons a as ih => intro k h; cases k with
    | zero => simp at h; simp [h]
    | succ k => simp at h; simp [ih h]
theorem q_reW {G : vq_G} {A : Nat → Prop} {s : State} {ws : va_W} {H : Heap} {locs : List Loc} (h : vq_H G A s ws H locs) (k : Nat) {a : Nat} {cA : ClassId} {x y : vp_A} (hk : ws[k]? = some (a, .inl (cA, x))) (hxy : vp_cell cA x = vp_cell cA y) : vq_H G A s (ws.set k (a, .inl (cA, y))) H locs := by
  refine ⟨fun j q hq => ?_, h.2.1.set hk, h.2.2⟩
  by_cases hj : j = k
  · subst hj
    have hl : j < ws.length := (List.getElem?_eq_some_iff.mp hk).1
    rw [List.getElem?_set_self hl] at hq
    cases hq
    have := h.1 j _ hk
    show H[a]? = some (vp_cell cA y)
    rw [← hxy]
    exact this
  · rw [List.getElem?_set_ne (by omega)] at hq
    exact h.1 j q hq
theorem q_reI {G : vq_G} {A : Nat → Prop} {s : State} {ws : va_W} {H : Heap} {locs : List Loc} (h : vq_H G A s ws H locs) (k : Nat) {a : Nat} {cA : ClassId} {n : Nat} {f : Nat → Int32} (g : Nat → Int32) (hk : ws[k]? = some (a, .inl (cA, n, .inl f))) (hfg : ∀ j, j < n → f j = g j) : vq_H G A s (ws.set k (a, .inl (cA, n, .inl g))) H locs := q_reW h k hk (by rw [vp_cell_i, vp_cell_i]; exact q_arrc (fun j hj => by rw [hfg j hj]))
theorem q_reL {G : vq_G} {A : Nat → Prop} {s : State} {ws : va_W} {H : Heap} {locs : List Loc} (h : vq_H G A s ws H locs) (k : Nat) {a : Nat} {cA : ClassId} {n : Nat} {f : Nat → Int64} (g : Nat → Int64) (hk : ws[k]? = some (a, .inl (cA, n, .inr (.inl f)))) (hfg : ∀ j, j < n → f j = g j) : vq_H G A s (ws.set k (a, .inl (cA, n, .inr (.inl g)))) H locs := q_reW h k hk (by rw [vp_cell_l, vp_cell_l]; exact q_arrc (fun j hj => by rw [hfg j hj]))
def q_b (b : Bool) : Int32 := if b then 1 else 0
theorem q_upN (g : Nat → Nat) (i x : Nat) : upd (fun j => nI (g j)) i (nI x) = fun j => nI (va_up g i x j) := by
  funext j
  unfold upd va_up
  by_cases h : j = i <;> simp [h]
theorem q_inc (k : Nat) : nI k + Int32.ofInt 1 = nI (k + 1) := nI_1 k
theorem vq_open {l : Launch} {y : MethodName} {Ts Ts' : List Cond} {f lo maxL mc ms : Nat} {cc : ByteArray} {ret : Option FieldType} {G : vq_G} {as : List Value} {ws : va_W} {Qc : (Nat → Prop) → Array Value → State → Outcome → State → Prop} (hy : plainName y.cls = true) (hw : Ts = .code y cc maxL ret :: Ts') (hn : (lg_sl as).length ≤ maxL)
    (body : ∀ p e s m args below meth c (A : Nat → Prop) (ls : Array Slot), vq_C cc maxL ret Ts y.cls G A p s m args meth c → vq_H G A s ws s.heap [] → meth.name = y.name → lv_has ls maxL (lv_args 0 as) → W p l e ({ frames := f, cells := mc, slots := ms, locals := lo } : Room) s m args below meth c s.heap [] 0 0 (MQ below (Qc A) args s mc ms A) (F0 m 0 ls [])) :
    ∀ sz : Nat, Met l y Ts ({ frames := f, cells := mc, slots := ms, locals := lo } : Room) (va_Pc as (vq_U G ws sz)) (Qc (va_A ws sz)) mc ms (va_A ws sz) := by
  intro sz
  refine Met.ofW (cc := cc) (maxL := maxL) (ret := ret) hy hw ?_
  intro p e s m args below meth c s₁ B hml hv
  obtain ⟨rfl, hsz, hP, hK, hD0, hN⟩ := hv
  subst hsz
  rw [lg_entry_eq]
  refine body p e s m _ below meth c _ _ ⟨⟨B.exec, B.bytes, hml, findClass_of_methodNamed B.named, atoms_spec (ws := Ts) B.pre⟩, hK, hN, fun q h => Or.inr h, B.notSynchronized, B.returns⟩ ⟨hP, hD0.self, va_S.rf⟩ (name_of_methodNamed B.named B.method).1 ?_
  exact lv_entry as hn
theorem vq_openi {l : Launch} {y : MethodName} {Ts Ts' : List Cond} {f lo maxL : Nat} {cc : ByteArray} {ret : Option FieldType} {G : vq_G} {as : List Value} {ws ws' : va_W} {r : Int32} (hy : plainName y.cls = true) (hw : Ts = .code y cc maxL ret :: Ts') (hn : (lg_sl as).length ≤ maxL)
    (body : ∀ p e s m args below meth c (A : Nat → Prop) (ls : Array Slot), vq_C cc maxL ret Ts y.cls G A p s m args meth c → vq_H G A s ws s.heap [] → meth.name = y.name → lv_has ls maxL (lv_args 0 as) → W p l e ({ frames := f, cells := 0, slots := 0, locals := lo } : Room) s m args below meth c s.heap [] 0 0 (MQ below (va_Qi (fun x (_ : Unit) => x = r) (fun _ => vq_T G A ws') A) args s 0 0 A) (F0 m 0 ls [])) : vq_i l y Ts f lo G as ws r ws' := vq_open (Qc := fun A => va_Qi (fun x (_ : Unit) => x = r) (fun _ => vq_T G A ws') A) hy hw hn body
theorem vq_openl {l : Launch} {y : MethodName} {Ts Ts' : List Cond} {f lo maxL : Nat} {cc : ByteArray} {ret : Option FieldType} {G : vq_G} {as : List Value} {ws ws' : va_W} {r : Int64} (hy : plainName y.cls = true) (hw : Ts = .code y cc maxL ret :: Ts') (hn : (lg_sl as).length ≤ maxL)
    (body : ∀ p e s m args below meth c (A : Nat → Prop) (ls : Array Slot), vq_C cc maxL ret Ts y.cls G A p s m args meth c → vq_H G A s ws s.heap [] → meth.name = y.name → lv_has ls maxL (lv_args 0 as) → W p l e ({ frames := f, cells := 0, slots := 0, locals := lo } : Room) s m args below meth c s.heap [] 0 0 (MQ below (va_Ql (fun x (_ : Unit) => x = r) (fun _ => vq_T G A ws') A) args s 0 0 A) (F0 m 0 ls [])) : vq_l l y Ts f lo G as ws r ws' := vq_open (Qc := fun A => va_Ql (fun x (_ : Unit) => x = r) (fun _ => vq_T G A ws') A) hy hw hn body
theorem vq_openv {l : Launch} {y : MethodName} {Ts Ts' : List Cond} {f lo maxL : Nat} {cc : ByteArray} {ret : Option FieldType} {G : vq_G} {as : List Value} {ws ws' : va_W} (hy : plainName y.cls = true) (hw : Ts = .code y cc maxL ret :: Ts') (hn : (lg_sl as).length ≤ maxL)
    (body : ∀ p e s m args below meth c (A : Nat → Prop) (ls : Array Slot), vq_C cc maxL ret Ts y.cls G A p s m args meth c → vq_H G A s ws s.heap [] → meth.name = y.name → lv_has ls maxL (lv_args 0 as) → W p l e ({ frames := f, cells := 0, slots := 0, locals := lo } : Room) s m args below meth c s.heap [] 0 0 (MQ below (va_Qv (fun (_ : Unit) => True) (fun _ => vq_T G A ws') A) args s 0 0 A) (F0 m 0 ls [])) : vq_v l y Ts f lo G as ws ws' := vq_open (Qc := fun A => va_Qv (fun (_ : Unit) => True) (fun _ => vq_T G A ws') A) hy hw hn body
theorem vq_openr {l : Launch} {y : MethodName} {Ts Ts' : List Cond} {f lo maxL : Nat} {cc : ByteArray} {ret : Option FieldType} {G : vq_G} {as : List Value} {ws ws' : va_W} {r : Nat} (hy : plainName y.cls = true) (hw : Ts = .code y cc maxL ret :: Ts') (hn : (lg_sl as).length ≤ maxL)
    (body : ∀ p e s m args below meth c (A : Nat → Prop) (ls : Array Slot), vq_C cc maxL ret Ts y.cls G A p s m args meth c → vq_H G A s ws s.heap [] → meth.name = y.name → lv_has ls maxL (lv_args 0 as) → W p l e ({ frames := f, cells := 0, slots := 0, locals := lo } : Room) s m args below meth c s.heap [] 0 0 (MQ below (va_Qr (fun (_ : Unit) => True) (fun _ a t => a = r ∧ vq_T G A ws' t) A) args s 0 0 A) (F0 m 0 ls [])) : vq_r l y Ts f lo G as ws r ws' := vq_open (Qc := fun A => va_Qr (fun (_ : Unit) => True) (fun _ a t => a = r ∧ vq_T G A ws' t) A) hy hw hn body
end VQ0
section VQ1
variable {p : Program} {l : Launch} {e : Env} {R : Room} {s : State} {m : MethodId} {args : Array Value} {below : List Frame} {meth : Method} {c : Code} {H : Heap} {locs : List Loc} {cells slots : Nat} {Q : State → Prop}
variable {cc : ByteArray} {pc : Nat} {ls : Array Slot} {rest : List Value}

theorem q_iadd (hx : p.tables.exec = Jvm.exec) (hb : c.code = cc) {a b : Nat} (hd : decode cc pc = .ok (.iadd, 1)) (k : W p l e R s m args below meth c H locs cells slots Q (F0 m (pc + 1) ls (.int (nI (a + b)) :: rest))) : W p l e R s m args below meth c H locs cells slots Q (F0 m pc ls (.int (nI b) :: .int (nI a) :: rest)) := lv_iadd hx hb hd (by rw [nI_add]; exact k)
theorem q_isub (hx : p.tables.exec = Jvm.exec) (hb : c.code = cc) {a b : Nat} (h : b ≤ a) (hd : decode cc pc = .ok (.isub, 1)) (k : W p l e R s m args below meth c H locs cells slots Q (F0 m (pc + 1) ls (.int (nI (a - b)) :: rest))) : W p l e R s m args below meth c H locs cells slots Q (F0 m pc ls (.int (nI b) :: .int (nI a) :: rest)) := lv_isub hx hb hd (by rw [pk_sub h]; exact k)
theorem q_top {v v' : Value} (h : v = v') (k : W p l e R s m args below meth c H locs cells slots Q (F0 m (pc) ls (v' :: rest))) : W p l e R s m args below meth c H locs cells slots Q (F0 m pc ls (v :: rest)) := by rw [h]; exact k

theorem q_icmp_eq (hx : p.tables.exec = Jvm.exec) (hb : c.code = cc) {a b : Nat} {off : Int} {tgt : Nat} (ha : a < 2 ^ 31) (hb2 : b < 2 ^ 31) (hd : decode cc pc = .ok (.if_icmp .eq off, 3)) (ht : (pc : Int) + off = (tgt : Int)) (kt : a = b → W p l e R s m args below meth c H locs cells slots Q (F0 m tgt ls rest)) (kf : a ≠ b → W p l e R s m args below meth c H locs cells slots Q (F0 m (pc + 3) ls rest)) : W p l e R s m args below meth c H locs cells slots Q (F0 m pc ls (.int (nI b) :: .int (nI a) :: rest)) := lv_icmp_eq hx hb hd ht (fun h => kt ((nI_eq ha hb2).mp h)) (fun h => kf (fun g => h ((nI_eq ha hb2).mpr g)))
theorem q_if_eq (hx : p.tables.exec = Jvm.exec) (hb : c.code = cc) {a : Nat} {off : Int} {tgt : Nat} (ha : a < 2 ^ 31) (hd : decode cc pc = .ok (.ifCond .eq off, 3)) (ht : (pc : Int) + off = (tgt : Int)) (kt : a = 0 → W p l e R s m args below meth c H locs cells slots Q (F0 m tgt ls rest)) (kf : a ≠ 0 → W p l e R s m args below meth c H locs cells slots Q (F0 m (pc + 3) ls rest)) : W p l e R s m args below meth c H locs cells slots Q (F0 m pc ls (.int (nI a) :: rest)) := lv_if_eq hx hb hd ht (fun h => kt ((nI_eq ha (show (0 : Nat) < 2 ^ 31 by decide)).mp h)) (fun h => kf (fun g => h ((nI_eq ha (show (0 : Nat) < 2 ^ 31 by decide)).mpr g)))
theorem q_icmp_ne (hx : p.tables.exec = Jvm.exec) (hb : c.code = cc) {a b : Nat} {off : Int} {tgt : Nat} (ha : a < 2 ^ 31) (hb2 : b < 2 ^ 31) (hd : decode cc pc = .ok (.if_icmp .ne off, 3)) (ht : (pc : Int) + off = (tgt : Int)) (kt : a ≠ b → W p l e R s m args below meth c H locs cells slots Q (F0 m tgt ls rest)) (kf : a = b → W p l e R s m args below meth c H locs cells slots Q (F0 m (pc + 3) ls rest)) : W p l e R s m args below meth c H locs cells slots Q (F0 m pc ls (.int (nI b) :: .int (nI a) :: rest)) := lv_icmp_ne hx hb hd ht (fun h => kt (fun g => h ((nI_eq ha hb2).mpr g))) (fun h => kf ((nI_eq ha hb2).mp h))
theorem q_if_ne (hx : p.tables.exec = Jvm.exec) (hb : c.code = cc) {a : Nat} {off : Int} {tgt : Nat} (ha : a < 2 ^ 31) (hd : decode cc pc = .ok (.ifCond .ne off, 3)) (ht : (pc : Int) + off = (tgt : Int)) (kt : a ≠ 0 → W p l e R s m args below meth c H locs cells slots Q (F0 m tgt ls rest)) (kf : a = 0 → W p l e R s m args below meth c H locs cells slots Q (F0 m (pc + 3) ls rest)) : W p l e R s m args below meth c H locs cells slots Q (F0 m pc ls (.int (nI a) :: rest)) := lv_if_ne hx hb hd ht (fun h => kt (fun g => h ((nI_eq ha (show (0 : Nat) < 2 ^ 31 by decide)).mpr g))) (fun h => kf ((nI_eq ha (show (0 : Nat) < 2 ^ 31 by decide)).mp h))
theorem q_icmp_lt (hx : p.tables.exec = Jvm.exec) (hb : c.code = cc) {a b : Nat} {off : Int} {tgt : Nat} (ha : a < 2 ^ 31) (hb2 : b < 2 ^ 31) (hd : decode cc pc = .ok (.if_icmp .lt off, 3)) (ht : (pc : Int) + off = (tgt : Int)) (kt : a < b → W p l e R s m args below meth c H locs cells slots Q (F0 m tgt ls rest)) (kf : b ≤ a → W p l e R s m args below meth c H locs cells slots Q (F0 m (pc + 3) ls rest)) : W p l e R s m args below meth c H locs cells slots Q (F0 m pc ls (.int (nI b) :: .int (nI a) :: rest)) := lv_icmp_lt hx hb hd ht (fun h => kt ((nI_ltI ha hb2).mp h)) (fun h => kf (Nat.le_of_not_lt fun g => h ((nI_ltI ha hb2).mpr g)))
theorem q_if_lt (hx : p.tables.exec = Jvm.exec) (hb : c.code = cc) {a : Nat} {off : Int} {tgt : Nat} (ha : a < 2 ^ 31) (hd : decode cc pc = .ok (.ifCond .lt off, 3)) (ht : (pc : Int) + off = (tgt : Int)) (kt : a < 0 → W p l e R s m args below meth c H locs cells slots Q (F0 m tgt ls rest)) (kf : 0 ≤ a → W p l e R s m args below meth c H locs cells slots Q (F0 m (pc + 3) ls rest)) : W p l e R s m args below meth c H locs cells slots Q (F0 m pc ls (.int (nI a) :: rest)) := lv_if_lt hx hb hd ht (fun h => kt ((nI_ltI ha (show (0 : Nat) < 2 ^ 31 by decide)).mp h)) (fun h => kf (Nat.le_of_not_lt fun g => h ((nI_ltI ha (show (0 : Nat) < 2 ^ 31 by decide)).mpr g)))
theorem q_icmp_ge (hx : p.tables.exec = Jvm.exec) (hb : c.code = cc) {a b : Nat} {off : Int} {tgt : Nat} (ha : a < 2 ^ 31) (hb2 : b < 2 ^ 31) (hd : decode cc pc = .ok (.if_icmp .ge off, 3)) (ht : (pc : Int) + off = (tgt : Int)) (kt : b ≤ a → W p l e R s m args below meth c H locs cells slots Q (F0 m tgt ls rest)) (kf : a < b → W p l e R s m args below meth c H locs cells slots Q (F0 m (pc + 3) ls rest)) : W p l e R s m args below meth c H locs cells slots Q (F0 m pc ls (.int (nI b) :: .int (nI a) :: rest)) := lv_icmp_ge hx hb hd ht (fun h => kt ((nI_leI hb2 ha).mp h)) (fun h => kf (Nat.lt_of_not_le fun g => h ((nI_leI hb2 ha).mpr g)))
theorem q_if_ge (hx : p.tables.exec = Jvm.exec) (hb : c.code = cc) {a : Nat} {off : Int} {tgt : Nat} (ha : a < 2 ^ 31) (hd : decode cc pc = .ok (.ifCond .ge off, 3)) (ht : (pc : Int) + off = (tgt : Int)) (kt : 0 ≤ a → W p l e R s m args below meth c H locs cells slots Q (F0 m tgt ls rest)) (kf : a < 0 → W p l e R s m args below meth c H locs cells slots Q (F0 m (pc + 3) ls rest)) : W p l e R s m args below meth c H locs cells slots Q (F0 m pc ls (.int (nI a) :: rest)) := lv_if_ge hx hb hd ht (fun h => kt ((nI_leI (show (0 : Nat) < 2 ^ 31 by decide) ha).mp h)) (fun h => kf (Nat.lt_of_not_le fun g => h ((nI_leI (show (0 : Nat) < 2 ^ 31 by decide) ha).mpr g)))
theorem q_icmp_gt (hx : p.tables.exec = Jvm.exec) (hb : c.code = cc) {a b : Nat} {off : Int} {tgt : Nat} (ha : a < 2 ^ 31) (hb2 : b < 2 ^ 31) (hd : decode cc pc = .ok (.if_icmp .gt off, 3)) (ht : (pc : Int) + off = (tgt : Int)) (kt : b < a → W p l e R s m args below meth c H locs cells slots Q (F0 m tgt ls rest)) (kf : a ≤ b → W p l e R s m args below meth c H locs cells slots Q (F0 m (pc + 3) ls rest)) : W p l e R s m args below meth c H locs cells slots Q (F0 m pc ls (.int (nI b) :: .int (nI a) :: rest)) := lv_icmp_gt hx hb hd ht (fun h => kt ((nI_ltI hb2 ha).mp h)) (fun h => kf (Nat.le_of_not_lt fun g => h ((nI_ltI hb2 ha).mpr g)))
theorem q_if_gt (hx : p.tables.exec = Jvm.exec) (hb : c.code = cc) {a : Nat} {off : Int} {tgt : Nat} (ha : a < 2 ^ 31) (hd : decode cc pc = .ok (.ifCond .gt off, 3)) (ht : (pc : Int) + off = (tgt : Int)) (kt : 0 < a → W p l e R s m args below meth c H locs cells slots Q (F0 m tgt ls rest)) (kf : a ≤ 0 → W p l e R s m args below meth c H locs cells slots Q (F0 m (pc + 3) ls rest)) : W p l e R s m args below meth c H locs cells slots Q (F0 m pc ls (.int (nI a) :: rest)) := lv_if_gt hx hb hd ht (fun h => kt ((nI_ltI (show (0 : Nat) < 2 ^ 31 by decide) ha).mp h)) (fun h => kf (Nat.le_of_not_lt fun g => h ((nI_ltI (show (0 : Nat) < 2 ^ 31 by decide) ha).mpr g)))
theorem q_icmp_le (hx : p.tables.exec = Jvm.exec) (hb : c.code = cc) {a b : Nat} {off : Int} {tgt : Nat} (ha : a < 2 ^ 31) (hb2 : b < 2 ^ 31) (hd : decode cc pc = .ok (.if_icmp .le off, 3)) (ht : (pc : Int) + off = (tgt : Int)) (kt : a ≤ b → W p l e R s m args below meth c H locs cells slots Q (F0 m tgt ls rest)) (kf : b < a → W p l e R s m args below meth c H locs cells slots Q (F0 m (pc + 3) ls rest)) : W p l e R s m args below meth c H locs cells slots Q (F0 m pc ls (.int (nI b) :: .int (nI a) :: rest)) := lv_icmp_le hx hb hd ht (fun h => kt ((nI_leI ha hb2).mp h)) (fun h => kf (Nat.lt_of_not_le fun g => h ((nI_leI ha hb2).mpr g)))
theorem q_if_le (hx : p.tables.exec = Jvm.exec) (hb : c.code = cc) {a : Nat} {off : Int} {tgt : Nat} (ha : a < 2 ^ 31) (hd : decode cc pc = .ok (.ifCond .le off, 3)) (ht : (pc : Int) + off = (tgt : Int)) (kt : a ≤ 0 → W p l e R s m args below meth c H locs cells slots Q (F0 m tgt ls rest)) (kf : 0 < a → W p l e R s m args below meth c H locs cells slots Q (F0 m (pc + 3) ls rest)) : W p l e R s m args below meth c H locs cells slots Q (F0 m pc ls (.int (nI a) :: rest)) := lv_if_le hx hb hd ht (fun h => kt ((nI_leI ha (show (0 : Nat) < 2 ^ 31 by decide)).mp h)) (fun h => kf (Nat.lt_of_not_le fun g => h ((nI_leI ha (show (0 : Nat) < 2 ^ 31 by decide)).mpr g)))
theorem q_ifb_eq (hx : p.tables.exec = Jvm.exec) (hb : c.code = cc) {b : Bool} {off : Int} {tgt : Nat} (hd : decode cc pc = .ok (.ifCond .eq off, 3)) (ht : (pc : Int) + off = (tgt : Int)) (kt : b = false → W p l e R s m args below meth c H locs cells slots Q (F0 m tgt ls rest)) (kf : b = true → W p l e R s m args below meth c H locs cells slots Q (F0 m (pc + 3) ls rest)) : W p l e R s m args below meth c H locs cells slots Q (F0 m pc ls (.int (q_b b) :: rest)) := by
  refine lv_if_eq hx hb hd ht (fun h => ?_) (fun h => ?_) <;> cases b <;> first | exact kt rfl | exact kf rfl | exact absurd h (by decide) | exact absurd (by decide) h
theorem q_ifb_ne (hx : p.tables.exec = Jvm.exec) (hb : c.code = cc) {b : Bool} {off : Int} {tgt : Nat} (hd : decode cc pc = .ok (.ifCond .ne off, 3)) (ht : (pc : Int) + off = (tgt : Int)) (kt : b = true → W p l e R s m args below meth c H locs cells slots Q (F0 m tgt ls rest)) (kf : b = false → W p l e R s m args below meth c H locs cells slots Q (F0 m (pc + 3) ls rest)) : W p l e R s m args below meth c H locs cells slots Q (F0 m pc ls (.int (q_b b) :: rest)) := by
  refine lv_if_ne hx hb hd ht (fun h => ?_) (fun h => ?_) <;> cases b <;> first | exact kt rfl | exact kf rfl | exact absurd h (by decide) | exact absurd (by decide) h
theorem q_lif_eq (hx : p.tables.exec = Jvm.exec) (hb : c.code = cc) {x y : Int64} {off : Int} {tgt : Nat} (hd : decode cc pc = .ok (.lcmp, 1)) (hd2 : decode cc (pc + 1) = .ok (.ifCond .eq off, 3)) (ht : ((pc + 1 : Nat) : Int) + off = (tgt : Int)) (kt : x = y → W p l e R s m args below meth c H locs cells slots Q (F0 m tgt ls rest)) (kf : x ≠ y → W p l e R s m args below meth c H locs cells slots Q (F0 m (pc + 1 + 3) ls rest)) : W p l e R s m args below meth c H locs cells slots Q (F0 m pc ls (.long y :: .long x :: rest)) := by
  refine W.lcmp hx hb hd ?_
  have hz : lg_cmp x y = 0 ↔ x = y := by
    unfold lg_cmp
    by_cases h1 : x > y
    · have : x ≠ y := fun h => by subst h; exact absurd h1 (by simp [Int64.lt_iff_toInt_lt])
      simp [h1, this]
    · by_cases h2 : x = y <;> simp [h1, h2]
  exact lv_if_eq hx hb hd2 ht (fun h => kt (hz.mp h)) (fun h => kf (fun g => h (hz.mpr g)))
theorem q_lif_ne (hx : p.tables.exec = Jvm.exec) (hb : c.code = cc) {x y : Int64} {off : Int} {tgt : Nat} (hd : decode cc pc = .ok (.lcmp, 1)) (hd2 : decode cc (pc + 1) = .ok (.ifCond .ne off, 3)) (ht : ((pc + 1 : Nat) : Int) + off = (tgt : Int)) (kt : x ≠ y → W p l e R s m args below meth c H locs cells slots Q (F0 m tgt ls rest)) (kf : x = y → W p l e R s m args below meth c H locs cells slots Q (F0 m (pc + 1 + 3) ls rest)) : W p l e R s m args below meth c H locs cells slots Q (F0 m pc ls (.long y :: .long x :: rest)) := by
  refine W.lcmp hx hb hd ?_
  have hz : lg_cmp x y = 0 ↔ x = y := by
    unfold lg_cmp
    by_cases h1 : x > y
    · have : x ≠ y := fun h => by subst h; exact absurd h1 (by simp [Int64.lt_iff_toInt_lt])
      simp [h1, this]
    · by_cases h2 : x = y <;> simp [h1, h2]
  exact lv_if_ne hx hb hd2 ht (fun h => kt (fun g => h (hz.mpr g))) (fun h => kf (hz.mp h))
end VQ1
section VQ2
variable {p : Program} {l : Launch} {e : Env} {R : Room} {s : State} {m : MethodId} {args : Array Value} {below : List Frame} {meth : Method} {c : Code} {H : Heap} {locs : List Loc} {cells slots : Nat} {Q : State → Prop}
variable {cc : ByteArray} {pc : Nat} {ls : Array Slot} {rest : List Value}
variable {nL : Nat} {ret : Option FieldType} {Ts : List Cond} {own : String} {G : vq_G} {A : Nat → Prop} {ws : va_W}

theorem q_get (C : vq_C cc nL ret Ts own G A p s m args meth c) (h : vq_H G A s ws H locs) {Cn : String} {T : u_T} {N ci index a : Nat} (hin : ∀ w ∈ u_ws Cn T N, w ∈ Ts) (q0 : Nat) {fs : List Value} (he : ws[q0]? = some (a, .inr (ci, fs))) (hc : vwCl[ci]? = some (Cn, T, N)) (k : Nat) (hk : k < N) (hlink : (Cond.fieldLink own index (T k).1 (T k).2.1 (T k).2.2.1).before args s = true) {v : Value} (hv : fs[k]? = some v) (hd : decode cc pc = .ok (.getfield index, 3))
    (kk : W p l e R s m args below meth c H locs cells slots Q (F0 m (pc + 3) ls (v :: rest))) : W p l e R s m args below meth c H locs cells slots Q (F0 m pc ls (.ref a :: rest)) := va_get C.1.1 C.1.2.1 C.1.2.2.2.2 hin C.1.2.2.2.1 C.2.1 h.1 q0 he hc k hk hlink (fun _ h9 => h9) hv hd kk
theorem q_put (C : vq_C cc nL ret Ts own G A p s m args meth c) (h : vq_H G A s ws H locs) {Cn : String} {T : u_T} {N ci index a : Nat} (hin : ∀ w ∈ u_ws Cn T N, w ∈ Ts) (ty0 : Nat → FieldType) (hty : ∀ k, k < N → parseFieldDescriptor (T k).2.2.1 = some (ty0 k)) (hnm : ∀ a, a < N → ∀ b, b < N → a ≠ b → (T a).2.1 ≠ (T b).2.1) (q0 : Nat) {fs : List Value} (he : ws[q0]? = some (a, .inr (ci, fs))) (hc : vwCl[ci]? = some (Cn, T, N)) (k : Nat) (hk : k < N) (hlink : (Cond.fieldLink own index (T k).1 (T k).2.1 (T k).2.2.1).before args s = true) (hfin : (T k).2.2.2 = false) {v : Value} (hn : narrow (ty0 k) v = v) (hfit : fits (ty0 k) v = true) (hl : k < fs.length) (hd : decode cc pc = .ok (.putfield index, 3)) {w' : va_W} (hw : ws.set q0 (a, .inr (ci, fs.set k v)) = w')
    (kk : ∀ (H : Heap) (locs : List Loc), vq_H G A s w' H locs → W p l e R s m args below meth c H locs cells slots Q (F0 m (pc + 3) ls (rest))) : W p l e R s m args below meth c H locs cells slots Q (F0 m pc ls (v :: .ref a :: rest)) := by
  subst hw
  exact va_put C.1.1 C.1.2.1 C.1.2.2.2.2 hin ty0 hty hnm C.1.2.2.2.1 C.2.1 h.1 h.2.1 h.2.2 q0 he hc k hk hlink (fun _ h9 => h9) hfin (hty k hk) hn hfit hl hd (fun H1 l1 hP hD hS => kk H1 l1 ⟨hP, hD, hS⟩)
theorem q_putF (C : vq_C cc nL ret Ts own G A p s m args meth c) (h : vq_H G A s ws H locs) {Cn : String} {T : u_T} {N ci index a : Nat} (hin : ∀ w ∈ u_ws Cn T N, w ∈ Ts) (ty0 : Nat → FieldType) (hty : ∀ k, k < N → parseFieldDescriptor (T k).2.2.1 = some (ty0 k)) (hnm : ∀ a, a < N → ∀ b, b < N → a ≠ b → (T a).2.1 ≠ (T b).2.1) (q0 : Nat) {fs : List Value} (he : ws[q0]? = some (a, .inr (ci, fs))) (hc : vwCl[ci]? = some (Cn, T, N)) (k : Nat) (hk : k < N) (hlink : (Cond.fieldLink own index (T k).1 (T k).2.1 (T k).2.2.1).before args s = true) (hfin : (T k).2.2.2 = true) (hin2 : meth.name = "<init>") (hdecl : (T k).1 = own) {v : Value} (hn : narrow (ty0 k) v = v) (hfit : fits (ty0 k) v = true) (hl : k < fs.length) (hd : decode cc pc = .ok (.putfield index, 3)) {w' : va_W} (hw : ws.set q0 (a, .inr (ci, fs.set k v)) = w')
    (kk : ∀ (H : Heap) (locs : List Loc), vq_H G A s w' H locs → W p l e R s m args below meth c H locs cells slots Q (F0 m (pc + 3) ls (rest))) : W p l e R s m args below meth c H locs cells slots Q (F0 m pc ls (v :: .ref a :: rest)) := by
  subst hw
  exact va_putF C.1.1 C.1.2.1 C.1.2.2.2.2 hin ty0 hty hnm C.1.2.2.2.1 C.2.1 h.1 h.2.1 h.2.2 q0 he hc k hk hlink (fun _ h9 => h9) hfin hin2 hdecl (hty k hk) hn hfit hl hd (fun H1 l1 hP hD hS => kk H1 l1 ⟨hP, hD, hS⟩)
theorem q_iald (C : vq_C cc nL ret Ts own G A p s m args meth c) (h : vq_H G A s ws H locs) {a : Nat} (q0 : Nat) {n : Nat} {f : Nat → Int32} (ha : ws[q0]? = some (a, .inl (G.2.1, n, .inl f))) {i : Nat} (hi : i < n) (hn : n < 2 ^ 31) {v : Int32} (hv : f i = v) (hd : decode cc pc = .ok (.iaload, 1))
    (kk : W p l e R s m args below meth c H locs cells slots Q (F0 m (pc + 1) ls (.int v :: rest))) : W p l e R s m args below meth c H locs cells slots Q (F0 m pc ls (.int (nI i) :: .ref a :: rest)) := by
  subst hv
  refine va_iald C.1.1 C.1.2.1 C.2.1 h.1 q0 0 ha rfl (vp_in_nI hi hn) hd ?_
  rw [nI_clamp (Nat.lt_trans hi hn)]
  exact kk
theorem q_lald (C : vq_C cc nL ret Ts own G A p s m args meth c) (h : vq_H G A s ws H locs) {a : Nat} (q0 : Nat) {n : Nat} {f : Nat → Int64} (ha : ws[q0]? = some (a, .inl (G.2.2, n, .inr (.inl f)))) {i : Nat} (hi : i < n) (hn : n < 2 ^ 31) {v : Int64} (hv : f i = v) (hd : decode cc pc = .ok (.laload, 1))
    (kk : W p l e R s m args below meth c H locs cells slots Q (F0 m (pc + 1) ls (.long v :: rest))) : W p l e R s m args below meth c H locs cells slots Q (F0 m pc ls (.int (nI i) :: .ref a :: rest)) := by
  subst hv
  refine va_lald C.1.1 C.1.2.1 C.2.1 h.1 q0 1 ha rfl (vp_in_nI hi hn) hd ?_
  rw [nI_clamp (Nat.lt_trans hi hn)]
  exact kk
theorem q_iast (C : vq_C cc nL ret Ts own G A p s m args meth c) (h : vq_H G A s ws H locs) {a : Nat} (q0 : Nat) {n : Nat} {f : Nat → Int32} (ha : ws[q0]? = some (a, .inl (G.2.1, n, .inl f))) {i : Nat} (hi : i < n) (hn : n < 2 ^ 31) {x : Int32} {w' : va_W} {g : Nat → Int32} (hg : upd f i x = g) (hw : ws.set q0 (a, .inl (G.2.1, n, .inl g)) = w') (hd : decode cc pc = .ok (.iastore, 1))
    (kk : ∀ (H : Heap) (locs : List Loc), vq_H G A s w' H locs → W p l e R s m args below meth c H locs cells slots Q (F0 m (pc + 1) ls (rest))) : W p l e R s m args below meth c H locs cells slots Q (F0 m pc ls (.int x :: .int (nI i) :: .ref a :: rest)) := by
  subst hw
  subst hg
  have e := nI_clamp (Nat.lt_trans hi hn)
  refine va_iast C.1.1 C.1.2.1 C.2.1 h.1 h.2.1 h.2.2 q0 0 ha rfl (vp_in_nI hi hn) hd (fun H1 l1 hP hD hS => ?_)
  rw [e] at hP hD
  exact kk H1 l1 ⟨hP, hD, hS⟩
theorem q_last (C : vq_C cc nL ret Ts own G A p s m args meth c) (h : vq_H G A s ws H locs) {a : Nat} (q0 : Nat) {n : Nat} {f : Nat → Int64} (ha : ws[q0]? = some (a, .inl (G.2.2, n, .inr (.inl f)))) {i : Nat} (hi : i < n) (hn : n < 2 ^ 31) {x : Int64} {w' : va_W} {g : Nat → Int64} (hg : vp_updL f i x = g) (hw : ws.set q0 (a, .inl (G.2.2, n, .inr (.inl g))) = w') (hd : decode cc pc = .ok (.lastore, 1))
    (kk : ∀ (H : Heap) (locs : List Loc), vq_H G A s w' H locs → W p l e R s m args below meth c H locs cells slots Q (F0 m (pc + 1) ls (rest))) : W p l e R s m args below meth c H locs cells slots Q (F0 m pc ls (.long x :: .int (nI i) :: .ref a :: rest)) := by
  subst hw
  subst hg
  have e := nI_clamp (Nat.lt_trans hi hn)
  refine va_last C.1.1 C.1.2.1 C.2.1 h.1 h.2.1 h.2.2 q0 1 ha rfl (vp_in_nI hi hn) hd (fun H1 l1 hP hD hS => ?_)
  rw [e] at hP hD
  exact kk H1 l1 ⟨hP, hD, hS⟩
theorem q_alen (C : vq_C cc nL ret Ts own G A p s m args meth c) (h : vq_H G A s ws H locs) {a : Nat} (q0 : Nat) {n : Nat} {f : (Nat → Int32) ⊕ (Nat → Int64) ⊕ (Nat → UInt32) ⊕ (Nat → UInt64) ⊕ (Nat → Option Nat)} (ha : ws[q0]? = some (a, .inl (G.2.1, n, f))) (hd : decode cc pc = .ok (.arraylength, 1)) (kk : W p l e R s m args below meth c H locs cells slots Q (F0 m (pc + 1) ls (.int (nI n) :: rest))) : W p l e R s m args below meth c H locs cells slots Q (F0 m pc ls (.ref a :: rest)) := va_alen C.1.1 C.1.2.1 C.2.1 h.1 q0 0 ha rfl rfl hd kk
theorem q_alenL (C : vq_C cc nL ret Ts own G A p s m args meth c) (h : vq_H G A s ws H locs) {a : Nat} (q0 : Nat) {n : Nat} {f : (Nat → Int32) ⊕ (Nat → Int64) ⊕ (Nat → UInt32) ⊕ (Nat → UInt64) ⊕ (Nat → Option Nat)} (ha : ws[q0]? = some (a, .inl (G.2.2, n, f))) (hd : decode cc pc = .ok (.arraylength, 1)) (kk : W p l e R s m args below meth c H locs cells slots Q (F0 m (pc + 1) ls (.int (nI n) :: rest))) : W p l e R s m args below meth c H locs cells slots Q (F0 m pc ls (.ref a :: rest)) := va_alen C.1.1 C.1.2.1 C.2.1 h.1 q0 1 ha rfl rfl hd kk
theorem q_ldc2 (C : vq_C cc nL ret Ts own G A p s m args meth c) {index : Nat} {v : Int64} (hconst : (Jvm.Cond.constantLong own index v).before args s = true) (hd : decode cc pc = .ok (.ldc2_w index, 3)) (kk : W p l e R s m args below meth c H locs cells slots Q (F0 m (pc + 3) ls (.long v :: rest))) : W p l e R s m args below meth c H locs cells slots Q (F0 m pc ls (rest)) := lv_ldc2 C.1.1 C.1.2.1 C.1.2.2.2.1 hconst hd kk
theorem q_reti (C : vq_C cc nL ret Ts own G A p s m args meth c) (h : vq_H G A s ws H locs) (hr : ret = some .int) {v r : Int32} (ev : v = r) {ws' : va_W} (ew : ws = ws') (hd : decode cc pc = .ok (.ireturn, 1)) : W p l e R s m args below meth c H locs cells slots (MQ below (va_Qi (fun x (_ : Unit) => x = r) (fun _ => vq_T G A ws') A) args s cells slots A) (F0 m pc ls [.int v]) := by
  subst ev
  subst ew
  have hlk := C.2.2.2.2.1
  exact W.iret C.1.1 C.1.2.1 (C.2.2.2.2.2.trans hr) (fun t ht hW => ⟨⟨v, (), rfl, rfl, by rw [ht]; exact h.1, h.2.1⟩, h.2.2.F ht⟩) h.2.2.2.2 hd hlk
theorem q_retz (C : vq_C cc nL ret Ts own G A p s m args meth c) (h : vq_H G A s ws H locs) (hr : ret = some .boolean) {v r : Bool} (ev : v = r) {ws' : va_W} (ew : ws = ws') (hd : decode cc pc = .ok (.ireturn, 1)) : W p l e R s m args below meth c H locs cells slots (MQ below (va_Qi (fun x (_ : Unit) => x = q_b r) (fun _ => vq_T G A ws') A) args s cells slots A) (F0 m pc ls [.int (q_b v)]) := by
  subst ev
  subst ew
  have hlk := C.2.2.2.2.1
  exact W.zret C.1.1 C.1.2.1 (C.2.2.2.2.2.trans hr) (by cases v <;> decide) (fun t ht hW => ⟨⟨q_b v, (), rfl, rfl, by rw [ht]; exact h.1, h.2.1⟩, h.2.2.F ht⟩) h.2.2.2.2 hd hlk
theorem q_retl (C : vq_C cc nL ret Ts own G A p s m args meth c) (h : vq_H G A s ws H locs) (hr : ret = some .long) {v r : Int64} (ev : v = r) {ws' : va_W} (ew : ws = ws') (hd : decode cc pc = .ok (.lreturn, 1)) : W p l e R s m args below meth c H locs cells slots (MQ below (va_Ql (fun x (_ : Unit) => x = r) (fun _ => vq_T G A ws') A) args s cells slots A) (F0 m pc ls [.long v]) := by
  subst ev
  subst ew
  have hlk := C.2.2.2.2.1
  exact W.lret C.1.1 C.1.2.1 (C.2.2.2.2.2.trans hr) (fun t ht hW => ⟨⟨v, (), rfl, rfl, by rw [ht]; exact h.1, h.2.1⟩, h.2.2.F ht⟩) h.2.2.2.2 hd hlk
theorem q_retv (C : vq_C cc nL ret Ts own G A p s m args meth c) (h : vq_H G A s ws H locs) (hr : ret = none) {ws' : va_W} (ew : ws = ws') (hd : decode cc pc = .ok (.return_, 1)) : W p l e R s m args below meth c H locs cells slots (MQ below (va_Qv (fun (_ : Unit) => True) (fun _ => vq_T G A ws') A) args s cells slots A) (F0 m pc ls []) := by
  subst ew
  have hlk := C.2.2.2.2.1
  exact W.vret C.1.1 C.1.2.1 (C.2.2.2.2.2.trans hr) (fun t ht hW => ⟨⟨(), rfl, trivial, by rw [ht]; exact h.1, h.2.1⟩, h.2.2.F ht⟩) h.2.2.2.2 hd hlk
theorem q_retr (C : vq_C cc nL ret Ts own G A p s m args meth c) (h : vq_H G A s ws H locs) {rt : FieldType} (hr : ret = some rt) (hrt : (∃ n, rt = .object n) ∨ ∃ t, rt = .array t) {v r : Nat} (ev : v = r) {ws' : va_W} (ew : ws = ws') (hd : decode cc pc = .ok (.areturn, 1)) : W p l e R s m args below meth c H locs cells slots (MQ below (va_Qr (fun (_ : Unit) => True) (fun _ a t => a = r ∧ vq_T G A ws' t) A) args s cells slots A) (F0 m pc ls [.ref v]) := by
  subst ev
  subst ew
  have hlk := C.2.2.2.2.1
  exact W.aret C.1.1 C.1.2.1 (C.2.2.2.2.2.trans hr) hrt (Or.inr ⟨v, rfl⟩) (fun t ht hW => ⟨⟨(), v, rfl, trivial, rfl, by rw [ht]; exact h.1, h.2.1⟩, h.2.2.F ht⟩) h.2.2.2.2 hd hlk
theorem q_callVi (C : vq_C cc nL ret Ts own G A p s m args meth c) (h : vq_H G A s ws H locs) {y : MethodName} {Ts2 : List Cond} {f lo : Nat} {as : List Value} {wc w1 : va_W} {r : Int32} {b : Nat} {Cn : String} (hM : vq_i l y Ts2 f lo G (.ref b :: as) wc r w1) {index maxL n : Nat} {bytes : ByteArray} {rt : Option FieldType} (cw : CallW R s args own Cn index y bytes maxL rt Ts2 { frames := f, cells := 0, slots := 0, locals := lo } 0 0 n) (isC : List Nat) (hC : isC.map (fun i => ws[i]?) = wc.map some) (hnc : va_nd isC = true) (isR : List Nat) {wr : va_W} (hR : isR.map (fun i => ws[i]?) = wr.map some) (hn : va_nd isR = true) (hdis : ∀ i ∈ isR, i ∉ isC) (q0 : Nat) {ci : Nat} {fs : List Value} {T : u_T} {N : Nat} (he : ws[q0]? = some (b, .inr (ci, fs))) (hc : vwCl[ci]? = some (Cn, T, N)) (hnn : as.length = n) (hl : ls.size = nL) {st : List Value} (hst : st = as.reverse ++ .ref b :: rest) (hW : (rest.map fun v => v.category).sum ≤ 8) (hd : decode cc pc = .ok (.invokevirtual index, 3)) (hcs : cells ≤ R.cells ∧ slots ≤ R.slots) (perm : List Nat) {w' : va_W} (hp : perm.map (fun i => (wr ++ w1)[i]?) = w'.map some) (hnp : va_nd perm = true)
    (kk : ∀ (H : Heap) (locs : List Loc), vq_H G A s w' H locs → W p l e R s m args below meth c H locs cells slots Q (F0 m (pc + 3) ls (.int r :: rest))) : W p l e R s m args below meth c H locs cells slots Q (F0 m pc ls (st)) := by
  subst hst
  have hF := va_free h.2.1 h.2.2 C.2.2.2.1 isC hC
  refine va_calli (va_runV C.1 (hM H.size) cw ⟨vq_fb, va_recv C.2.1 h.1 hc he, fun U hU hW => ⟨rfl, by rw [hU], by rw [hU]; exact (h.1.sub isC (q_fm hC)), va_K.moved hW.alike C.2.1, (h.2.1.sub isC hnc hC).weaken (fun _ _ _ _ => trivial), C.2.2.1.warm hW⟩⟩ rfl hnn hl rfl (lv_room hW) hd hcs) h.2.2 (fun q _ hq => hF q hq) hF (fun x u t H1 locs1 ht hvm hw hB hz1 hk1 hS => ?_)
  subst hw
  exact kk H1 locs1 (q_after h isC isR perm hC hR hn hdis hp hnp hF hk1 (by rw [← ht]; exact hB.1) hB.2 hS)
theorem q_callVl (C : vq_C cc nL ret Ts own G A p s m args meth c) (h : vq_H G A s ws H locs) {y : MethodName} {Ts2 : List Cond} {f lo : Nat} {as : List Value} {wc w1 : va_W} {r : Int64} {b : Nat} {Cn : String} (hM : vq_l l y Ts2 f lo G (.ref b :: as) wc r w1) {index maxL n : Nat} {bytes : ByteArray} {rt : Option FieldType} (cw : CallW R s args own Cn index y bytes maxL rt Ts2 { frames := f, cells := 0, slots := 0, locals := lo } 0 0 n) (isC : List Nat) (hC : isC.map (fun i => ws[i]?) = wc.map some) (hnc : va_nd isC = true) (isR : List Nat) {wr : va_W} (hR : isR.map (fun i => ws[i]?) = wr.map some) (hn : va_nd isR = true) (hdis : ∀ i ∈ isR, i ∉ isC) (q0 : Nat) {ci : Nat} {fs : List Value} {T : u_T} {N : Nat} (he : ws[q0]? = some (b, .inr (ci, fs))) (hc : vwCl[ci]? = some (Cn, T, N)) (hnn : as.length = n) (hl : ls.size = nL) {st : List Value} (hst : st = as.reverse ++ .ref b :: rest) (hW : (rest.map fun v => v.category).sum ≤ 8) (hd : decode cc pc = .ok (.invokevirtual index, 3)) (hcs : cells ≤ R.cells ∧ slots ≤ R.slots) (perm : List Nat) {w' : va_W} (hp : perm.map (fun i => (wr ++ w1)[i]?) = w'.map some) (hnp : va_nd perm = true)
    (kk : ∀ (H : Heap) (locs : List Loc), vq_H G A s w' H locs → W p l e R s m args below meth c H locs cells slots Q (F0 m (pc + 3) ls (.long r :: rest))) : W p l e R s m args below meth c H locs cells slots Q (F0 m pc ls (st)) := by
  subst hst
  have hF := va_free h.2.1 h.2.2 C.2.2.2.1 isC hC
  refine va_calll (va_runV C.1 (hM H.size) cw ⟨vq_fb, va_recv C.2.1 h.1 hc he, fun U hU hW => ⟨rfl, by rw [hU], by rw [hU]; exact (h.1.sub isC (q_fm hC)), va_K.moved hW.alike C.2.1, (h.2.1.sub isC hnc hC).weaken (fun _ _ _ _ => trivial), C.2.2.1.warm hW⟩⟩ rfl hnn hl rfl (lv_room hW) hd hcs) h.2.2 (fun q _ hq => hF q hq) hF (fun x u t H1 locs1 ht hvm hw hB hz1 hk1 hS => ?_)
  subst hw
  exact kk H1 locs1 (q_after h isC isR perm hC hR hn hdis hp hnp hF hk1 (by rw [← ht]; exact hB.1) hB.2 hS)
theorem q_callVv (C : vq_C cc nL ret Ts own G A p s m args meth c) (h : vq_H G A s ws H locs) {y : MethodName} {Ts2 : List Cond} {f lo : Nat} {as : List Value} {wc w1 : va_W}  {b : Nat} {Cn : String} (hM : vq_v l y Ts2 f lo G (.ref b :: as) wc w1) {index maxL n : Nat} {bytes : ByteArray} {rt : Option FieldType} (cw : CallW R s args own Cn index y bytes maxL rt Ts2 { frames := f, cells := 0, slots := 0, locals := lo } 0 0 n) (isC : List Nat) (hC : isC.map (fun i => ws[i]?) = wc.map some) (hnc : va_nd isC = true) (isR : List Nat) {wr : va_W} (hR : isR.map (fun i => ws[i]?) = wr.map some) (hn : va_nd isR = true) (hdis : ∀ i ∈ isR, i ∉ isC) (q0 : Nat) {ci : Nat} {fs : List Value} {T : u_T} {N : Nat} (he : ws[q0]? = some (b, .inr (ci, fs))) (hc : vwCl[ci]? = some (Cn, T, N)) (hnn : as.length = n) (hl : ls.size = nL) {st : List Value} (hst : st = as.reverse ++ .ref b :: rest) (hW : (rest.map fun v => v.category).sum ≤ 8) (hd : decode cc pc = .ok (.invokevirtual index, 3)) (hcs : cells ≤ R.cells ∧ slots ≤ R.slots) (perm : List Nat) {w' : va_W} (hp : perm.map (fun i => (wr ++ w1)[i]?) = w'.map some) (hnp : va_nd perm = true)
    (kk : ∀ (H : Heap) (locs : List Loc), vq_H G A s w' H locs → W p l e R s m args below meth c H locs cells slots Q (F0 m (pc + 3) ls (rest))) : W p l e R s m args below meth c H locs cells slots Q (F0 m pc ls (st)) := by
  subst hst
  have hF := va_free h.2.1 h.2.2 C.2.2.2.1 isC hC
  refine va_callv (va_runV C.1 (hM H.size) cw ⟨vq_fb, va_recv C.2.1 h.1 hc he, fun U hU hW => ⟨rfl, by rw [hU], by rw [hU]; exact (h.1.sub isC (q_fm hC)), va_K.moved hW.alike C.2.1, (h.2.1.sub isC hnc hC).weaken (fun _ _ _ _ => trivial), C.2.2.1.warm hW⟩⟩ rfl hnn hl rfl (lv_room hW) hd hcs) h.2.2 (fun q _ hq => hF q hq) hF (fun u t H1 locs1 ht hvm hw hB hz1 hk1 hS => ?_)
  exact kk H1 locs1 (q_after h isC isR perm hC hR hn hdis hp hnp hF hk1 (by rw [← ht]; exact hB.1) hB.2 hS)
theorem q_callVr (C : vq_C cc nL ret Ts own G A p s m args meth c) (h : vq_H G A s ws H locs) {y : MethodName} {Ts2 : List Cond} {f lo : Nat} {as : List Value} {wc w1 : va_W} {r : Nat} {b : Nat} {Cn : String} (hM : vq_r l y Ts2 f lo G (.ref b :: as) wc r w1) {index maxL n : Nat} {bytes : ByteArray} {rt : Option FieldType} (cw : CallW R s args own Cn index y bytes maxL rt Ts2 { frames := f, cells := 0, slots := 0, locals := lo } 0 0 n) (isC : List Nat) (hC : isC.map (fun i => ws[i]?) = wc.map some) (hnc : va_nd isC = true) (isR : List Nat) {wr : va_W} (hR : isR.map (fun i => ws[i]?) = wr.map some) (hn : va_nd isR = true) (hdis : ∀ i ∈ isR, i ∉ isC) (q0 : Nat) {ci : Nat} {fs : List Value} {T : u_T} {N : Nat} (he : ws[q0]? = some (b, .inr (ci, fs))) (hc : vwCl[ci]? = some (Cn, T, N)) (hnn : as.length = n) (hl : ls.size = nL) {st : List Value} (hst : st = as.reverse ++ .ref b :: rest) (hW : (rest.map fun v => v.category).sum ≤ 8) (hd : decode cc pc = .ok (.invokevirtual index, 3)) (hcs : cells ≤ R.cells ∧ slots ≤ R.slots) (perm : List Nat) {w' : va_W} (hp : perm.map (fun i => (wr ++ w1)[i]?) = w'.map some) (hnp : va_nd perm = true)
    (kk : ∀ (H : Heap) (locs : List Loc), vq_H G A s w' H locs → W p l e R s m args below meth c H locs cells slots Q (F0 m (pc + 3) ls (.ref r :: rest))) : W p l e R s m args below meth c H locs cells slots Q (F0 m pc ls (st)) := by
  subst hst
  have hF := va_free h.2.1 h.2.2 C.2.2.2.1 isC hC
  refine va_callr (va_runV C.1 (hM H.size) cw ⟨vq_fb, va_recv C.2.1 h.1 hc he, fun U hU hW => ⟨rfl, by rw [hU], by rw [hU]; exact (h.1.sub isC (q_fm hC)), va_K.moved hW.alike C.2.1, (h.2.1.sub isC hnc hC).weaken (fun _ _ _ _ => trivial), C.2.2.1.warm hW⟩⟩ rfl hnn hl rfl (lv_room hW) hd hcs) h.2.2 (fun q _ hq => hF q hq) hF (fun u x t H1 locs1 ht hvm hw hB hz1 hk1 hS => ?_)
  obtain ⟨rfl, hB⟩ := hB
  exact kk H1 locs1 (q_after h isC isR perm hC hR hn hdis hp hnp hF hk1 (by rw [← ht]; exact hB.1) hB.2 hS)
theorem q_callSi (C : vq_C cc nL ret Ts own G A p s m args meth c) (h : vq_H G A s ws H locs) {y : MethodName} {Ts2 : List Cond} {f lo : Nat} {as : List Value} {wc w1 : va_W} {r : Int32} (hM : vq_i l y Ts2 f lo G as wc r w1) {index maxL n : Nat} {bytes : ByteArray} {rt : Option FieldType} (cw : CallB R s args own index y bytes maxL rt Ts2 { frames := f, cells := 0, slots := 0, locals := lo } 0 0 n ∧ (Cond.static y).before args s = true) (isC : List Nat) (hC : isC.map (fun i => ws[i]?) = wc.map some) (hnc : va_nd isC = true) (isR : List Nat) {wr : va_W} (hR : isR.map (fun i => ws[i]?) = wr.map some) (hn : va_nd isR = true) (hdis : ∀ i ∈ isR, i ∉ isC) (hnn : as.length = n) (hl : ls.size = nL) {st : List Value} (hst : st = as.reverse ++ rest) (hW : (rest.map fun v => v.category).sum ≤ 8) (hd : decode cc pc = .ok (.invokestatic index, 3)) (hcs : cells ≤ R.cells ∧ slots ≤ R.slots) (perm : List Nat) {w' : va_W} (hp : perm.map (fun i => (wr ++ w1)[i]?) = w'.map some) (hnp : va_nd perm = true)
    (kk : ∀ (H : Heap) (locs : List Loc), vq_H G A s w' H locs → W p l e R s m args below meth c H locs cells slots Q (F0 m (pc + 3) ls (.int r :: rest))) : W p l e R s m args below meth c H locs cells slots Q (F0 m pc ls (st)) := by
  subst hst
  have hF := va_free h.2.1 h.2.2 C.2.2.2.1 isC hC
  refine va_calli (va_runS C.1 (hM H.size) cw ⟨vq_fb, fun U hU hW => ⟨rfl, by rw [hU], by rw [hU]; exact (h.1.sub isC (q_fm hC)), va_K.moved hW.alike C.2.1, (h.2.1.sub isC hnc hC).weaken (fun _ _ _ _ => trivial), C.2.2.1.warm hW⟩⟩ rfl hnn hl rfl (lv_room hW) hd hcs) h.2.2 (fun q _ hq => hF q hq) hF (fun x u t H1 locs1 ht hvm hw hB hz1 hk1 hS => ?_)
  subst hw
  exact kk H1 locs1 (q_after h isC isR perm hC hR hn hdis hp hnp hF hk1 (by rw [← ht]; exact hB.1) hB.2 hS)
theorem q_callSl (C : vq_C cc nL ret Ts own G A p s m args meth c) (h : vq_H G A s ws H locs) {y : MethodName} {Ts2 : List Cond} {f lo : Nat} {as : List Value} {wc w1 : va_W} {r : Int64} (hM : vq_l l y Ts2 f lo G as wc r w1) {index maxL n : Nat} {bytes : ByteArray} {rt : Option FieldType} (cw : CallB R s args own index y bytes maxL rt Ts2 { frames := f, cells := 0, slots := 0, locals := lo } 0 0 n ∧ (Cond.static y).before args s = true) (isC : List Nat) (hC : isC.map (fun i => ws[i]?) = wc.map some) (hnc : va_nd isC = true) (isR : List Nat) {wr : va_W} (hR : isR.map (fun i => ws[i]?) = wr.map some) (hn : va_nd isR = true) (hdis : ∀ i ∈ isR, i ∉ isC) (hnn : as.length = n) (hl : ls.size = nL) {st : List Value} (hst : st = as.reverse ++ rest) (hW : (rest.map fun v => v.category).sum ≤ 8) (hd : decode cc pc = .ok (.invokestatic index, 3)) (hcs : cells ≤ R.cells ∧ slots ≤ R.slots) (perm : List Nat) {w' : va_W} (hp : perm.map (fun i => (wr ++ w1)[i]?) = w'.map some) (hnp : va_nd perm = true)
    (kk : ∀ (H : Heap) (locs : List Loc), vq_H G A s w' H locs → W p l e R s m args below meth c H locs cells slots Q (F0 m (pc + 3) ls (.long r :: rest))) : W p l e R s m args below meth c H locs cells slots Q (F0 m pc ls (st)) := by
  subst hst
  have hF := va_free h.2.1 h.2.2 C.2.2.2.1 isC hC
  refine va_calll (va_runS C.1 (hM H.size) cw ⟨vq_fb, fun U hU hW => ⟨rfl, by rw [hU], by rw [hU]; exact (h.1.sub isC (q_fm hC)), va_K.moved hW.alike C.2.1, (h.2.1.sub isC hnc hC).weaken (fun _ _ _ _ => trivial), C.2.2.1.warm hW⟩⟩ rfl hnn hl rfl (lv_room hW) hd hcs) h.2.2 (fun q _ hq => hF q hq) hF (fun x u t H1 locs1 ht hvm hw hB hz1 hk1 hS => ?_)
  subst hw
  exact kk H1 locs1 (q_after h isC isR perm hC hR hn hdis hp hnp hF hk1 (by rw [← ht]; exact hB.1) hB.2 hS)
theorem q_callSv (C : vq_C cc nL ret Ts own G A p s m args meth c) (h : vq_H G A s ws H locs) {y : MethodName} {Ts2 : List Cond} {f lo : Nat} {as : List Value} {wc w1 : va_W}  (hM : vq_v l y Ts2 f lo G as wc w1) {index maxL n : Nat} {bytes : ByteArray} {rt : Option FieldType} (cw : CallB R s args own index y bytes maxL rt Ts2 { frames := f, cells := 0, slots := 0, locals := lo } 0 0 n ∧ (Cond.static y).before args s = true) (isC : List Nat) (hC : isC.map (fun i => ws[i]?) = wc.map some) (hnc : va_nd isC = true) (isR : List Nat) {wr : va_W} (hR : isR.map (fun i => ws[i]?) = wr.map some) (hn : va_nd isR = true) (hdis : ∀ i ∈ isR, i ∉ isC) (hnn : as.length = n) (hl : ls.size = nL) {st : List Value} (hst : st = as.reverse ++ rest) (hW : (rest.map fun v => v.category).sum ≤ 8) (hd : decode cc pc = .ok (.invokestatic index, 3)) (hcs : cells ≤ R.cells ∧ slots ≤ R.slots) (perm : List Nat) {w' : va_W} (hp : perm.map (fun i => (wr ++ w1)[i]?) = w'.map some) (hnp : va_nd perm = true)
    (kk : ∀ (H : Heap) (locs : List Loc), vq_H G A s w' H locs → W p l e R s m args below meth c H locs cells slots Q (F0 m (pc + 3) ls (rest))) : W p l e R s m args below meth c H locs cells slots Q (F0 m pc ls (st)) := by
  subst hst
  have hF := va_free h.2.1 h.2.2 C.2.2.2.1 isC hC
  refine va_callv (va_runS C.1 (hM H.size) cw ⟨vq_fb, fun U hU hW => ⟨rfl, by rw [hU], by rw [hU]; exact (h.1.sub isC (q_fm hC)), va_K.moved hW.alike C.2.1, (h.2.1.sub isC hnc hC).weaken (fun _ _ _ _ => trivial), C.2.2.1.warm hW⟩⟩ rfl hnn hl rfl (lv_room hW) hd hcs) h.2.2 (fun q _ hq => hF q hq) hF (fun u t H1 locs1 ht hvm hw hB hz1 hk1 hS => ?_)
  exact kk H1 locs1 (q_after h isC isR perm hC hR hn hdis hp hnp hF hk1 (by rw [← ht]; exact hB.1) hB.2 hS)
theorem q_callNi (C : vq_C cc nL ret Ts own G A p s m args meth c) (h : vq_H G A s ws H locs) {y : MethodName} {Ts2 : List Cond} {f lo : Nat} {as : List Value} {wc w1 : va_W} {r : Int32} {host : String} (hM : vq_i l y Ts2 f lo G as wc r w1) {index maxL n : Nat} {bytes : ByteArray} {rt : Option FieldType} (cw : va_CN R s args own index y host bytes maxL rt Ts2 { frames := f, cells := 0, slots := 0, locals := lo } 0 0 n ∧ (Cond.static y).before args s = true ∧ True) (isC : List Nat) (hC : isC.map (fun i => ws[i]?) = wc.map some) (hnc : va_nd isC = true) (isR : List Nat) {wr : va_W} (hR : isR.map (fun i => ws[i]?) = wr.map some) (hn : va_nd isR = true) (hdis : ∀ i ∈ isR, i ∉ isC) (hnn : as.length = n) (hl : ls.size = nL) {st : List Value} (hst : st = as.reverse ++ rest) (hW : (rest.map fun v => v.category).sum ≤ 8) (hd : decode cc pc = .ok (.invokestatic index, 3)) (hcs : cells ≤ R.cells ∧ slots ≤ R.slots) (perm : List Nat) {w' : va_W} (hp : perm.map (fun i => (wr ++ w1)[i]?) = w'.map some) (hnp : va_nd perm = true)
    (kk : ∀ (H : Heap) (locs : List Loc), vq_H G A s w' H locs → W p l e R s m args below meth c H locs cells slots Q (F0 m (pc + 3) ls (.int r :: rest))) : W p l e R s m args below meth c H locs cells slots Q (F0 m pc ls (st)) := by
  subst hst
  have hF := va_free h.2.1 h.2.2 C.2.2.2.1 isC hC
  refine va_calli (va_runSN C.1 (hM H.size) cw ⟨vq_fb, fun U hU hW => ⟨rfl, by rw [hU], by rw [hU]; exact (h.1.sub isC (q_fm hC)), va_K.moved hW.alike C.2.1, (h.2.1.sub isC hnc hC).weaken (fun _ _ _ _ => trivial), C.2.2.1.warm hW⟩⟩ rfl hnn hl rfl (lv_room hW) hd hcs) h.2.2 (fun q _ hq => hF q hq) hF (fun x u t H1 locs1 ht hvm hw hB hz1 hk1 hS => ?_)
  subst hw
  exact kk H1 locs1 (q_after h isC isR perm hC hR hn hdis hp hnp hF hk1 (by rw [← ht]; exact hB.1) hB.2 hS)
theorem q_callNl (C : vq_C cc nL ret Ts own G A p s m args meth c) (h : vq_H G A s ws H locs) {y : MethodName} {Ts2 : List Cond} {f lo : Nat} {as : List Value} {wc w1 : va_W} {r : Int64} {host : String} (hM : vq_l l y Ts2 f lo G as wc r w1) {index maxL n : Nat} {bytes : ByteArray} {rt : Option FieldType} (cw : va_CN R s args own index y host bytes maxL rt Ts2 { frames := f, cells := 0, slots := 0, locals := lo } 0 0 n ∧ (Cond.static y).before args s = true ∧ True) (isC : List Nat) (hC : isC.map (fun i => ws[i]?) = wc.map some) (hnc : va_nd isC = true) (isR : List Nat) {wr : va_W} (hR : isR.map (fun i => ws[i]?) = wr.map some) (hn : va_nd isR = true) (hdis : ∀ i ∈ isR, i ∉ isC) (hnn : as.length = n) (hl : ls.size = nL) {st : List Value} (hst : st = as.reverse ++ rest) (hW : (rest.map fun v => v.category).sum ≤ 8) (hd : decode cc pc = .ok (.invokestatic index, 3)) (hcs : cells ≤ R.cells ∧ slots ≤ R.slots) (perm : List Nat) {w' : va_W} (hp : perm.map (fun i => (wr ++ w1)[i]?) = w'.map some) (hnp : va_nd perm = true)
    (kk : ∀ (H : Heap) (locs : List Loc), vq_H G A s w' H locs → W p l e R s m args below meth c H locs cells slots Q (F0 m (pc + 3) ls (.long r :: rest))) : W p l e R s m args below meth c H locs cells slots Q (F0 m pc ls (st)) := by
  subst hst
  have hF := va_free h.2.1 h.2.2 C.2.2.2.1 isC hC
  refine va_calll (va_runSN C.1 (hM H.size) cw ⟨vq_fb, fun U hU hW => ⟨rfl, by rw [hU], by rw [hU]; exact (h.1.sub isC (q_fm hC)), va_K.moved hW.alike C.2.1, (h.2.1.sub isC hnc hC).weaken (fun _ _ _ _ => trivial), C.2.2.1.warm hW⟩⟩ rfl hnn hl rfl (lv_room hW) hd hcs) h.2.2 (fun q _ hq => hF q hq) hF (fun x u t H1 locs1 ht hvm hw hB hz1 hk1 hS => ?_)
  subst hw
  exact kk H1 locs1 (q_after h isC isR perm hC hR hn hdis hp hnp hF hk1 (by rw [← ht]; exact hB.1) hB.2 hS)
theorem q_callNv (C : vq_C cc nL ret Ts own G A p s m args meth c) (h : vq_H G A s ws H locs) {y : MethodName} {Ts2 : List Cond} {f lo : Nat} {as : List Value} {wc w1 : va_W}  {host : String} (hM : vq_v l y Ts2 f lo G as wc w1) {index maxL n : Nat} {bytes : ByteArray} {rt : Option FieldType} (cw : va_CN R s args own index y host bytes maxL rt Ts2 { frames := f, cells := 0, slots := 0, locals := lo } 0 0 n ∧ (Cond.static y).before args s = true ∧ True) (isC : List Nat) (hC : isC.map (fun i => ws[i]?) = wc.map some) (hnc : va_nd isC = true) (isR : List Nat) {wr : va_W} (hR : isR.map (fun i => ws[i]?) = wr.map some) (hn : va_nd isR = true) (hdis : ∀ i ∈ isR, i ∉ isC) (hnn : as.length = n) (hl : ls.size = nL) {st : List Value} (hst : st = as.reverse ++ rest) (hW : (rest.map fun v => v.category).sum ≤ 8) (hd : decode cc pc = .ok (.invokestatic index, 3)) (hcs : cells ≤ R.cells ∧ slots ≤ R.slots) (perm : List Nat) {w' : va_W} (hp : perm.map (fun i => (wr ++ w1)[i]?) = w'.map some) (hnp : va_nd perm = true)
    (kk : ∀ (H : Heap) (locs : List Loc), vq_H G A s w' H locs → W p l e R s m args below meth c H locs cells slots Q (F0 m (pc + 3) ls (rest))) : W p l e R s m args below meth c H locs cells slots Q (F0 m pc ls (st)) := by
  subst hst
  have hF := va_free h.2.1 h.2.2 C.2.2.2.1 isC hC
  refine va_callv (va_runSN C.1 (hM H.size) cw ⟨vq_fb, fun U hU hW => ⟨rfl, by rw [hU], by rw [hU]; exact (h.1.sub isC (q_fm hC)), va_K.moved hW.alike C.2.1, (h.2.1.sub isC hnc hC).weaken (fun _ _ _ _ => trivial), C.2.2.1.warm hW⟩⟩ rfl hnn hl rfl (lv_room hW) hd hcs) h.2.2 (fun q _ hq => hF q hq) hF (fun u t H1 locs1 ht hvm hw hB hz1 hk1 hS => ?_)
  exact kk H1 locs1 (q_after h isC isR perm hC hR hn hdis hp hnp hF hk1 (by rw [← ht]; exact hB.1) hB.2 hS)
theorem q_min (C : vq_C cc nL ret Ts own G A p s m args meth c) (h : vq_H G A s ws H locs) {index : Nat} (hlink : (Cond.methodLink own index Lib.Math.min.name).before args s = true) (hstat : (Cond.static Lib.Math.min.name).before args s = true) (hini : (Cond.initialized "java/lang/Math").before args s = true) (hcode : (Cond.code Lib.Math.min.name Lib.Math.min.code 2 (some .int)).before args s = true) {a b : Nat} (ha : a < 2 ^ 31) (hb2 : b < 2 ^ 31) (hl : ls.size = nL) (hf : 1 ≤ R.frames) (hlo : (rest.map fun v => v.category).sum + 13 ≤ R.locals) (hcs : cells ≤ R.cells ∧ slots ≤ R.slots) (hd : decode cc pc = .ok (.invokestatic index, 3))
    (kk : W p l e R s m args below meth c H locs cells slots Q (F0 m (pc + 3) ls (.int (nI (min a b)) :: rest))) : W p l e R s m args below meth c H locs cells slots Q (F0 m pc ls (.int (nI b) :: .int (nI a) :: rest)) := by
  refine va_mmin C.1.1 C.1.2.1 (C.1.2.2.1.trans hl.symm) C.1.2.2.2.1 hlink hstat hini hcode hf hlo hcs.1 hcs.2 hd ?_
  have e : (if nI b < nI a then nI b else nI a) = nI (min a b) := by
    by_cases g : b < a
    · rw [if_pos ((nI_ltI hb2 ha).mpr g), Nat.min_eq_right (Nat.le_of_lt g)]
    · rw [if_neg (fun z => g ((nI_ltI hb2 ha).mp z)), Nat.min_eq_left (Nat.le_of_not_lt g)]
  rw [e]
  exact kk
end VQ2
section VQ3
abbrev vq_iE {Z : Type} (l : Launch) (y : MethodName) (Ts : List Cond) (f lo : Nat) (G : vq_G) (as : List Value) (ws : va_W) (r : Int32) (ws' : Z → va_W) : Prop := ∀ sz : Nat, Met l y Ts ({ frames := f, cells := 0, slots := 0, locals := lo } : Room) (va_Pc as (vq_U G ws sz)) (va_Qi (fun x (_ : Z) => x = r) (fun u => vq_T G (va_A ws sz) (ws' u)) (va_A ws sz)) 0 0 (va_A ws sz)
theorem vq_openiE {Z : Type} {l : Launch} {y : MethodName} {Ts Ts' : List Cond} {f lo maxL : Nat} {cc : ByteArray} {ret : Option FieldType} {G : vq_G} {as : List Value} {ws : va_W} {ws' : Z → va_W} {r : Int32} (hy : plainName y.cls = true) (hw : Ts = .code y cc maxL ret :: Ts') (hn : (lg_sl as).length ≤ maxL)
    (body : ∀ p e s m args below meth c (A : Nat → Prop) (ls : Array Slot), vq_C cc maxL ret Ts y.cls G A p s m args meth c → vq_H G A s ws s.heap [] → meth.name = y.name → lv_has ls maxL (lv_args 0 as) → W p l e ({ frames := f, cells := 0, slots := 0, locals := lo } : Room) s m args below meth c s.heap [] 0 0 (MQ below (va_Qi (fun x (_ : Z) => x = r) (fun u => vq_T G A (ws' u)) A) args s 0 0 A) (F0 m 0 ls [])) : vq_iE l y Ts f lo G as ws r ws' := vq_open (Qc := fun A => va_Qi (fun x (_ : Z) => x = r) (fun u => vq_T G A (ws' u)) A) hy hw hn body
abbrev vq_lE {Z : Type} (l : Launch) (y : MethodName) (Ts : List Cond) (f lo : Nat) (G : vq_G) (as : List Value) (ws : va_W) (r : Int64) (ws' : Z → va_W) : Prop := ∀ sz : Nat, Met l y Ts ({ frames := f, cells := 0, slots := 0, locals := lo } : Room) (va_Pc as (vq_U G ws sz)) (va_Ql (fun x (_ : Z) => x = r) (fun u => vq_T G (va_A ws sz) (ws' u)) (va_A ws sz)) 0 0 (va_A ws sz)
theorem vq_openlE {Z : Type} {l : Launch} {y : MethodName} {Ts Ts' : List Cond} {f lo maxL : Nat} {cc : ByteArray} {ret : Option FieldType} {G : vq_G} {as : List Value} {ws : va_W} {ws' : Z → va_W} {r : Int64} (hy : plainName y.cls = true) (hw : Ts = .code y cc maxL ret :: Ts') (hn : (lg_sl as).length ≤ maxL)
    (body : ∀ p e s m args below meth c (A : Nat → Prop) (ls : Array Slot), vq_C cc maxL ret Ts y.cls G A p s m args meth c → vq_H G A s ws s.heap [] → meth.name = y.name → lv_has ls maxL (lv_args 0 as) → W p l e ({ frames := f, cells := 0, slots := 0, locals := lo } : Room) s m args below meth c s.heap [] 0 0 (MQ below (va_Ql (fun x (_ : Z) => x = r) (fun u => vq_T G A (ws' u)) A) args s 0 0 A) (F0 m 0 ls [])) : vq_lE l y Ts f lo G as ws r ws' := vq_open (Qc := fun A => va_Ql (fun x (_ : Z) => x = r) (fun u => vq_T G A (ws' u)) A) hy hw hn body
abbrev vq_vE {Z : Type} (l : Launch) (y : MethodName) (Ts : List Cond) (f lo : Nat) (G : vq_G) (as : List Value) (ws : va_W) (ws' : Z → va_W) : Prop := ∀ sz : Nat, Met l y Ts ({ frames := f, cells := 0, slots := 0, locals := lo } : Room) (va_Pc as (vq_U G ws sz)) (va_Qv (fun (_ : Z) => True) (fun u => vq_T G (va_A ws sz) (ws' u)) (va_A ws sz)) 0 0 (va_A ws sz)
theorem vq_openvE {Z : Type} {l : Launch} {y : MethodName} {Ts Ts' : List Cond} {f lo maxL : Nat} {cc : ByteArray} {ret : Option FieldType} {G : vq_G} {as : List Value} {ws : va_W} {ws' : Z → va_W} (hy : plainName y.cls = true) (hw : Ts = .code y cc maxL ret :: Ts') (hn : (lg_sl as).length ≤ maxL)
    (body : ∀ p e s m args below meth c (A : Nat → Prop) (ls : Array Slot), vq_C cc maxL ret Ts y.cls G A p s m args meth c → vq_H G A s ws s.heap [] → meth.name = y.name → lv_has ls maxL (lv_args 0 as) → W p l e ({ frames := f, cells := 0, slots := 0, locals := lo } : Room) s m args below meth c s.heap [] 0 0 (MQ below (va_Qv (fun (_ : Z) => True) (fun u => vq_T G A (ws' u)) A) args s 0 0 A) (F0 m 0 ls [])) : vq_vE l y Ts f lo G as ws ws' := vq_open (Qc := fun A => va_Qv (fun (_ : Z) => True) (fun u => vq_T G A (ws' u)) A) hy hw hn body
end VQ3
section VQ4
variable {p : Program} {l : Launch} {e : Env} {R : Room} {s : State} {m : MethodId} {args : Array Value} {below : List Frame} {meth : Method} {c : Code} {H : Heap} {locs : List Loc} {cells slots : Nat} {Q : State → Prop}
variable {cc : ByteArray} {pc : Nat} {ls : Array Slot} {rest : List Value}
variable {nL : Nat} {ret : Option FieldType} {Ts : List Cond} {own : String} {G : vq_G} {A : Nat → Prop} {ws : va_W} {Z : Type}

theorem q_callViE (C : vq_C cc nL ret Ts own G A p s m args meth c) (h : vq_H G A s ws H locs) {y : MethodName} {Ts2 : List Cond} {f lo : Nat} {as : List Value} {wc : va_W} {w1 : Z → va_W} {r : Int32} {b : Nat} {Cn : String} (hM : vq_iE l y Ts2 f lo G (.ref b :: as) wc r w1) {index maxL n : Nat} {bytes : ByteArray} {rt : Option FieldType} (cw : CallW R s args own Cn index y bytes maxL rt Ts2 { frames := f, cells := 0, slots := 0, locals := lo } 0 0 n) (isC : List Nat) (hC : isC.map (fun i => ws[i]?) = wc.map some) (hnc : va_nd isC = true) (isR : List Nat) {wr : va_W} (hR : isR.map (fun i => ws[i]?) = wr.map some) (hn : va_nd isR = true) (hdis : ∀ i ∈ isR, i ∉ isC) (q0 : Nat) {ci : Nat} {fs : List Value} {T : u_T} {N : Nat} (he : ws[q0]? = some (b, .inr (ci, fs))) (hc : vwCl[ci]? = some (Cn, T, N)) (hnn : as.length = n) (hl : ls.size = nL) {st : List Value} (hst : st = as.reverse ++ .ref b :: rest) (hW : (rest.map fun v => v.category).sum ≤ 8) (hd : decode cc pc = .ok (.invokevirtual index, 3)) (hcs : cells ≤ R.cells ∧ slots ≤ R.slots) (perm : List Nat) {w' : Z → va_W} (hp : ∀ u, perm.map (fun i => (wr ++ w1 u)[i]?) = (w' u).map some) (hnp : va_nd perm = true)
    (kk : ∀ (u : Z) (H : Heap) (locs : List Loc), vq_H G A s (w' u) H locs → W p l e R s m args below meth c H locs cells slots Q (F0 m (pc + 3) ls (.int r :: rest))) : W p l e R s m args below meth c H locs cells slots Q (F0 m pc ls (st)) := by
  subst hst
  have hF := va_free h.2.1 h.2.2 C.2.2.2.1 isC hC
  refine va_calli (va_runV C.1 (hM H.size) cw ⟨vq_fb, va_recv C.2.1 h.1 hc he, fun U hU hW => ⟨rfl, by rw [hU], by rw [hU]; exact (h.1.sub isC (q_fm hC)), va_K.moved hW.alike C.2.1, (h.2.1.sub isC hnc hC).weaken (fun _ _ _ _ => trivial), C.2.2.1.warm hW⟩⟩ rfl hnn hl rfl (lv_room hW) hd hcs) h.2.2 (fun q _ hq => hF q hq) hF (fun x u t H1 locs1 ht hvm hw hB hz1 hk1 hS => ?_)
  subst hw
  exact kk u H1 locs1 (q_after h isC isR perm hC hR hn hdis (hp u) hnp hF hk1 (by rw [← ht]; exact hB.1) hB.2 hS)
theorem q_callVlE (C : vq_C cc nL ret Ts own G A p s m args meth c) (h : vq_H G A s ws H locs) {y : MethodName} {Ts2 : List Cond} {f lo : Nat} {as : List Value} {wc : va_W} {w1 : Z → va_W} {r : Int64} {b : Nat} {Cn : String} (hM : vq_lE l y Ts2 f lo G (.ref b :: as) wc r w1) {index maxL n : Nat} {bytes : ByteArray} {rt : Option FieldType} (cw : CallW R s args own Cn index y bytes maxL rt Ts2 { frames := f, cells := 0, slots := 0, locals := lo } 0 0 n) (isC : List Nat) (hC : isC.map (fun i => ws[i]?) = wc.map some) (hnc : va_nd isC = true) (isR : List Nat) {wr : va_W} (hR : isR.map (fun i => ws[i]?) = wr.map some) (hn : va_nd isR = true) (hdis : ∀ i ∈ isR, i ∉ isC) (q0 : Nat) {ci : Nat} {fs : List Value} {T : u_T} {N : Nat} (he : ws[q0]? = some (b, .inr (ci, fs))) (hc : vwCl[ci]? = some (Cn, T, N)) (hnn : as.length = n) (hl : ls.size = nL) {st : List Value} (hst : st = as.reverse ++ .ref b :: rest) (hW : (rest.map fun v => v.category).sum ≤ 8) (hd : decode cc pc = .ok (.invokevirtual index, 3)) (hcs : cells ≤ R.cells ∧ slots ≤ R.slots) (perm : List Nat) {w' : Z → va_W} (hp : ∀ u, perm.map (fun i => (wr ++ w1 u)[i]?) = (w' u).map some) (hnp : va_nd perm = true)
    (kk : ∀ (u : Z) (H : Heap) (locs : List Loc), vq_H G A s (w' u) H locs → W p l e R s m args below meth c H locs cells slots Q (F0 m (pc + 3) ls (.long r :: rest))) : W p l e R s m args below meth c H locs cells slots Q (F0 m pc ls (st)) := by
  subst hst
  have hF := va_free h.2.1 h.2.2 C.2.2.2.1 isC hC
  refine va_calll (va_runV C.1 (hM H.size) cw ⟨vq_fb, va_recv C.2.1 h.1 hc he, fun U hU hW => ⟨rfl, by rw [hU], by rw [hU]; exact (h.1.sub isC (q_fm hC)), va_K.moved hW.alike C.2.1, (h.2.1.sub isC hnc hC).weaken (fun _ _ _ _ => trivial), C.2.2.1.warm hW⟩⟩ rfl hnn hl rfl (lv_room hW) hd hcs) h.2.2 (fun q _ hq => hF q hq) hF (fun x u t H1 locs1 ht hvm hw hB hz1 hk1 hS => ?_)
  subst hw
  exact kk u H1 locs1 (q_after h isC isR perm hC hR hn hdis (hp u) hnp hF hk1 (by rw [← ht]; exact hB.1) hB.2 hS)
theorem q_callVvE (C : vq_C cc nL ret Ts own G A p s m args meth c) (h : vq_H G A s ws H locs) {y : MethodName} {Ts2 : List Cond} {f lo : Nat} {as : List Value} {wc : va_W} {w1 : Z → va_W}  {b : Nat} {Cn : String} (hM : vq_vE l y Ts2 f lo G (.ref b :: as) wc w1) {index maxL n : Nat} {bytes : ByteArray} {rt : Option FieldType} (cw : CallW R s args own Cn index y bytes maxL rt Ts2 { frames := f, cells := 0, slots := 0, locals := lo } 0 0 n) (isC : List Nat) (hC : isC.map (fun i => ws[i]?) = wc.map some) (hnc : va_nd isC = true) (isR : List Nat) {wr : va_W} (hR : isR.map (fun i => ws[i]?) = wr.map some) (hn : va_nd isR = true) (hdis : ∀ i ∈ isR, i ∉ isC) (q0 : Nat) {ci : Nat} {fs : List Value} {T : u_T} {N : Nat} (he : ws[q0]? = some (b, .inr (ci, fs))) (hc : vwCl[ci]? = some (Cn, T, N)) (hnn : as.length = n) (hl : ls.size = nL) {st : List Value} (hst : st = as.reverse ++ .ref b :: rest) (hW : (rest.map fun v => v.category).sum ≤ 8) (hd : decode cc pc = .ok (.invokevirtual index, 3)) (hcs : cells ≤ R.cells ∧ slots ≤ R.slots) (perm : List Nat) {w' : Z → va_W} (hp : ∀ u, perm.map (fun i => (wr ++ w1 u)[i]?) = (w' u).map some) (hnp : va_nd perm = true)
    (kk : ∀ (u : Z) (H : Heap) (locs : List Loc), vq_H G A s (w' u) H locs → W p l e R s m args below meth c H locs cells slots Q (F0 m (pc + 3) ls (rest))) : W p l e R s m args below meth c H locs cells slots Q (F0 m pc ls (st)) := by
  subst hst
  have hF := va_free h.2.1 h.2.2 C.2.2.2.1 isC hC
  refine va_callv (va_runV C.1 (hM H.size) cw ⟨vq_fb, va_recv C.2.1 h.1 hc he, fun U hU hW => ⟨rfl, by rw [hU], by rw [hU]; exact (h.1.sub isC (q_fm hC)), va_K.moved hW.alike C.2.1, (h.2.1.sub isC hnc hC).weaken (fun _ _ _ _ => trivial), C.2.2.1.warm hW⟩⟩ rfl hnn hl rfl (lv_room hW) hd hcs) h.2.2 (fun q _ hq => hF q hq) hF (fun u t H1 locs1 ht hvm hw hB hz1 hk1 hS => ?_)
  exact kk u H1 locs1 (q_after h isC isR perm hC hR hn hdis (hp u) hnp hF hk1 (by rw [← ht]; exact hB.1) hB.2 hS)
theorem q_retiE (C : vq_C cc nL ret Ts own G A p s m args meth c) (h : vq_H G A s ws H locs) (hr : ret = some .int) {v r : Int32} (ev : v = r) {ws' : Z → va_W} (u : Z) (ew : ws = ws' u) (hd : decode cc pc = .ok (.ireturn, 1)) : W p l e R s m args below meth c H locs cells slots (MQ below (va_Qi (fun x (_ : Z) => x = r) (fun u => vq_T G A (ws' u)) A) args s cells slots A) (F0 m pc ls [.int v]) := by
  subst ev
  subst ew
  have hlk := C.2.2.2.2.1
  exact W.iret C.1.1 C.1.2.1 (C.2.2.2.2.2.trans hr) (fun t ht hW => ⟨⟨v, u, rfl, rfl, by rw [ht]; exact h.1, h.2.1⟩, h.2.2.F ht⟩) h.2.2.2.2 hd hlk
theorem q_retzE (C : vq_C cc nL ret Ts own G A p s m args meth c) (h : vq_H G A s ws H locs) (hr : ret = some .boolean) {v r : Bool} (ev : v = r) {ws' : Z → va_W} (u : Z) (ew : ws = ws' u) (hd : decode cc pc = .ok (.ireturn, 1)) : W p l e R s m args below meth c H locs cells slots (MQ below (va_Qi (fun x (_ : Z) => x = q_b r) (fun u => vq_T G A (ws' u)) A) args s cells slots A) (F0 m pc ls [.int (q_b v)]) := by
  subst ev
  subst ew
  have hlk := C.2.2.2.2.1
  exact W.zret C.1.1 C.1.2.1 (C.2.2.2.2.2.trans hr) (by cases v <;> decide) (fun t ht hW => ⟨⟨q_b v, u, rfl, rfl, by rw [ht]; exact h.1, h.2.1⟩, h.2.2.F ht⟩) h.2.2.2.2 hd hlk
theorem q_retlE (C : vq_C cc nL ret Ts own G A p s m args meth c) (h : vq_H G A s ws H locs) (hr : ret = some .long) {v r : Int64} (ev : v = r) {ws' : Z → va_W} (u : Z) (ew : ws = ws' u) (hd : decode cc pc = .ok (.lreturn, 1)) : W p l e R s m args below meth c H locs cells slots (MQ below (va_Ql (fun x (_ : Z) => x = r) (fun u => vq_T G A (ws' u)) A) args s cells slots A) (F0 m pc ls [.long v]) := by
  subst ev
  subst ew
  have hlk := C.2.2.2.2.1
  exact W.lret C.1.1 C.1.2.1 (C.2.2.2.2.2.trans hr) (fun t ht hW => ⟨⟨v, u, rfl, rfl, by rw [ht]; exact h.1, h.2.1⟩, h.2.2.F ht⟩) h.2.2.2.2 hd hlk
theorem q_retvE (C : vq_C cc nL ret Ts own G A p s m args meth c) (h : vq_H G A s ws H locs) (hr : ret = none) {ws' : Z → va_W} (u : Z) (ew : ws = ws' u) (hd : decode cc pc = .ok (.return_, 1)) : W p l e R s m args below meth c H locs cells slots (MQ below (va_Qv (fun (_ : Z) => True) (fun u => vq_T G A (ws' u)) A) args s cells slots A) (F0 m pc ls []) := by
  subst ew
  have hlk := C.2.2.2.2.1
  exact W.vret C.1.1 C.1.2.1 (C.2.2.2.2.2.trans hr) (fun t ht hW => ⟨⟨u, rfl, trivial, by rw [ht]; exact h.1, h.2.1⟩, h.2.2.F ht⟩) h.2.2.2.2 hd hlk
end VQ4
