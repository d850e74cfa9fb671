/-! THE CLAIM OUT OF ONE WALK OF THE LAW'S BODY. Your part is whole_start (and what it stands on); all else here is the same for every law, but numbers. -/
def R_law : String := "FountainCodeLaw"
def lw_P (b : Addr) (xs : List Int32) (args : Array Value) (s : State) : Prop := args = #[.ref b] ∧ s.IntsAt b xs ∧ xs.length ≤ 260 ∧ (Jvm.Cond.and given_1 narrow_1).before args s = true
def lw_Q (_ : Array Value) (s : State) (o : Outcome) (t : State) : Prop := o = .returned (some (.int 1)) ∧ Framed s o t [] 645506 7164663
def lw_Z (below : List Frame) (a : Array Value) (s : State) : State → Prop := fun t => ∃ o, t.status = .running ∧ Ended t below o ∧ lw_Q a s o t
/-- the law's own end, with 1 on the stack, nothing written that was there before, its room as the claim has it -/
theorem lw_ret {p : Program} {l : Launch} {e : Env} {s : State} {m : MethodId} {below : List Frame} {meth : Method} {c : Code} {b : Nat} (hx : p.tables.exec = Jvm.exec) (hb : c.code = code) (hr : meth.sig.returnType = ret) (hlocks : meth.locks = false) {pc : Nat} {H : Heap} {ls : Array Slot} (hdg : decode code pc = .ok (.ireturn, 1)) : W p l e room_1 s m #[Value.ref b] below meth c H [] 645506 7164663 (lw_Z below #[Value.ref b] s) (F0 m pc ls [.int 1]) := by
  intro T hT X
  obtain ⟨fs, hret, hrun, hended, hW, hframe⟩ := X.leave (v := some (.int 1)) (hlocks := hlocks) (fun h => by rw [hr] at h; cases h)
  have hmeth' : T.vm.method? m = some meth := X.method'
  refine ⟨T.setFrames fs, ?_, .returned (some (.int 1)), hrun, hended, rfl, ⟨_, rfl⟩, hW, hframe⟩
  jvm_step X.here [X.here.top, hx, hb, hdg, hmeth', hr, ret, narrow_b1]
  (try refine ⟨rfl, ?_⟩); (try refine ⟨rfl, ?_⟩)
  first | (intro acts; rw [hret _ acts rfl rfl rfl]) | rw [hret _ _ rfl rfl rfl]
  exact Steps.refl _
/-- what holds at the law's entry: the machine, the code, the tables' words (any of lw_tbl by 'hts w (by decide +kernel)'), the script of L ints xs at the cell b, what the Statement gives of the start (any of its parts by flat_of_before) -/
def lw_At (p : Program) (s : State) (m : MethodId) (meth : Method) (c : Code) (b L : Nat) (xs : Nat → Int32) : Prop :=
  p.tables.exec = Jvm.exec ∧ c.code = code ∧ meth.sig.returnType = ret ∧ c.maxLocals = 14 ∧ s.vm.findClass R_law = some m.cls ∧ (∀ w ∈ lw_tbl, w.before #[Value.ref b] s = true) ∧ va_X b L xs s s.heap ∧ b < s.heap.size ∧ meth.locks = false ∧ (Jvm.Cond.and given_1 narrow_1).before #[Value.ref b] s = true
/-! the loop and the start: laid by wip/p25/lawstart.py -/
set_option maxHeartbeats 4000000 in
set_option maxRecDepth 100000 in
theorem law_fin {p : Program} {l : Launch} {e : Env} {s : State} {m : MethodId} {below : List Frame} {meth : Method} {c : Code} {G : vq_G} {b : Nat} (C : vq_C cL_law 14 ret wsL_law RL G (fun q : Nat => s.heap.size ≤ q) p s m #[Value.ref b] meth c) (o0 q P : Nat) (tr : Bool) (H : Heap) (locs : List Loc) (hS : va_S (fun q : Nat => s.heap.size ≤ q) s.heap H locs) (cells slots : Nat) (hc : cells ≤ 100000) (hs : slots ≤ 1000000) (ls : Array Slot) (hl : lv_has ls 14 [(0, .ref b), (1, .ref o0), (2, .int (q_b tr)), (3, .int (nI P)), (4, .int (nI 1)), (5, .int (nI q))]) : W p l e room_1 s m #[Value.ref b] below meth c H locs cells slots (lw_Z below #[Value.ref b] s) (F0 m 823 ls []) := by
  have hx := C.1.1
  have hb := C.1.2.1
  refine lv_iload hx hb dL_law_823 (lv_at hl 4 rfl) ?_
  refine q_top (v' := .int 1) rfl ?_
  refine va_forget (fun q hq => hS.2.2 q hq) ?_
  refine W.widen (k := 645506) (n := 7164663) (by omega) (by omega) ?_
  exact lw_ret hx hb C.2.2.2.2.2 C.2.2.2.2.1 dL_law_825
set_option maxHeartbeats 4000000 in
set_option maxRecDepth 100000 in
/-- the law's loop -/
theorem law_loop {p : Program} {l : Launch} {e : Env} {s : State} {m : MethodId} {below : List Frame} {meth : Method} {c : Code} {G : vq_G} {b L : Nat} {xs : Nat → Int32} (hst : l.stackTraces = false) (C : vq_C cL_law 14 ret wsL_law RL G (fun q : Nat => s.heap.size ≤ q) p s m #[Value.ref b] meth c) (hX : vq_X (fun q : Nat => s.heap.size ≤ q) s s.heap) (hXs : va_X b L xs s s.heap) (hbl : b < s.heap.size) (hL : L ≤ 260) (o0 wh al sh av ph ae ao ab eh ar aw dh ad : Nat) :
    ∀ (n q cells slots : Nat), 61 ≤ q + n → q ≤ 60 → cells ≤ 300 + 131 * q → slots ≤ 2000 + 786 * q → ∀ (tr : Bool) (P : Nat) (H : Heap) (locs : List Loc), r_LI G (fun q : Nat => s.heap.size ≤ q) s o0 wh al sh av ph ae ao ab eh ar aw dh ad tr P H locs → ∀ ls : Array Slot, lv_has ls 14 [(0, .ref b), (1, .ref o0), (2, .int (q_b tr)), (3, .int (nI P)), (4, .int (nI 1)), (5, .int (nI q))] → W p l e room_1 s m #[Value.ref b] below meth c H locs cells slots (lw_Z below #[Value.ref b] s) (F0 m 38 ls []) := by
  have hbA : ¬ (fun q : Nat => s.heap.size ≤ q) b := Nat.not_le.mpr hbl
  have hx := C.1.1
  have hb := C.1.2.1
  have hts := C.1.2.2.2.2
  intro n
  induction n with
  | zero =>
    intro q cells slots h1 h2
    exact absurd h1 (by omega)
  | succ n ih =>
    intro q cells slots hn hq60 hc hs tr P H locs hLI ls hl
    obtain ⟨w, vals, S, nn, pk, ps, msk, po, pb, rk, rows, rv, gen, sz, bs, row, dr, g1, g2, g3, g4, g5, g6, g7, h⟩ := hLI
    refine lv_iload hx hb dL_law_38 (lv_at hl 5 rfl) ?_
    refine lv_bipush (v := nI 60) hx hb dL_law_40 (by decide) ?_
    refine q_icmp_ge (tgt := 823) hx hb (by omega) (by decide) dL_law_42 (by decide) (fun z => ?_) (fun z => ?_)
    · exact law_fin C o0 q P tr H locs h.2.2 cells slots (by omega) (by omega) ls hl
    · refine lv_iload hx hb dL_law_45 (lv_at hl 4 rfl) ?_
      refine q_if_eq (a := 1) (tgt := 823) hx hb (by decide) dL_law_47 (by decide) (fun z2 => absurd z2 (by decide)) (fun _ => ?_)
      refine lv_aload_n hx hb dL_law_50 rfl (lv_at hl 0 rfl) ?_
      refine lv_iload hx hb dL_law_51 (lv_at hl 5 rfl) ?_
      refine r_callD C h (c_L_draw l G b L q xs hL (by omega)) hXs hbl hbA (va_cwS 2 hts gL_law_L_draw rfl rfl rfl (by decide +kernel) ⟨Nat.le_of_ble_eq_true rfl, Nat.le_of_ble_eq_true rfl⟩) rfl hl.1 rfl (Nat.le_of_ble_eq_true rfl) dL_law_53 (q_room0 (by omega) (by omega)) (fun x H locs hx31 h => ?_)
      refine lv_istore (lv' := [(6, .int (nI x)), (0, .ref b), (1, .ref o0), (2, .int (q_b tr)), (3, .int (nI P)), (4, .int (nI 1)), (5, .int (nI q))]) hx hb dL_law_56 hl (by decide) rfl (fun ls hl => ?_)
      have hLI : r_LI G (fun q : Nat => s.heap.size ≤ q) s o0 wh al sh av ph ae ao ab eh ar aw dh ad tr P H locs := ⟨w, vals, S, nn, pk, ps, msk, po, pb, rk, rows, rv, gen, sz, bs, row, dr, g1, g2, g3, g4, g5, g6, g7, h⟩
      have K2 : ∀ (tr' : Bool) (P' : Nat) (H : Heap) (locs : List Loc), r_LI G (fun q : Nat => s.heap.size ≤ q) s o0 wh al sh av ph ae ao ab eh ar aw dh ad tr' P' H locs → ∀ ls : Array Slot, lv_has ls 14 [(0, .ref b), (1, .ref o0), (2, .int (q_b tr')), (3, .int (nI P')), (4, .int (nI 1)), (5, .int (nI (q + 1)))] → W p l e room_1 s m #[Value.ref b] below meth c H locs (cells + 2 + 129) (slots + 12 + 774) (lw_Z below #[Value.ref b] s) (F0 m 38 ls []) :=
        fun tr' P' H locs hLI ls hl => ih (q + 1) (cells + 2 + 129) (slots + 12 + 774) (by omega) (by omega) (by omega) (by omega) tr' P' H locs hLI ls hl
      have hy27 : x / 24 < 2 ^ 27 := by omega
      have K : ∀ (tr' : Bool) (P' : Nat) (H : Heap) (locs : List Loc), r_LI G (fun q : Nat => s.heap.size ≤ q) s o0 wh al sh av ph ae ao ab eh ar aw dh ad tr' P' H locs → ∀ ls : Array Slot, lv_has ls 14 [(0, .ref b), (1, .ref o0), (2, .int (q_b tr')), (3, .int (nI P')), (4, .int (nI 1)), (5, .int (nI q)), (8, .int (nI (x / 24)))] → W p l e room_1 s m #[Value.ref b] below meth c H locs (cells + 2) (slots + 12) (lw_Z below #[Value.ref b] s) (F0 m 766 ls []) :=
        fun tr' P' H locs hLI ls hl => law_tail hst C hX o0 wh al sh av ph ae ao ab eh ar aw dh ad b q x (x / 24) P' tr' hx31 hy27 (by omega) (cells + 2) (slots + 12) (by omega) (by omega) K2 H locs hLI ls hl
      have cont : ∀ wt : Nat, wt < 24 → W p l e room_1 s m #[Value.ref b] below meth c H locs cells slots (lw_Z below #[Value.ref b] s) (F0 m 72 ls [.int (nI wt)]) := by
        intro wt hwt
        refine lv_istore (lv' := [(7, .int (nI wt)), (6, .int (nI x)), (0, .ref b), (1, .ref o0), (2, .int (q_b tr)), (3, .int (nI P)), (4, .int (nI 1)), (5, .int (nI q))]) hx hb dL_law_72 hl (by decide) rfl (fun ls hl => ?_)
        refine lv_iload hx hb dL_law_74 (lv_at hl 1 rfl) ?_
        refine lv_bipush (v := nI 24) hx hb dL_law_76 (by decide) ?_
        refine r_idiv hx hb (by omega) (by omega) (by omega) dL_law_78 ?_
        refine lv_istore (lv' := [(8, .int (nI (x / 24))), (7, .int (nI wt)), (6, .int (nI x)), (0, .ref b), (1, .ref o0), (2, .int (q_b tr)), (3, .int (nI P)), (4, .int (nI 1)), (5, .int (nI q))]) hx hb dL_law_79 hl (by decide) rfl (fun ls hl => ?_)
        have hl0 := lv_sub hl [3, 4, 5, 6, 7, 8, 2, 0] rfl
        refine lv_iload hx hb dL_law_81 (lv_at hl 1 rfl) ?_
        refine lv_iconst (v := nI 1) hx hb dL_law_83 (by decide) ?_
        refine q_icmp_ge (tgt := 259) hx hb (by omega) (by decide) dL_law_84 (by decide) (fun z0 => ?_) (fun _ => law_c0 hst C hX o0 wh al sh av ph ae ao ab eh ar aw dh ad b q x (x / 24) P tr hx31 hy27 (by omega) cells slots (by omega) (by omega) K H locs hLI ls hl0)
        refine lv_iload hx hb dL_law_259 (lv_at hl 1 rfl) ?_
        refine lv_iconst (v := nI 2) hx hb dL_law_261 (by decide) ?_
        refine q_icmp_ge (tgt := 355) hx hb (by omega) (by decide) dL_law_262 (by decide) (fun z1 => ?_) (fun _ => law_c1 hst C hX o0 wh al sh av ph ae ao ab eh ar aw dh ad b q x (x / 24) P tr hx31 hy27 (by omega) cells slots (by omega) (by omega) K H locs hLI ls hl0)
        refine lv_iload hx hb dL_law_355 (lv_at hl 1 rfl) ?_
        refine lv_iconst (v := nI 3) hx hb dL_law_357 (by decide) ?_
        refine q_icmp_ge (tgt := 463) hx hb (by omega) (by decide) dL_law_358 (by decide) (fun z2 => ?_) (fun _ => law_c2 hst C hX o0 wh al sh av ph ae ao ab eh ar aw dh ad b q x (x / 24) P tr hx31 hy27 (by omega) cells slots (by omega) (by omega) K H locs hLI ls hl0)
        refine lv_iload hx hb dL_law_463 (lv_at hl 1 rfl) ?_
        refine lv_bipush (v := nI 16) hx hb dL_law_465 (by decide) ?_
        refine q_icmp_ge (tgt := 500) hx hb (by omega) (by decide) dL_law_467 (by decide) (fun z3 => ?_) (fun _ => law_c3 hst C hX o0 wh al sh av ph ae ao ab eh ar aw dh ad b q x (x / 24) P tr hx31 hy27 (by omega) cells slots (by omega) (by omega) K H locs hLI ls hl0)
        refine lv_iload hx hb dL_law_500 (lv_at hl 1 rfl) ?_
        refine lv_bipush (v := nI 19) hx hb dL_law_502 (by decide) ?_
        refine q_icmp_ge (tgt := 609) hx hb (by omega) (by decide) dL_law_504 (by decide) (fun z4 => ?_) (fun _ => law_c4 hst C hX o0 wh al sh av ph ae ao ab eh ar aw dh ad b q x (x / 24) P tr hx31 hy27 (by omega) cells slots (by omega) (by omega) K H locs hLI ls hl0)
        refine lv_iload hx hb dL_law_609 (lv_at hl 1 rfl) ?_
        refine lv_bipush (v := nI 21) hx hb dL_law_611 (by decide) ?_
        refine q_icmp_ge (tgt := 681) hx hb (by omega) (by decide) dL_law_613 (by decide) (fun z5 => ?_) (fun _ => law_c5 hst C hX o0 wh al sh av ph ae ao ab eh ar aw dh ad b q x (x / 24) P tr hx31 hy27 (by omega) cells slots (by omega) (by omega) K H locs hLI ls hl0)
        exact law_c6 hst C hX o0 wh al sh av ph ae ao ab eh ar aw dh ad b q x (x / 24) P tr hx31 hy27 (by omega) cells slots (by omega) (by omega) K H locs hLI ls hl0
      refine lv_iload hx hb dL_law_58 (lv_at hl 6 rfl) ?_
      refine q_if_ne (tgt := 67) hx hb (by omega) dL_law_60 (by decide) (fun zq => ?_) (fun zq => ?_)
      · refine lv_iload hx hb dL_law_67 (lv_at hl 0 rfl) ?_
        refine lv_bipush (v := nI 24) hx hb dL_law_69 (by decide) ?_
        refine r_irem hx hb (by omega) (by omega) (by omega) dL_law_71 ?_
        exact cont (x % 24) (Nat.mod_lt _ (by decide))
      · refine lv_iconst (v := nI 0) hx hb dL_law_63 (by decide) ?_
        refine lv_goto (tgt := 72) hx hb dL_law_64 (by decide) ?_
        exact cont 0 (by decide)
theorem q_w0_le : ∀ j, q_w0 j ≤ 1000 := by
  intro j
  unfold q_w0
  repeat' split
  all_goals decide
theorem q_w0_pos : 0 < q_sum q_w0 12 := by decide
theorem q_ok0 : q_ok 1 0 (fun _ => 0, 0, (fun _ => 0, fun _ => (-1), 0, 0), fun _ => 0, fun _ => nI 0, 0) 0 := ⟨q_inv_0 _, (q_rko_0 _).symm, rfl, Nat.zero_le _, fun i hi => absurd hi (Nat.not_lt_zero i), (q_pop_0 38).symm⟩
theorem r_st0 : r_st 1 0 (fun _ => 0, 0, (fun _ => 0, fun _ => (-1), 0, 0), fun _ => 0, fun _ => nI 0, 0) 0 := ⟨q_ok0, fun i hi => absurd hi (Nat.not_lt_zero i), r_pl_0 0 _ _, Nat.le_refl 0⟩
set_option maxHeartbeats 4000000 in
set_option maxRecDepth 100000 in
/-- the law, from its entry -/
theorem whole_start {p : Program} {e : Env} {s : State} {m : MethodId} {below : List Frame} {meth : Method} {c : Code} (l : Launch) (hflags : l.flags = flags0) {b L : Nat} {xs : Nat → Int32} (hL : L ≤ 260) (C0 : lw_At p s m meth c b L xs) : W p l e room_1 s m #[Value.ref b] below meth c s.heap [] 0 0 (lw_Z below #[Value.ref b] s) (entryFrame m ([Value.ref b] : List Value).toArray 14) := by
  obtain ⟨hx, hb, hr, hml, hown, hts0, hXs, hbl, hlocks, hgv⟩ := C0
  have hst : l.stackTraces = false := by unfold Launch.stackTraces; rw [hflags]; decide
  have hgs := flat_of_before _ hgv
  obtain ⟨G, hK, hcI⟩ := q_K_of hts0
  have hX := q_X_of hts0 hgs
  have hE : vq_E true G (fun q : Nat => s.heap.size ≤ q) s s.heap := fun _ => q_F_of hts0 hgs hcI
  have hts : ∀ w ∈ wsL_law, w.before #[Value.ref b] s = true := fun w hw => hts0 w (wsL_law_in w hw)
  have C : vq_C cL_law 14 ret wsL_law RL G (fun q : Nat => s.heap.size ≤ q) p s m #[Value.ref b] meth c := ⟨⟨hx, hb, hml, hown, hts⟩, hK, q_N_of hts0, fun q h => h, hlocks, hr⟩
  have h : vq_H G (fun q : Nat => s.heap.size ≤ q) s [] s.heap [] := ⟨fun k q h => by simp at h, ⟨fun i j p q h => by simp at h, fun k q h => by simp at h⟩, va_S.rf⟩
  have cl10 := hts0 (.classLink RL 10 RX5) (by decide +kernel)
  have inX5 := hts0 (.instantiable RX5 5) (by decide +kernel)
  have iniX5 := hts0 (.initialized RX5) (by decide +kernel)
  have iX5 : ∀ w ∈ u_ws RX5 TX5 5, w ∈ wsL_law := inlX5
  have imX5_init := hts0 (.instanceMethod yX5_init) (by decide +kernel)
  have mlX5_init := hts0 (.methodLink RL 128 yX5_init) (by decide +kernel)
  have hl := lv_entry ([.ref b]) (n := 14) (Nat.le_of_ble_eq_true rfl)
  rw [lg_entry_eq]
  generalize (lg_sl ([.ref b]) ++ List.replicate (14 - (lg_sl ([.ref b])).length) Slot.unset).toArray = ls at hl ⊢
  have hl : lv_has ls 14 [(0, .ref b)] := hl
  refine q_newO (Cn := RX5) (T := TX5) (N := 5) (ci := 5) (fs := [.null, .null, .null, .null, .null]) C h iX5 tyX5 tyX5_ok cl10 inX5 iniX5 rfl (fun j hj => by rcases (show j = 0 ∨ j = 1 ∨ j = 2 ∨ j = 3 ∨ j = 4 by omega) with rfl | rfl | rfl | rfl | rfl <;> rfl) (Nat.le_of_ble_eq_true rfl) (Nat.le_of_ble_eq_true rfl) dL_law_0 (w' := fun q1 => [(q1, .inr (5, [.null, .null, .null, .null, .null]))]) (fun _ => rfl) (fun q1 H h => ?_)
  refine W.widen (k := 1) (n := 5) (Nat.le_of_ble_eq_true rfl) (Nat.le_of_ble_eq_true rfl) ?_
  refine lv_dup hx hb dL_law_3 rfl ?_
  refine q_callIP C h (c_X5_init l G q1) hE (cwI 0 hts gL_law_X5_init rfl rfl rfl iniX5 mlX5_init imX5_init rfl (by decide +kernel) ⟨Nat.le_of_ble_eq_true rfl, Nat.le_of_ble_eq_true rfl⟩) [0] rfl rfl [] (wr := []) rfl rfl (by decide) rfl hl.1 rfl (Nat.le_of_ble_eq_true rfl) dL_law_4 ⟨Nat.le_of_ble_eq_true rfl, Nat.le_of_ble_eq_true rfl⟩ [0, 1, 2, 3, 4, 5, 6, 7, 8, 9, 10, 11, 12, 13] (w' := fun u1 => [(q1, .inr (5, [.ref u1.1, .ref u1.2.2.1, .ref u1.2.2.2.2.1, .ref u1.2.2.2.2.2.2.2.2.1, .ref u1.2.2.2.2.2.2.2.2.2.2.2.1])), (u1.1, .inr (4, [.ref u1.2.1])), (u1.2.1, .inl (G.2.1, 12, .inl (fun zz => nI (q_w0 zz)))), (u1.2.2.1, .inr (3, [.ref u1.2.2.2.1, .int (nI 1), .int (nI 0)])), (u1.2.2.2.1, .inl (G.2.1, 32, .inl (fun _ => (nI 0)))), (u1.2.2.2.2.1, .inr (2, [.ref u1.2.2.2.2.2.1, .int (nI 0), .ref u1.2.2.2.2.2.2.1, .ref u1.2.2.2.2.2.2.2.1, .int (nI 0), .long 0])), (u1.2.2.2.2.2.1, .inl (G.2.2, 126, .inr (.inl (fun _ => 0)))), (u1.2.2.2.2.2.2.1, .inl (G.2.1, 38, .inl (fun zz => nI ((fun _ => 0) zz)))), (u1.2.2.2.2.2.2.2.1, .inl (G.2.1, 38, .inl (fun _ => (-1)))), (u1.2.2.2.2.2.2.2.2.1, .inr (1, [.ref u1.2.2.2.2.2.2.2.2.2.1, .ref u1.2.2.2.2.2.2.2.2.2.2.1, .int (nI 0)])), (u1.2.2.2.2.2.2.2.2.2.1, .inl (G.2.2, 38, .inr (.inl (fun _ => 0)))), (u1.2.2.2.2.2.2.2.2.2.2.1, .inl (G.2.1, 38, .inl (fun _ => (nI 0)))), (u1.2.2.2.2.2.2.2.2.2.2.2.1, .inr (0, [.ref u1.2.2.2.2.2.2.2.2.2.2.2.2, .long 0, .int (nI 0), .long 0])), (u1.2.2.2.2.2.2.2.2.2.2.2.2, .inl (G.2.1, 38, .inl (fun zz => nI ((fun _ => 0) zz))))]) (fun _ => rfl) rfl (fun u1 H locs h => ?_)
  refine W.widen (k := 14) (n := 382) (Nat.le_of_ble_eq_true rfl) (Nat.le_of_ble_eq_true rfl) ?_
  refine lv_astore_n (lv' := [(1, .ref q1), (0, .ref b)]) hx hb dL_law_7 rfl hl (by decide) rfl (fun ls hl => ?_)
  refine lv_iconst (v := nI 1) hx hb dL_law_8 (by decide) ?_
  refine q_top (v' := .int (q_b true)) rfl ?_
  refine lv_istore_n (lv' := [(2, .int (q_b true)), (1, .ref q1), (0, .ref b)]) hx hb dL_law_9 rfl hl (by decide) rfl (fun ls hl => ?_)
  refine lv_iconst (v := nI 0) hx hb dL_law_10 (by decide) ?_
  refine lv_istore_n (lv' := [(3, .int (nI 0)), (2, .int (q_b true)), (1, .ref q1), (0, .ref b)]) hx hb dL_law_11 rfl hl (by decide) rfl (fun ls hl => ?_)
  refine law_first hst C hX q1 u1.1 u1.2.1 u1.2.2.1 u1.2.2.2.1 u1.2.2.2.2.1 u1.2.2.2.2.2.1 u1.2.2.2.2.2.2.1 u1.2.2.2.2.2.2.2.1 u1.2.2.2.2.2.2.2.2.1 u1.2.2.2.2.2.2.2.2.2.1 u1.2.2.2.2.2.2.2.2.2.2.1 u1.2.2.2.2.2.2.2.2.2.2.2.1 u1.2.2.2.2.2.2.2.2.2.2.2.2 b 0 0 0 0 true (by decide) (by decide) (by decide) 14 382 (by omega) (by omega) (fun tr' P' H locs hLI ls hl => law_loop hst C hX hXs hbl hL q1 u1.1 u1.2.1 u1.2.2.1 u1.2.2.2.1 u1.2.2.2.2.1 u1.2.2.2.2.2.1 u1.2.2.2.2.2.2.1 u1.2.2.2.2.2.2.2.1 u1.2.2.2.2.2.2.2.2.1 u1.2.2.2.2.2.2.2.2.2.1 u1.2.2.2.2.2.2.2.2.2.2.1 u1.2.2.2.2.2.2.2.2.2.2.2.1 u1.2.2.2.2.2.2.2.2.2.2.2.2 61 0 (14 + 129) (382 + 774) (by omega) (by omega) (by omega) (by omega) tr' P' H locs hLI ls hl) H _ ?_ ls (lv_sub hl [3, 2, 1, 0] rfl)
  exact ⟨q_w0, fun _ => (nI 0), 1, 0, 0, 0, (fun _ => 0), (fun _ => 0), fun _ => (-1), 0, (fun _ => 0), fun _ => (nI 0), 0, 0, 0, (fun _ => 0), 0, q_w0_le, q_w0_pos, Nat.le_refl 1, by decide, Nat.zero_le 6, r_st0, fun _ => r_tru_0 _, h.sub [0, 1, 2, 3, 4, 5, 6, 7, 8, 9, 10, 11, 12, 13] (by decide) rfl⟩
