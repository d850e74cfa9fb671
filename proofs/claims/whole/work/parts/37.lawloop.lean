/-! THE CLAIM OUT OF ONE WALK OF THE LAW'S BODY. Your part is whole_start (and what it stands on); all else here is the same for every law, but numbers. -/
def R_law : String := "FountainCodeLaw"
def lw_P (b : Addr) (xs : List Int32) (args : Array Value) (s : State) : Prop := args = #[.ref b] ∧ s.IntsAt b xs ∧ xs.length ≤ 1536 ∧ (Jvm.Cond.and given_1 narrow_1).before args s = true
def lw_Q (_ : Array Value) (s : State) (o : Outcome) (t : State) : Prop := o = .returned (some (.int 1)) ∧ Framed s o t [] 601024 7293034
def lw_Z (below : List Frame) (a : Array Value) (s : State) : State → Prop := fun t => ∃ o, t.status = .running ∧ Ended t below o ∧ lw_Q a s o t
/-- the law's own end, with 1 on the stack, nothing written that was there before, its room as the claim has it -/
theorem lw_ret {p : Program} {l : Launch} {e : Env} {s : State} {m : MethodId} {below : List Frame} {meth : Method} {c : Code} {b : Nat} (hx : p.tables.exec = Jvm.exec) (hb : c.code = code) (hr : meth.sig.returnType = ret) (hlocks : meth.locks = false) {pc : Nat} {H : Heap} {ls : Array Slot} (hdg : decode code pc = .ok (.ireturn, 1)) : W p l e room_1 s m #[Value.ref b] below meth c H [] 601024 7293034 (lw_Z below #[Value.ref b] s) (F0 m pc ls [.int 1]) := by
  intro T hT X
  obtain ⟨fs, hret, hrun, hended, hW, hframe⟩ := X.leave (v := some (.int 1)) (hlocks := hlocks) (fun h => by rw [hr] at h; cases h)
  have hmeth' : T.vm.method? m = some meth := X.method'
  refine ⟨T.setFrames fs, ?_, .returned (some (.int 1)), hrun, hended, rfl, ⟨_, rfl⟩, hW, hframe⟩
  jvm_step X.here [X.here.top, hx, hb, hdg, hmeth', hr, ret, narrow_b1]
  (try refine ⟨rfl, ?_⟩); (try refine ⟨rfl, ?_⟩)
  first | (intro acts; rw [hret _ acts rfl rfl rfl]) | rw [hret _ _ rfl rfl rfl]
  exact Steps.refl _
/-- what holds at the law's entry: the machine, the code, the tables' words (any of lw_tbl by 'hts w (by decide +kernel)'), the script of L ints xs at the cell b, what the Statement gives of the start (any of its parts by flat_of_before) -/
def lw_At (p : Program) (s : State) (m : MethodId) (meth : Method) (c : Code) (b L : Nat) (xs : Nat → Int32) : Prop :=
  p.tables.exec = Jvm.exec ∧ c.code = code ∧ meth.sig.returnType = ret ∧ c.maxLocals = 7 ∧ s.vm.findClass R_law = some m.cls ∧ (∀ w ∈ lw_tbl, w.before #[Value.ref b] s = true) ∧ va_X b L xs s s.heap ∧ b < s.heap.size ∧ meth.locks = false ∧ (Jvm.Cond.and given_1 narrow_1).before #[Value.ref b] s = true
/-! the loop and the start: laid by wip/whole/lawstart.py -/
set_option maxHeartbeats 4000000 in
set_option maxRecDepth 100000 in
/-- the law's loop -/
theorem law_loop {p : Program} {l : Launch} {e : Env} {s : State} {m : MethodId} {below : List Frame} {meth : Method} {c : Code} {G : vq_G} {b L : Nat} {xs : Nat → Int32} (hst : l.stackTraces = false) (C : vq_C cL_law 7 ret wsL_law RL G (fun q : Nat => s.heap.size ≤ q) p s m #[Value.ref b] meth c) (hX : vq_X (fun q : Nat => s.heap.size ≤ q) s s.heap) (hXs : va_X b L xs s s.heap) (hbl : b < s.heap.size) (hL : L ≤ 1536) (o0 wh al sh av ph ae ao ab eh ar aw dh ad n0 mw mv mm mn mo mb mr mq mrk mqk md ot : Nat) :
    ∀ (n i cells slots : Nat), L + 3 ≤ i + 3 * n → i ≤ L → cells ≤ 100 + i → slots ≤ 2000 + 6 * i → ∀ (H : Heap) (locs : List Loc), q_LI G (fun q : Nat => s.heap.size ≤ q) s o0 wh al sh av ph ae ao ab eh ar aw dh ad n0 mw mv mm mn mo mb mr mq mrk mqk md ot H locs → ∀ ls : Array Slot, lv_has ls 7 [(0, .ref b), (1, .ref o0), (2, .ref n0), (3, .ref ot), (4, .int (nI i))] → W p l e room_1 s m #[Value.ref b] below meth c H locs cells slots (lw_Z below #[Value.ref b] s) (F0 m 23 ls []) := by
  have hbA : ¬ (fun q : Nat => s.heap.size ≤ q) b := Nat.not_le.mpr hbl
  have hx := C.1.1
  have hb := C.1.2.1
  intro n
  induction n with
  | zero =>
    intro i cells slots h1 h2
    exact absurd h1 (by omega)
  | succ n ih =>
    intro i cells slots hn hi hc hs H locs hLI ls hl
    have hS : va_S (fun q : Nat => s.heap.size ≤ q) s.heap H locs := by
      obtain ⟨w, vals, S, P, nn, pk, ps, msk, po, pb, rk, rows, rv, gen, sz, bs, row, ov, rf, dr, red, rdn, geM, dm, nums, rwk, rvk, drw, _, _, _, _, _, _, h⟩ := hLI
      exact h.2.2
    refine lv_iload hx hb dL_law_23 (lv_at hl 4 rfl) ?_
    refine lv_aload_n hx hb dL_law_25 rfl (lv_at hl 0 rfl) ?_
    refine va_slen hx hb hXs hbl hbA hS dL_law_26 ?_
    refine lv_iconst (v := nI 3) hx hb dL_law_27 (by decide) ?_
    refine lv_isub hx hb dL_law_28 ?_
    refine lv_icmp_gt (tgt := 1044) hx hb dL_law_29 (by decide) (fun z => ?_) (fun z => ?_)
    · refine lv_iconst (v := 1) hx hb dL_law_1044 (by decide) ?_
      refine va_forget (fun q hq => hS.2.2 q hq) ?_
      refine W.widen (k := 601024) (n := 7293034) (by omega) (by omega) ?_
      exact lw_ret hx hb C.2.2.2.2.2 C.2.2.2.2.1 dL_law_1045
    · have hi3 : i + 3 ≤ L := by
        rcases Nat.lt_or_ge L 3 with q | q
        · exfalso
          rcases (show L = 0 ∨ L = 1 ∨ L = 2 by omega) with rfl | rfl | rfl
          · rcases (show i = 0 by omega) with rfl
            exact z (by decide)
          · rcases (show i = 0 ∨ i = 1 by omega) with rfl | rfl <;> exact z (by decide)
          · rcases (show i = 0 ∨ i = 1 ∨ i = 2 by omega) with rfl | rfl | rfl <;> exact z (by decide)
        · have z1 : ¬ nI L - nI 3 < nI i := z
          rw [pk_sub q, nI_ltI (by omega) (by omega)] at z1
          omega
      have K : ∀ (H : Heap) (locs : List Loc), q_LI G (fun q : Nat => s.heap.size ≤ q) s o0 wh al sh av ph ae ao ab eh ar aw dh ad n0 mw mv mm mn mo mb mr mq mrk mqk md ot H locs → ∀ ls : Array Slot, lv_has ls 7 [(0, .ref b), (1, .ref o0), (2, .ref n0), (3, .ref ot), (4, .int (nI i))] → W p l e room_1 s m #[Value.ref b] below meth c H locs (cells + 1) (slots + 6) (lw_Z below #[Value.ref b] s) (F0 m 1038 ls []) := by
        intro H locs hLI ls hl
        refine lv_iinc (v := nI (i + 3)) (lv' := [(4, .int (nI (i + 3))), (0, .ref b), (1, .ref o0), (2, .ref n0), (3, .ref ot)]) hx hb dL_law_1038 hl (k := 4) rfl (show nI i + Int32.ofInt 3 = nI (i + 3) from nI_add i 3) (by decide) rfl (fun ls hl => ?_)
        refine lv_goto (tgt := 23) hx hb dL_law_1041 (by decide) ?_
        exact ih (i + 3) (cells + 1) (slots + 6) (by omega) hi3 (by omega) (by omega) H locs hLI ls (lv_sub hl [1, 2, 3, 4, 0] rfl)
      obtain ⟨x0, hx0⟩ : ∃ x0, xs i = x0 := ⟨_, rfl⟩
      refine lv_aload_n hx hb dL_law_32 rfl (lv_at hl 0 rfl) ?_
      refine lv_iload hx hb dL_law_33 (lv_at hl 4 rfl) ?_
      have hh : ∃ h : va_W, vq_H G (fun q : Nat => s.heap.size ≤ q) s h H locs := by
        obtain ⟨w, vals, S, P, nn, pk, ps, msk, po, pb, rk, rows, rv, gen, sz, bs, row, ov, rf, dr, red, rdn, geM, dm, nums, rwk, rvk, drw, _, _, _, _, _, _, h⟩ := hLI
        exact ⟨_, h⟩
      obtain ⟨wh0, hh⟩ := hh
      refine q_sld (v := x0) C hh hXs hbl hbA hx0 (by omega) hL dL_law_35 ?_
      refine lv_bipush (v := nI 31) hx hb dL_law_36 (by decide) ?_
      refine lv_iand hx hb dL_law_38 ?_
      obtain ⟨k, hk, ek⟩ := q_and31 x0
      rw [ek]
      clear ek
      rcases (show k = 0 ∨ k = 1 ∨ k = 2 ∨ k = 3 ∨ k = 4 ∨ k = 5 ∨ k = 6 ∨ k = 7 ∨ k = 8 ∨ k = 9 ∨ k = 10 ∨ k = 11 ∨ k = 12 ∨ k = 13 ∨ k = 14 ∨ k = 15 ∨ k = 16 ∨ k = 17 ∨ k = 18 ∨ k = 19 ∨ k = 20 ∨ k = 21 ∨ k = 22 ∨ k = 23 ∨ k = 24 ∨ k = 25 ∨ k = 26 ∨ k = 27 ∨ k = 28 ∨ k = 29 ∨ k = 30 ∨ k = 31 by omega) with rfl | rfl | rfl | rfl | rfl | rfl | rfl | rfl | rfl | rfl | rfl | rfl | rfl | rfl | rfl | rfl | rfl | rfl | rfl | rfl | rfl | rfl | rfl | rfl | rfl | rfl | rfl | rfl | rfl | rfl | rfl | rfl
      · refine lv_tableIn (off := 101) (tgt := 140) hx hb dL_law_39 (by decide) (by decide) (by decide) (by decide) ?_
        exact law_case_0 hst C hX hXs hbl hbA hL o0 wh al sh av ph ae ao ab eh ar aw dh ad n0 mw mv mm mn mo mb mr mq mrk mqk md ot i cells slots hi3 (by omega) (by omega) K H locs hLI ls hl
      · refine lv_tableIn (off := 169) (tgt := 208) hx hb dL_law_39 (by decide) (by decide) (by decide) (by decide) ?_
        exact law_case_1 hst C hX hXs hbl hbA hL o0 wh al sh av ph ae ao ab eh ar aw dh ad n0 mw mv mm mn mo mb mr mq mrk mqk md ot i cells slots hi3 (by omega) (by omega) K H locs hLI ls hl
      · refine lv_tableIn (off := 237) (tgt := 276) hx hb dL_law_39 (by decide) (by decide) (by decide) (by decide) ?_
        exact law_case_2 hst C hX hXs hbl hbA hL o0 wh al sh av ph ae ao ab eh ar aw dh ad n0 mw mv mm mn mo mb mr mq mrk mqk md ot i cells slots hi3 (by omega) (by omega) K H locs hLI ls hl
      · refine lv_tableIn (off := 305) (tgt := 344) hx hb dL_law_39 (by decide) (by decide) (by decide) (by decide) ?_
        exact law_case_3 hst C hX hXs hbl hbA hL o0 wh al sh av ph ae ao ab eh ar aw dh ad n0 mw mv mm mn mo mb mr mq mrk mqk md ot i cells slots hi3 (by omega) (by omega) K H locs hLI ls hl
      · refine lv_tableIn (off := 318) (tgt := 357) hx hb dL_law_39 (by decide) (by decide) (by decide) (by decide) ?_
        exact law_case_4 hst C hX hXs hbl hbA hL o0 wh al sh av ph ae ao ab eh ar aw dh ad n0 mw mv mm mn mo mb mr mq mrk mqk md ot i cells slots hi3 (by omega) (by omega) K H locs hLI ls hl
      · refine lv_tableIn (off := 374) (tgt := 413) hx hb dL_law_39 (by decide) (by decide) (by decide) (by decide) ?_
        exact law_case_5 hst C hX hXs hbl hbA hL o0 wh al sh av ph ae ao ab eh ar aw dh ad n0 mw mv mm mn mo mb mr mq mrk mqk md ot i cells slots hi3 (by omega) (by omega) K H locs hLI ls hl
      · refine lv_tableIn (off := 399) (tgt := 438) hx hb dL_law_39 (by decide) (by decide) (by decide) (by decide) ?_
        exact law_case_6 hst C hX hXs hbl hbA hL o0 wh al sh av ph ae ao ab eh ar aw dh ad n0 mw mv mm mn mo mb mr mq mrk mqk md ot i cells slots hi3 (by omega) (by omega) K H locs hLI ls hl
      · refine lv_tableIn (off := 467) (tgt := 506) hx hb dL_law_39 (by decide) (by decide) (by decide) (by decide) ?_
        exact law_case_7 hst C hX hXs hbl hbA hL o0 wh al sh av ph ae ao ab eh ar aw dh ad n0 mw mv mm mn mo mb mr mq mrk mqk md ot i cells slots hi3 (by omega) (by omega) K H locs hLI ls hl
      · refine lv_tableIn (off := 492) (tgt := 531) hx hb dL_law_39 (by decide) (by decide) (by decide) (by decide) ?_
        exact law_case_8 hst C hX hXs hbl hbA hL o0 wh al sh av ph ae ao ab eh ar aw dh ad n0 mw mv mm mn mo mb mr mq mrk mqk md ot i cells slots hi3 (by omega) (by omega) K H locs hLI ls hl
      · refine lv_tableIn (off := 560) (tgt := 599) hx hb dL_law_39 (by decide) (by decide) (by decide) (by decide) ?_
        exact law_case_9 hst C hX hXs hbl hbA hL o0 wh al sh av ph ae ao ab eh ar aw dh ad n0 mw mv mm mn mo mb mr mq mrk mqk md ot i cells slots hi3 (by omega) (by omega) K H locs hLI ls hl
      · refine lv_tableIn (off := 628) (tgt := 667) hx hb dL_law_39 (by decide) (by decide) (by decide) (by decide) ?_
        exact law_case_10 hst C hX hXs hbl hbA hL o0 wh al sh av ph ae ao ab eh ar aw dh ad n0 mw mv mm mn mo mb mr mq mrk mqk md ot i cells slots hi3 (by omega) (by omega) K H locs hLI ls hl
      · refine lv_tableIn (off := 641) (tgt := 680) hx hb dL_law_39 (by decide) (by decide) (by decide) (by decide) ?_
        exact law_case_11 hst C hX hXs hbl hbA hL o0 wh al sh av ph ae ao ab eh ar aw dh ad n0 mw mv mm mn mo mb mr mq mrk mqk md ot i cells slots hi3 (by omega) (by omega) K H locs hLI ls hl
      · refine lv_tableIn (off := 654) (tgt := 693) hx hb dL_law_39 (by decide) (by decide) (by decide) (by decide) ?_
        exact law_case_12 hst C hX hXs hbl hbA hL o0 wh al sh av ph ae ao ab eh ar aw dh ad n0 mw mv mm mn mo mb mr mq mrk mqk md ot i cells slots hi3 (by omega) (by omega) K H locs hLI ls hl
      · refine lv_tableIn (off := 667) (tgt := 706) hx hb dL_law_39 (by decide) (by decide) (by decide) (by decide) ?_
        exact law_case_13 hst C hX hXs hbl hbA hL o0 wh al sh av ph ae ao ab eh ar aw dh ad n0 mw mv mm mn mo mb mr mq mrk mqk md ot i cells slots hi3 (by omega) (by omega) K H locs hLI ls hl
      · refine lv_tableIn (off := 723) (tgt := 762) hx hb dL_law_39 (by decide) (by decide) (by decide) (by decide) ?_
        exact law_case_14 hst C hX hXs hbl hbA hL o0 wh al sh av ph ae ao ab eh ar aw dh ad n0 mw mv mm mn mo mb mr mq mrk mqk md ot i cells slots hi3 (by omega) (by omega) K H locs hLI ls hl
      · refine lv_tableIn (off := 779) (tgt := 818) hx hb dL_law_39 (by decide) (by decide) (by decide) (by decide) ?_
        exact law_case_15 hst C hX hXs hbl hbA hL o0 wh al sh av ph ae ao ab eh ar aw dh ad n0 mw mv mm mn mo mb mr mq mrk mqk md ot i cells slots hi3 (by omega) (by omega) K H locs hLI ls hl
      · refine lv_tableIn (off := 792) (tgt := 831) hx hb dL_law_39 (by decide) (by decide) (by decide) (by decide) ?_
        exact law_case_16 hst C hX hXs hbl hbA hL o0 wh al sh av ph ae ao ab eh ar aw dh ad n0 mw mv mm mn mo mb mr mq mrk mqk md ot i cells slots hi3 (by omega) (by omega) K H locs hLI ls hl
      · refine lv_tableIn (off := 855) (tgt := 894) hx hb dL_law_39 (by decide) (by decide) (by decide) (by decide) ?_
        exact law_case_17 hst C hX hXs hbl hbA hL o0 wh al sh av ph ae ao ab eh ar aw dh ad n0 mw mv mm mn mo mb mr mq mrk mqk md ot i cells slots hi3 (by omega) (by omega) K H locs hLI ls hl
      · refine lv_tableIn (off := 911) (tgt := 950) hx hb dL_law_39 (by decide) (by decide) (by decide) (by decide) ?_
        exact law_case_18 hst C hX hXs hbl hbA hL o0 wh al sh av ph ae ao ab eh ar aw dh ad n0 mw mv mm mn mo mb mr mq mrk mqk md ot i cells slots hi3 (by omega) (by omega) K H locs hLI ls hl
      · refine lv_tableIn (off := 936) (tgt := 975) hx hb dL_law_39 (by decide) (by decide) (by decide) (by decide) ?_
        exact law_case_19 hst C hX hXs hbl hbA hL o0 wh al sh av ph ae ao ab eh ar aw dh ad n0 mw mv mm mn mo mb mr mq mrk mqk md ot i cells slots hi3 (by omega) (by omega) K H locs hLI ls hl
      · refine lv_tableIn (off := 961) (tgt := 1000) hx hb dL_law_39 (by decide) (by decide) (by decide) (by decide) ?_
        exact law_case_20 hst C hX hXs hbl hbA hL o0 wh al sh av ph ae ao ab eh ar aw dh ad n0 mw mv mm mn mo mb mr mq mrk mqk md ot i cells slots hi3 (by omega) (by omega) K H locs hLI ls hl
      · refine lv_tableIn (off := 986) (tgt := 1025) hx hb dL_law_39 (by decide) (by decide) (by decide) (by decide) ?_
        exact law_case_21 hst C hX hXs hbl hbA hL o0 wh al sh av ph ae ao ab eh ar aw dh ad n0 mw mv mm mn mo mb mr mq mrk mqk md ot i cells slots hi3 (by omega) (by omega) K H locs hLI ls hl
      · refine lv_tableOut (tgt := 1038) hx hb dL_law_39 (Or.inr (by decide)) (by decide) ?_
        exact W.widen (Nat.le_succ _) (Nat.le_add_right _ _) (K H locs hLI ls hl)
      · refine lv_tableOut (tgt := 1038) hx hb dL_law_39 (Or.inr (by decide)) (by decide) ?_
        exact W.widen (Nat.le_succ _) (Nat.le_add_right _ _) (K H locs hLI ls hl)
      · refine lv_tableOut (tgt := 1038) hx hb dL_law_39 (Or.inr (by decide)) (by decide) ?_
        exact W.widen (Nat.le_succ _) (Nat.le_add_right _ _) (K H locs hLI ls hl)
      · refine lv_tableOut (tgt := 1038) hx hb dL_law_39 (Or.inr (by decide)) (by decide) ?_
        exact W.widen (Nat.le_succ _) (Nat.le_add_right _ _) (K H locs hLI ls hl)
      · refine lv_tableOut (tgt := 1038) hx hb dL_law_39 (Or.inr (by decide)) (by decide) ?_
        exact W.widen (Nat.le_succ _) (Nat.le_add_right _ _) (K H locs hLI ls hl)
      · refine lv_tableOut (tgt := 1038) hx hb dL_law_39 (Or.inr (by decide)) (by decide) ?_
        exact W.widen (Nat.le_succ _) (Nat.le_add_right _ _) (K H locs hLI ls hl)
      · refine lv_tableOut (tgt := 1038) hx hb dL_law_39 (Or.inr (by decide)) (by decide) ?_
        exact W.widen (Nat.le_succ _) (Nat.le_add_right _ _) (K H locs hLI ls hl)
      · refine lv_tableOut (tgt := 1038) hx hb dL_law_39 (Or.inr (by decide)) (by decide) ?_
        exact W.widen (Nat.le_succ _) (Nat.le_add_right _ _) (K H locs hLI ls hl)
      · refine lv_tableOut (tgt := 1038) hx hb dL_law_39 (Or.inr (by decide)) (by decide) ?_
        exact W.widen (Nat.le_succ _) (Nat.le_add_right _ _) (K H locs hLI ls hl)
      · refine lv_tableOut (tgt := 1038) hx hb dL_law_39 (Or.inr (by decide)) (by decide) ?_
        exact W.widen (Nat.le_succ _) (Nat.le_add_right _ _) (K H locs hLI ls hl)
theorem q_w0_le : ∀ j, q_w0 j ≤ 1000 := by
  intro j
  unfold q_w0
  repeat' split
  all_goals decide
theorem q_w0_pos : 0 < q_sum q_w0 12 := by decide
theorem q_ok0 : q_ok 1 0 (fun _ => 0, 0, (fun _ => 0, fun _ => (-1), 0, 0), fun _ => 0, fun _ => nI 0, 0) 0 := ⟨q_inv_0 _, (q_rko_0 _).symm, rfl, Nat.zero_le _, fun i hi => absurd hi (Nat.not_lt_zero i), (q_pop_0 38).symm⟩
set_option maxHeartbeats 4000000 in
set_option maxRecDepth 100000 in
/-- the law, from its entry -/
theorem whole_start {p : Program} {e : Env} {s : State} {m : MethodId} {below : List Frame} {meth : Method} {c : Code} (l : Launch) (hflags : l.flags = flags0) {b L : Nat} {xs : Nat → Int32} (hL : L ≤ 1536) (C0 : lw_At p s m meth c b L xs) : W p l e room_1 s m #[Value.ref b] below meth c s.heap [] 0 0 (lw_Z below #[Value.ref b] s) (entryFrame m ([Value.ref b] : List Value).toArray 7) := by
  obtain ⟨hx, hb, hr, hml, hown, hts0, hXs, hbl, hlocks, hgv⟩ := C0
  have hst : l.stackTraces = false := by unfold Launch.stackTraces; rw [hflags]; decide
  have hgs := flat_of_before _ hgv
  obtain ⟨G, hK, hcI⟩ := q_K_of hts0
  have hX := q_X_of hts0 hgs
  have hE : vq_E true G (fun q : Nat => s.heap.size ≤ q) s s.heap := fun _ => q_F_of hts0 hgs hcI
  have hts : ∀ w ∈ wsL_law, w.before #[Value.ref b] s = true := fun w hw => hts0 w (wsL_law_in w hw)
  have C : vq_C cL_law 7 ret wsL_law RL G (fun q : Nat => s.heap.size ≤ q) p s m #[Value.ref b] meth c := ⟨⟨hx, hb, hml, hown, hts⟩, hK, q_N_of hts0, fun q h => h, hlocks, hr⟩
  have h : vq_H G (fun q : Nat => s.heap.size ≤ q) s [] s.heap [] := ⟨fun k q h => by simp at h, ⟨fun i j p q h => by simp at h, fun k q h => by simp at h⟩, va_S.rf⟩
  have cl8 := hts0 (.classLink RL 8 RX5) (by decide +kernel)
  have inX5 := hts0 (.instantiable RX5 5) (by decide +kernel)
  have iniX5 := hts0 (.initialized RX5) (by decide +kernel)
  have iX5 : ∀ w ∈ u_ws RX5 TX5 5, w ∈ wsL_law := by decide +kernel
  have imX5_init := hts0 (.instanceMethod yX5_init) (by decide +kernel)
  have mlX5_init := hts0 (.methodLink RL 51 yX5_init) (by decide +kernel)
  have cl52 := hts0 (.classLink RL 52 RX6) (by decide +kernel)
  have inX6 := hts0 (.instantiable RX6 22) (by decide +kernel)
  have iniX6 := hts0 (.initialized RX6) (by decide +kernel)
  have iX6 : ∀ w ∈ u_ws RX6 TX6 22, w ∈ wsL_law := by decide +kernel
  have imX6_init := hts0 (.instanceMethod yX6_init) (by decide +kernel)
  have mlX6_init := hts0 (.methodLink RL 54 yX6_init) (by decide +kernel)
  have aclong := hts0 (.arrayClass .long) (by decide +kernel)
  have hl := lv_entry ([.ref b]) (n := 7) (Nat.le_of_ble_eq_true rfl)
  rw [lg_entry_eq]
  generalize (lg_sl ([.ref b]) ++ List.replicate (7 - (lg_sl ([.ref b])).length) Slot.unset).toArray = ls at hl ⊢
  have hl : lv_has ls 7 [(0, .ref b)] := hl
  refine q_newO (Cn := RX5) (T := TX5) (N := 5) (ci := 5) (fs := [.null, .null, .null, .null, .null]) C h iX5 tyX5 tyX5_ok cl8 inX5 iniX5 rfl (fun j hj => by rcases (show j = 0 ∨ j = 1 ∨ j = 2 ∨ j = 3 ∨ j = 4 by omega) with rfl | rfl | rfl | rfl | rfl <;> rfl) (Nat.le_of_ble_eq_true rfl) (Nat.le_of_ble_eq_true rfl) dL_law_0 (w' := fun q1 => [(q1, .inr (5, [.null, .null, .null, .null, .null]))]) (fun _ => rfl) (fun q1 H h => ?_)
  refine W.widen (k := 1) (n := 5) (Nat.le_of_ble_eq_true rfl) (Nat.le_of_ble_eq_true rfl) ?_
  refine lv_dup hx hb dL_law_3 rfl ?_
  refine q_callIP C h (c_X5_init l G q1) hE (cwI 0 hts gL_law_X5_init rfl rfl rfl iniX5 mlX5_init imX5_init rfl (by decide +kernel) ⟨Nat.le_of_ble_eq_true rfl, Nat.le_of_ble_eq_true rfl⟩) [0] rfl rfl [] (wr := []) rfl rfl (by decide) rfl hl.1 rfl (Nat.le_of_ble_eq_true rfl) dL_law_4 ⟨Nat.le_of_ble_eq_true rfl, Nat.le_of_ble_eq_true rfl⟩ [0, 1, 2, 3, 4, 5, 6, 7, 8, 9, 10, 11, 12, 13] (w' := fun u1 => [(q1, .inr (5, [.ref u1.1, .ref u1.2.2.1, .ref u1.2.2.2.2.1, .ref u1.2.2.2.2.2.2.2.2.1, .ref u1.2.2.2.2.2.2.2.2.2.2.2.1])), (u1.1, .inr (4, [.ref u1.2.1])), (u1.2.1, .inl (G.2.1, 12, .inl (fun zz => nI (q_w0 zz)))), (u1.2.2.1, .inr (3, [.ref u1.2.2.2.1, .int (nI 1), .int (nI 0)])), (u1.2.2.2.1, .inl (G.2.1, 32, .inl (fun _ => (nI 0)))), (u1.2.2.2.2.1, .inr (2, [.ref u1.2.2.2.2.2.1, .int (nI 0), .ref u1.2.2.2.2.2.2.1, .ref u1.2.2.2.2.2.2.2.1, .int (nI 0), .long 0])), (u1.2.2.2.2.2.1, .inl (G.2.2, 126, .inr (.inl (fun _ => 0)))), (u1.2.2.2.2.2.2.1, .inl (G.2.1, 38, .inl (fun zz => nI ((fun _ => 0) zz)))), (u1.2.2.2.2.2.2.2.1, .inl (G.2.1, 38, .inl (fun _ => (-1)))), (u1.2.2.2.2.2.2.2.2.1, .inr (1, [.ref u1.2.2.2.2.2.2.2.2.2.1, .ref u1.2.2.2.2.2.2.2.2.2.2.1, .int (nI 0)])), (u1.2.2.2.2.2.2.2.2.2.1, .inl (G.2.2, 38, .inr (.inl (fun _ => 0)))), (u1.2.2.2.2.2.2.2.2.2.2.1, .inl (G.2.1, 38, .inl (fun _ => (nI 0)))), (u1.2.2.2.2.2.2.2.2.2.2.2.1, .inr (0, [.ref u1.2.2.2.2.2.2.2.2.2.2.2.2, .long 0, .int (nI 0), .long 0])), (u1.2.2.2.2.2.2.2.2.2.2.2.2, .inl (G.2.1, 38, .inl (fun zz => nI ((fun _ => 0) zz))))]) (fun _ => rfl) rfl (fun u1 H locs h => ?_)
  refine W.widen (k := 14) (n := 382) (Nat.le_of_ble_eq_true rfl) (Nat.le_of_ble_eq_true rfl) ?_
  refine lv_astore_n (lv' := [(1, .ref q1), (0, .ref b)]) hx hb dL_law_7 rfl hl (by decide) rfl (fun ls hl => ?_)
  refine q_newO (Cn := RX6) (T := TX6) (N := 22) (ci := 6) (fs := [.int (nI 0), .null, .int (nI 0), .int (nI 0), .null, .int (nI 0), .int (nI 0), .null, .null, .int (nI 0), .long 0, .null, .null, .null, .null, .null, .null, .long 0, .int (nI 0), .long 0, .int (nI 0), .null]) C h iX6 tyX6 tyX6_ok cl52 inX6 iniX6 rfl (fun j hj => by rcases (show j = 0 ∨ j = 1 ∨ j = 2 ∨ j = 3 ∨ j = 4 ∨ j = 5 ∨ j = 6 ∨ j = 7 ∨ j = 8 ∨ j = 9 ∨ j = 10 ∨ j = 11 ∨ j = 12 ∨ j = 13 ∨ j = 14 ∨ j = 15 ∨ j = 16 ∨ j = 17 ∨ j = 18 ∨ j = 19 ∨ j = 20 ∨ j = 21 by omega) with rfl | rfl | rfl | rfl | rfl | rfl | rfl | rfl | rfl | rfl | rfl | rfl | rfl | rfl | rfl | rfl | rfl | rfl | rfl | rfl | rfl | rfl <;> rfl) (Nat.le_of_ble_eq_true rfl) (Nat.le_of_ble_eq_true rfl) dL_law_8 (w' := fun q2 => [(q1, .inr (5, [.ref u1.1, .ref u1.2.2.1, .ref u1.2.2.2.2.1, .ref u1.2.2.2.2.2.2.2.2.1, .ref u1.2.2.2.2.2.2.2.2.2.2.2.1])), (u1.1, .inr (4, [.ref u1.2.1])), (u1.2.1, .inl (G.2.1, 12, .inl (fun zz => nI (q_w0 zz)))), (u1.2.2.1, .inr (3, [.ref u1.2.2.2.1, .int (nI 1), .int (nI 0)])), (u1.2.2.2.1, .inl (G.2.1, 32, .inl (fun _ => (nI 0)))), (u1.2.2.2.2.1, .inr (2, [.ref u1.2.2.2.2.2.1, .int (nI 0), .ref u1.2.2.2.2.2.2.1, .ref u1.2.2.2.2.2.2.2.1, .int (nI 0), .long 0])), (u1.2.2.2.2.2.1, .inl (G.2.2, 126, .inr (.inl (fun _ => 0)))), (u1.2.2.2.2.2.2.1, .inl (G.2.1, 38, .inl (fun zz => nI ((fun _ => 0) zz)))), (u1.2.2.2.2.2.2.2.1, .inl (G.2.1, 38, .inl (fun _ => (-1)))), (u1.2.2.2.2.2.2.2.2.1, .inr (1, [.ref u1.2.2.2.2.2.2.2.2.2.1, .ref u1.2.2.2.2.2.2.2.2.2.2.1, .int (nI 0)])), (u1.2.2.2.2.2.2.2.2.2.1, .inl (G.2.2, 38, .inr (.inl (fun _ => 0)))), (u1.2.2.2.2.2.2.2.2.2.2.1, .inl (G.2.1, 38, .inl (fun _ => (nI 0)))), (u1.2.2.2.2.2.2.2.2.2.2.2.1, .inr (0, [.ref u1.2.2.2.2.2.2.2.2.2.2.2.2, .long 0, .int (nI 0), .long 0])), (u1.2.2.2.2.2.2.2.2.2.2.2.2, .inl (G.2.1, 38, .inl (fun zz => nI ((fun _ => 0) zz)))), (q2, .inr (6, [.int (nI 0), .null, .int (nI 0), .int (nI 0), .null, .int (nI 0), .int (nI 0), .null, .null, .int (nI 0), .long 0, .null, .null, .null, .null, .null, .null, .long 0, .int (nI 0), .long 0, .int (nI 0), .null]))]) (fun _ => rfl) (fun q2 H h => ?_)
  refine W.widen (k := 15) (n := 404) (Nat.le_of_ble_eq_true rfl) (Nat.le_of_ble_eq_true rfl) ?_
  refine lv_dup hx hb dL_law_11 rfl ?_
  refine q_callIP C h (c_X6_init l G q2) (fun h => nomatch h) (cwI 0 hts gL_law_X6_init rfl rfl rfl iniX6 mlX6_init imX6_init rfl (by decide +kernel) ⟨Nat.le_of_ble_eq_true rfl, Nat.le_of_ble_eq_true rfl⟩) [14] rfl rfl [0, 1, 2, 3, 4, 5, 6, 7, 8, 9, 10, 11, 12, 13] (wr := [(q1, .inr (5, [.ref u1.1, .ref u1.2.2.1, .ref u1.2.2.2.2.1, .ref u1.2.2.2.2.2.2.2.2.1, .ref u1.2.2.2.2.2.2.2.2.2.2.2.1])), (u1.1, .inr (4, [.ref u1.2.1])), (u1.2.1, .inl (G.2.1, 12, .inl (fun zz => nI (q_w0 zz)))), (u1.2.2.1, .inr (3, [.ref u1.2.2.2.1, .int (nI 1), .int (nI 0)])), (u1.2.2.2.1, .inl (G.2.1, 32, .inl (fun _ => (nI 0)))), (u1.2.2.2.2.1, .inr (2, [.ref u1.2.2.2.2.2.1, .int (nI 0), .ref u1.2.2.2.2.2.2.1, .ref u1.2.2.2.2.2.2.2.1, .int (nI 0), .long 0])), (u1.2.2.2.2.2.1, .inl (G.2.2, 126, .inr (.inl (fun _ => 0)))), (u1.2.2.2.2.2.2.1, .inl (G.2.1, 38, .inl (fun zz => nI ((fun _ => 0) zz)))), (u1.2.2.2.2.2.2.2.1, .inl (G.2.1, 38, .inl (fun _ => (-1)))), (u1.2.2.2.2.2.2.2.2.1, .inr (1, [.ref u1.2.2.2.2.2.2.2.2.2.1, .ref u1.2.2.2.2.2.2.2.2.2.2.1, .int (nI 0)])), (u1.2.2.2.2.2.2.2.2.2.1, .inl (G.2.2, 38, .inr (.inl (fun _ => 0)))), (u1.2.2.2.2.2.2.2.2.2.2.1, .inl (G.2.1, 38, .inl (fun _ => (nI 0)))), (u1.2.2.2.2.2.2.2.2.2.2.2.1, .inr (0, [.ref u1.2.2.2.2.2.2.2.2.2.2.2.2, .long 0, .int (nI 0), .long 0])), (u1.2.2.2.2.2.2.2.2.2.2.2.2, .inl (G.2.1, 38, .inl (fun zz => nI ((fun _ => 0) zz))))]) rfl rfl (by decide) rfl hl.1 rfl (Nat.le_of_ble_eq_true rfl) dL_law_12 ⟨Nat.le_of_ble_eq_true rfl, Nat.le_of_ble_eq_true rfl⟩ [0, 1, 2, 3, 4, 5, 6, 7, 8, 9, 10, 11, 12, 13, 14, 15, 16, 17, 18, 19, 20, 21, 22, 23, 24, 25] (w' := fun u2 => [(q1, .inr (5, [.ref u1.1, .ref u1.2.2.1, .ref u1.2.2.2.2.1, .ref u1.2.2.2.2.2.2.2.2.1, .ref u1.2.2.2.2.2.2.2.2.2.2.2.1])), (u1.1, .inr (4, [.ref u1.2.1])), (u1.2.1, .inl (G.2.1, 12, .inl (fun zz => nI (q_w0 zz)))), (u1.2.2.1, .inr (3, [.ref u1.2.2.2.1, .int (nI 1), .int (nI 0)])), (u1.2.2.2.1, .inl (G.2.1, 32, .inl (fun _ => (nI 0)))), (u1.2.2.2.2.1, .inr (2, [.ref u1.2.2.2.2.2.1, .int (nI 0), .ref u1.2.2.2.2.2.2.1, .ref u1.2.2.2.2.2.2.2.1, .int (nI 0), .long 0])), (u1.2.2.2.2.2.1, .inl (G.2.2, 126, .inr (.inl (fun _ => 0)))), (u1.2.2.2.2.2.2.1, .inl (G.2.1, 38, .inl (fun zz => nI ((fun _ => 0) zz)))), (u1.2.2.2.2.2.2.2.1, .inl (G.2.1, 38, .inl (fun _ => (-1)))), (u1.2.2.2.2.2.2.2.2.1, .inr (1, [.ref u1.2.2.2.2.2.2.2.2.2.1, .ref u1.2.2.2.2.2.2.2.2.2.2.1, .int (nI 0)])), (u1.2.2.2.2.2.2.2.2.2.1, .inl (G.2.2, 38, .inr (.inl (fun _ => 0)))), (u1.2.2.2.2.2.2.2.2.2.2.1, .inl (G.2.1, 38, .inl (fun _ => (nI 0)))), (u1.2.2.2.2.2.2.2.2.2.2.2.1, .inr (0, [.ref u1.2.2.2.2.2.2.2.2.2.2.2.2, .long 0, .int (nI 0), .long 0])), (u1.2.2.2.2.2.2.2.2.2.2.2.2, .inl (G.2.1, 38, .inl (fun zz => nI ((fun _ => 0) zz)))), (q2, .inr (6, [.int (nI 0), .ref u2.1, .int (nI 1), .int (nI 1), .ref u2.2.1, .int (nI 0), .int (nI 0), .ref u2.2.2.1, .ref u2.2.2.2.1, .int (nI 0), .long 0, .ref u2.2.2.2.2.1, .ref u2.2.2.2.2.2.1, .ref u2.2.2.2.2.2.2.1, .ref u2.2.2.2.2.2.2.2.1, .ref u2.2.2.2.2.2.2.2.2.1, .ref u2.2.2.2.2.2.2.2.2.2.1, .long 0, .int (nI 0), .long 0, .int (nI 0), .ref u2.2.2.2.2.2.2.2.2.2.2])), (u2.1, .inl (G.2.1, 13, .inl (fun zz => nI ((q_w1 q_w0) zz)))), (u2.2.1, .inl (G.2.1, 32, .inl (fun _ => 0))), (u2.2.2.1, .inl (G.2.2, 126, .inr (.inl (fun _ => 0)))), (u2.2.2.2.1, .inl (G.2.1, 126, .inl (fun _ => 0))), (u2.2.2.2.2.1, .inl (G.2.1, 38, .inl (fun zz => nI ((fun _ => 0) zz)))), (u2.2.2.2.2.2.1, .inl (G.2.1, 38, .inl (fun _ => (-1)))), (u2.2.2.2.2.2.2.1, .inl (G.2.2, 38, .inr (.inl (fun _ => 0)))), (u2.2.2.2.2.2.2.2.1, .inl (G.2.1, 38, .inl (fun _ => (nI 0)))), (u2.2.2.2.2.2.2.2.2.1, .inl (G.2.2, 38, .inr (.inl (fun _ => 0)))), (u2.2.2.2.2.2.2.2.2.2.1, .inl (G.2.1, 38, .inl (fun _ => 0))), (u2.2.2.2.2.2.2.2.2.2.2, .inl (G.2.1, 38, .inl (fun zz => nI ((fun _ => 0) zz))))]) (fun _ => rfl) rfl (fun u2 H locs h => ?_)
  refine W.widen (k := 26) (n := 967) (Nat.le_of_ble_eq_true rfl) (Nat.le_of_ble_eq_true rfl) ?_
  refine lv_astore_n (lv' := [(2, .ref q2), (1, .ref q1), (0, .ref b)]) hx hb dL_law_15 rfl hl (by decide) rfl (fun ls hl => ?_)
  refine lv_iconst (v := nI 1) hx hb dL_law_16 (by decide) ?_
  refine q_newL C h aclong (n := 1) (by decide) (Nat.le_of_ble_eq_true rfl) (Nat.le_of_ble_eq_true rfl) dL_law_17 (w' := fun q3 => [(q1, .inr (5, [.ref u1.1, .ref u1.2.2.1, .ref u1.2.2.2.2.1, .ref u1.2.2.2.2.2.2.2.2.1, .ref u1.2.2.2.2.2.2.2.2.2.2.2.1])), (u1.1, .inr (4, [.ref u1.2.1])), (u1.2.1, .inl (G.2.1, 12, .inl (fun zz => nI (q_w0 zz)))), (u1.2.2.1, .inr (3, [.ref u1.2.2.2.1, .int (nI 1), .int (nI 0)])), (u1.2.2.2.1, .inl (G.2.1, 32, .inl (fun _ => (nI 0)))), (u1.2.2.2.2.1, .inr (2, [.ref u1.2.2.2.2.2.1, .int (nI 0), .ref u1.2.2.2.2.2.2.1, .ref u1.2.2.2.2.2.2.2.1, .int (nI 0), .long 0])), (u1.2.2.2.2.2.1, .inl (G.2.2, 126, .inr (.inl (fun _ => 0)))), (u1.2.2.2.2.2.2.1, .inl (G.2.1, 38, .inl (fun zz => nI ((fun _ => 0) zz)))), (u1.2.2.2.2.2.2.2.1, .inl (G.2.1, 38, .inl (fun _ => (-1)))), (u1.2.2.2.2.2.2.2.2.1, .inr (1, [.ref u1.2.2.2.2.2.2.2.2.2.1, .ref u1.2.2.2.2.2.2.2.2.2.2.1, .int (nI 0)])), (u1.2.2.2.2.2.2.2.2.2.1, .inl (G.2.2, 38, .inr (.inl (fun _ => 0)))), (u1.2.2.2.2.2.2.2.2.2.2.1, .inl (G.2.1, 38, .inl (fun _ => (nI 0)))), (u1.2.2.2.2.2.2.2.2.2.2.2.1, .inr (0, [.ref u1.2.2.2.2.2.2.2.2.2.2.2.2, .long 0, .int (nI 0), .long 0])), (u1.2.2.2.2.2.2.2.2.2.2.2.2, .inl (G.2.1, 38, .inl (fun zz => nI ((fun _ => 0) zz)))), (q2, .inr (6, [.int (nI 0), .ref u2.1, .int (nI 1), .int (nI 1), .ref u2.2.1, .int (nI 0), .int (nI 0), .ref u2.2.2.1, .ref u2.2.2.2.1, .int (nI 0), .long 0, .ref u2.2.2.2.2.1, .ref u2.2.2.2.2.2.1, .ref u2.2.2.2.2.2.2.1, .ref u2.2.2.2.2.2.2.2.1, .ref u2.2.2.2.2.2.2.2.2.1, .ref u2.2.2.2.2.2.2.2.2.2.1, .long 0, .int (nI 0), .long 0, .int (nI 0), .ref u2.2.2.2.2.2.2.2.2.2.2])), (u2.1, .inl (G.2.1, 13, .inl (fun zz => nI ((q_w1 q_w0) zz)))), (u2.2.1, .inl (G.2.1, 32, .inl (fun _ => 0))), (u2.2.2.1, .inl (G.2.2, 126, .inr (.inl (fun _ => 0)))), (u2.2.2.2.1, .inl (G.2.1, 126, .inl (fun _ => 0))), (u2.2.2.2.2.1, .inl (G.2.1, 38, .inl (fun zz => nI ((fun _ => 0) zz)))), (u2.2.2.2.2.2.1, .inl (G.2.1, 38, .inl (fun _ => (-1)))), (u2.2.2.2.2.2.2.1, .inl (G.2.2, 38, .inr (.inl (fun _ => 0)))), (u2.2.2.2.2.2.2.2.1, .inl (G.2.1, 38, .inl (fun _ => (nI 0)))), (u2.2.2.2.2.2.2.2.2.1, .inl (G.2.2, 38, .inr (.inl (fun _ => 0)))), (u2.2.2.2.2.2.2.2.2.2.1, .inl (G.2.1, 38, .inl (fun _ => 0))), (u2.2.2.2.2.2.2.2.2.2.2, .inl (G.2.1, 38, .inl (fun zz => nI ((fun _ => 0) zz)))), (q3, .inl (G.2.2, 1, .inr (.inl (fun _ => 0))))]) (fun _ => rfl) (fun q3 H h => ?_)
  refine W.widen (k := 27) (n := 968) (Nat.le_of_ble_eq_true rfl) (Nat.le_of_ble_eq_true rfl) ?_
  refine lv_astore_n (lv' := [(3, .ref q3), (2, .ref q2), (1, .ref q1), (0, .ref b)]) hx hb dL_law_19 rfl hl (by decide) rfl (fun ls hl => ?_)
  refine lv_iconst (v := nI 0) hx hb dL_law_20 (by decide) ?_
  refine lv_istore (lv' := [(4, .int (nI 0)), (3, .ref q3), (2, .ref q2), (1, .ref q1), (0, .ref b)]) hx hb dL_law_21 hl (by decide) rfl (fun ls hl => ?_)
  refine law_loop hst C hX hXs hbl hL q1 u1.1 u1.2.1 u1.2.2.1 u1.2.2.2.1 u1.2.2.2.2.1 u1.2.2.2.2.2.1 u1.2.2.2.2.2.2.1 u1.2.2.2.2.2.2.2.1 u1.2.2.2.2.2.2.2.2.1 u1.2.2.2.2.2.2.2.2.2.1 u1.2.2.2.2.2.2.2.2.2.2.1 u1.2.2.2.2.2.2.2.2.2.2.2.1 u1.2.2.2.2.2.2.2.2.2.2.2.2 q2 u2.1 u2.2.1 u2.2.2.1 u2.2.2.2.1 u2.2.2.2.2.1 u2.2.2.2.2.2.1 u2.2.2.2.2.2.2.1 u2.2.2.2.2.2.2.2.1 u2.2.2.2.2.2.2.2.2.1 u2.2.2.2.2.2.2.2.2.2.1 u2.2.2.2.2.2.2.2.2.2.2 q3 (L + 1) 0 27 968 (by omega) (Nat.zero_le L) (by omega) (by omega) H _ ?_ ls (lv_sub hl [4, 3, 2, 1, 0] rfl)
  exact ⟨q_w0, fun _ => (nI 0), 1, 0, 0, 0, 0, (fun _ => 0), (fun _ => 0), fun _ => (-1), 0, (fun _ => 0), fun _ => (nI 0), 0, 0, 0, (fun _ => 0), (fun _ => 0), 0, 0, 0, 0, 0, 0, (fun _ => 0), (fun _ => 0), (fun _ => 0), (fun _ => 0), q_w0_le, q_w0_pos, Nat.le_refl 1, by decide, Nat.zero_le 6, q_ok0, h.sub [0, 1, 2, 3, 4, 5, 6, 7, 8, 9, 10, 11, 12, 13, 14, 15, 16, 17, 18, 19, 20, 21, 22, 23, 24, 25, 26] (by decide) rfl⟩
