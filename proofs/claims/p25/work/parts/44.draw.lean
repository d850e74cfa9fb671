/-! draw: an int that is not negative, out of the script or made up -/
theorem r_and31 (x : Int32) : ∃ k, k < 2 ^ 31 ∧ x &&& 2147483647 = nI k := by
  have e : (x &&& 2147483647).toBitVec = x.toBitVec &&& (2147483647 : Int32).toBitVec := Int32.toBitVec_and x 2147483647
  refine ⟨(x &&& 2147483647).toBitVec.toNat, ?_, ?_⟩
  · rw [e, BitVec.toNat_and]
    have : (2147483647 : Int32).toBitVec.toNat = 2147483647 := by decide
    rw [this]
    exact Nat.lt_of_le_of_lt Nat.and_le_right (by decide)
  · apply Int32.toBitVec_inj.mp
    show _ = BitVec.ofNat 32 _
    rw [BitVec.ofNat_toNat, BitVec.setWidth_eq]
def r_sc (b L : Nat) (xs : Nat → Int32) (sz : Nat) (U : State) : Prop := b < sz ∧ va_X b L xs U U.heap
abbrev r_dr (l : Launch) (G : vq_G) (b L k : Nat) (xs : Nat → Int32) : Prop := ∀ sz : Nat, Met l yL_draw wsL_draw ({ frames := 0, cells := 0, slots := 0, locals := 0 } : Room) (va_Pc [.ref b, .int (nI k)] (fun U => vq_U G [] sz U ∧ r_sc b L xs sz U)) (va_Qi (fun x (_ : Unit) => ∃ j, j < 2 ^ 31 ∧ x = nI j) (fun _ => vq_T G (va_A [] sz) []) (va_A [] sz)) 0 0 (va_A [] sz)
set_option maxHeartbeats 2000000 in
set_option maxRecDepth 100000 in
theorem c_L_draw (l : Launch) (G : vq_G) (b L k : Nat) (xs : Nat → Int32) (hL : L ≤ 260) (hk : k < 60) : r_dr l G b L k xs := by
  intro sz
  refine Met.ofW (cc := cL_draw) (maxL := 2) (ret := (some .int)) (ws' := wsL_draw.tail) (by decide) rfl ?_
  intro p e s m args below meth c s₁ B hml hv
  obtain ⟨rfl, ⟨hsz, hP, hK, hD0, hN⟩, hbl, hXs⟩ := hv
  subst hsz
  have hts := atoms_spec (ws := wsL_draw) B.pre
  have C : vq_C cL_draw 2 (some .int) wsL_draw RL G (va_A [] s.heap.size) p s m ([.ref b, .int (nI k)] : List Value).toArray meth c := ⟨⟨B.exec, B.bytes, hml, findClass_of_methodNamed B.named, hts⟩, hK, hN, fun q h => Or.inr h, B.notSynchronized, B.returns⟩
  have h : vq_H G (va_A [] s.heap.size) s [] s.heap [] := ⟨hP, hD0.self, va_S.rf⟩
  rw [lg_entry_eq]
  have hl := lv_entry ([.ref b, .int (nI k)]) (n := 2) (Nat.le_of_ble_eq_true rfl)
  generalize (lg_sl ([.ref b, .int (nI k)]) ++ List.replicate (2 - (lg_sl ([.ref b, .int (nI k)])).length) Slot.unset).toArray = ls at hl ⊢
  have hl : lv_has ls 2 [(0, .ref b), (1, .int (nI k))] := hl
  have hx := C.1.1
  have hb := C.1.2.1
  have hbA : ¬ va_A [] s.heap.size b := by
    rintro (⟨j, q, hq⟩ | hq)
    · simp at hq
    · exact absurd hbl (Nat.not_lt.mpr hq)
  have k7 := C.1.2.2.2.2 (.constant RL 7 (15595561)) (by decide +kernel)
  have k8 := C.1.2.2.2.2 (.constant RL 8 (2147483647)) (by decide +kernel)
  have last : ∀ x : Int32, W p l e ({ frames := 0, cells := 0, slots := 0, locals := 0 } : Room) s m ([.ref b, .int (nI k)] : List Value).toArray below meth c s.heap [] 0 0 (MQ below (va_Qi (fun x (_ : Unit) => ∃ j, j < 2 ^ 31 ∧ x = nI j) (fun _ => vq_T G (va_A [] s.heap.size) []) (va_A [] s.heap.size)) ([.ref b, .int (nI k)] : List Value).toArray s 0 0 (va_A [] s.heap.size)) (F0 m 20 ls [.int x]) := by
    intro x
    refine lv_ldc hx hb C.1.2.2.2.1 k8 dL_draw_20 ?_
    refine lv_iand hx hb dL_draw_22 ?_
    have hlk := C.2.2.2.2.1
    exact W.iret hx hb (C.2.2.2.2.2.trans rfl) (fun t ht hW => ⟨⟨x &&& 2147483647, (), rfl, r_and31 x, by rw [ht]; exact h.1, h.2.1⟩, h.2.2.F ht⟩) h.2.2.2.2 dL_draw_23 hlk
  refine lv_iload_n hx hb dL_draw_0 rfl (lv_at hl 1 rfl) ?_
  refine lv_aload_n hx hb dL_draw_1 rfl (lv_at hl 0 rfl) ?_
  refine va_slen hx hb hXs hbl hbA h.2.2 dL_draw_2 ?_
  refine q_icmp_ge (a := k) (b := L) (tgt := 12) hx hb (by omega) (by omega) dL_draw_3 (by decide) (fun z => ?_) (fun z => ?_)
  · refine lv_ldc hx hb C.1.2.2.2.1 k7 dL_draw_12 ?_
    refine lv_iload_n hx hb dL_draw_14 rfl (lv_at hl 1 rfl) ?_
    refine lv_imul hx hb dL_draw_15 ?_
    refine lv_sipush (v := nI 11503) hx hb dL_draw_16 (by decide) ?_
    refine lv_iadd hx hb dL_draw_19 ?_
    exact last _
  · refine lv_aload_n hx hb dL_draw_6 rfl (lv_at hl 0 rfl) ?_
    refine lv_iload_n hx hb dL_draw_7 rfl (lv_at hl 1 rfl) ?_
    refine va_sld hx hb hXs hbl hbA h.2.2 (vp_in_nI z (by omega)) dL_draw_8 ?_
    refine lv_goto (tgt := 20) hx hb dL_draw_9 (by decide) ?_
    exact last _
theorem q_rng {α : Type} (ws : List α) : (List.range ws.length).map (fun i => ws[i]?) = ws.map some := by
  apply List.ext_getElem?
  intro i
  rw [List.getElem?_map, List.getElem?_map]
  by_cases c : i < ws.length
  · rw [List.getElem?_range c, List.getElem?_eq_getElem c]
    simp [List.getElem?_eq_getElem c]
  · rw [List.getElem?_eq_none (by rw [List.length_range]; omega), List.getElem?_eq_none (by omega)]
    rfl
theorem q_nd_of : ∀ l : List Nat, l.Nodup → va_nd l = true
  | [], _ => rfl
  | a :: l, h => by
    obtain ⟨h1, h2⟩ := List.nodup_cons.mp h
    unfold va_nd
    rw [decide_eq_true h1, q_nd_of l h2]
    rfl
theorem q_rngn (n : Nat) : va_nd (List.range n) = true := q_nd_of _ List.nodup_range
section VRD
variable {p : Program} {l : Launch} {e : Env} {R : Room} {s : State} {m : MethodId} {args : Array Value} {below : List Frame} {meth : Method} {c : Code} {H : Heap} {locs : List Loc} {cells slots : Nat} {Q : State → Prop}
variable {cc : ByteArray} {pc : Nat} {ls : Array Slot} {rest : List Value}
variable {nL : Nat} {ret : Option FieldType} {Ts : List Cond} {own : String} {G : vq_G} {A : Nat → Prop} {ws : va_W}
theorem r_fbD {G : vq_G} {as : List Value} {sz b L : Nat} {xs : Nat → Int32} : FrameBlind (va_Pc as (fun U => vq_U G [] sz U ∧ r_sc b L xs sz U)) := by
  intro a U g mk q
  obtain ⟨q0, ⟨q1, qP, qK, qD, qN⟩, qb, qX⟩ := q
  exact ⟨q0, ⟨q1, qP, va_K.moved (u := U) (U := U.calling g mk a) (Vm.Alike.refl U.vm) qK, qD, vq_N.same rfl qN⟩, qb, va_X.moved (u := U) (U := U.calling g mk a) (Vm.Alike.refl U.vm) qX⟩
theorem r_callD (C : vq_C cc nL ret Ts own G A p s m args meth c) (h : vq_H G A s ws H locs) {b L k : Nat} {xs : Nat → Int32} (hM : r_dr l G b L k xs) (hXs : va_X b L xs s s.heap) (hbl : b < s.heap.size) (hbA : ¬ A b) {index n : Nat} {bytes : ByteArray} {maxL : Nat} {rt : Option FieldType} (cw : CallB R s args own index yL_draw bytes maxL rt wsL_draw { frames := 0, cells := 0, slots := 0, locals := 0 } 0 0 n ∧ (Cond.static yL_draw).before args s = true) (hnn : 2 = n) (hl : ls.size = nL) {st : List Value} (hst : st = .int (nI k) :: .ref b :: rest) (hW : (rest.map fun v => v.category).sum ≤ 8) (hd : decode cc pc = .ok (.invokestatic index, 3)) (hcs : cells ≤ R.cells ∧ slots ≤ R.slots)
    (kk : ∀ (j : Nat) (H : Heap) (locs : List Loc), j < 2 ^ 31 → vq_H G A s ws H locs → W p l e R s m args below meth c H locs cells slots Q (F0 m (pc + 3) ls (.int (nI j) :: rest))) : W p l e R s m args below meth c H locs cells slots Q (F0 m pc ls (st)) := by
  subst hst
  have hF : ∀ q, va_A [] H.size q → A q := va_free h.2.1 h.2.2 C.2.2.2.1 [] rfl
  have hbH : b < H.size := Nat.lt_of_lt_of_le hbl h.2.2.1
  refine va_calli (va_runS C.1 (hM H.size) cw ⟨r_fbD, fun U hU hW => ⟨rfl, ⟨by rw [hU], fun k q hq => by simp at hq, va_K.moved hW.alike C.2.1, ⟨fun i j p q hq => by simp at hq, fun k q hq => by simp at hq⟩, C.2.2.1.warm hW⟩, hbH, va_X.moved hW.alike (by rw [hU]; exact va_X.kept hXs (h.2.2.2.1 b hbl hbA))⟩⟩ rfl hnn hl rfl (lv_room hW) hd hcs) h.2.2 (fun q _ hq => hF q hq) hF (fun x u t H1 locs1 ht hvm hw hB hz1 hk1 hS => ?_)
  obtain ⟨j, hj, rfl⟩ := hw
  exact kk j H1 locs1 hj (q_after (wc := []) (wr := ws) (w1 := []) h [] (List.range ws.length) (List.range ws.length) rfl (q_rng ws) (q_rngn _) (fun i _ h => nomatch h) (by rw [List.append_nil]; exact q_rng ws) (q_rngn _) hF hk1 (by rw [← ht]; exact hB.1) hB.2 hS)
end VRD
