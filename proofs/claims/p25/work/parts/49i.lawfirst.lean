/-! a part of the law: laid by wip/p25/genlaw.py -/
set_option maxHeartbeats 4000000 in
set_option maxRecDepth 100000 in
theorem law_first {p : Program} {l : Launch} {e : Env} {s : State} {m : MethodId} {args : Array Value} {below : List Frame} {meth : Method} {c : Code} {rt : Option FieldType} {G : vq_G} {A : Nat → Prop} {Q : State → Prop} (hst : l.stackTraces = false) (C : vq_C cL_law 14 rt wsL_law RL G A p s m args meth c) (hX : vq_X A s s.heap) (o0 wh al sh av ph ae ao ab eh ar aw dh ad : Nat) (b q x y P : Nat) (tr : Bool) (hxx : x < 2 ^ 31) (hyy : y < 2 ^ 27) (hq : q < 60) (cells slots : Nat) (hc0 : cells ≤ 40000) (hs0 : slots ≤ 350000) (K : ∀ (tr' : Bool) (P' : Nat) (H : Heap) (locs : List Loc), r_LI G A s o0 wh al sh av ph ae ao ab eh ar aw dh ad tr' P' H locs → ∀ ls : Array Slot, lv_has ls 14 [(0, .ref b), (1, .ref o0), (2, .int (q_b tr')), (3, .int (nI P')), (4, .int (nI 1)), (5, .int (nI 0))] → W p l e room_1 s m args below meth c H locs (cells + 129) (slots + 774) Q (F0 m 38 ls [])) (H : Heap) (locs : List Loc) (hLI : r_LI G A s o0 wh al sh av ph ae ao ab eh ar aw dh ad true P H locs) (ls : Array Slot) (hl : lv_has ls 14 [(0, .ref b), (1, .ref o0), (2, .int (q_b true)), (3, .int (nI P))]) : W p l e room_1 s m args below meth c H locs cells slots Q (F0 m 12 ls []) := by
  obtain ⟨w, vals, S, nn, pk, ps, msk, po, pb, rk, rows, rv, gen, sz, bs, row, dr, hW, hs, hS1, hS, hP, hrs, hT, h⟩ := hLI
  have hx := C.1.1
  have hb := C.1.2.1
  have hts := C.1.2.2.2.2
  have a1 : nn = dr + P := hrs.1.2.2.1
  have a2 : dr ≤ 120 := hrs.1.2.2.2.1
  have a3 : pk = q_pop ps 38 := hrs.1.2.2.2.2.2
  have a4 : pk ≤ 38 := by rw [a3]; exact q_pop_le ps 38
  obtain ⟨k1, k2, k3, k4⟩ := r_cnt_le (show S + P ≤ 38 by omega) hrs
  have k1 : pk ≤ q_cnt rows 0 (S + P) := k1
  have k2 : q_cnt rows 0 (S + P) ≤ rk := k2
  have k3 : rk ≤ nn := k3
  have k4 : rk ≤ S + P := k4
  have hM : ∀ i, i < nn → ∀ k, 38 ≤ k → tb (msk i) k = false := hrs.1.2.2.2.2.1
  have hI : q_inv (S + P) rows rv := hrs.1.1
  have hB38 : S + P ≤ 38 := by omega
  refine lv_aload_n hx hb dL_law_12 rfl (lv_at hl 1 rfl) ?_
  refine lv_iconst (v := nI 1) hx hb dL_law_13 (by decide) ?_
  refine q_top (v' := .int (q_b true)) rfl ?_
  refine r_callK C h (c_L_holds l hst G o0 wh sh ph eh dh al av ae ao ab ar aw ad w vals S P nn pk ps msk po pb rk rows rv gen sz bs row dr true hS1 hS hP hrs hT) hX (va_cwS 2 hts gL_law_L_holds rfl rfl rfl (by decide +kernel) ⟨Nat.le_of_ble_eq_true rfl, Nat.le_of_ble_eq_true rfl⟩) [0, 1, 2, 3, 4, 5, 6, 7, 8, 9, 10, 11, 12, 13] rfl rfl [] (wr := []) rfl rfl (by decide) rfl hl.1 rfl (Nat.le_of_ble_eq_true rfl) dL_law_14 (q_room0 (by omega) (by omega)) [0, 1, 2, 3, 4, 5, 6, 7, 8, 9, 10, 11, 12, 13] (w' := fun u1 => [(o0, .inr (5, [.ref wh, .ref sh, .ref ph, .ref eh, .ref dh])), (wh, .inr (4, [.ref al])), (al, .inl (G.2.1, 12, .inl (fun zz => nI (w zz)))), (sh, .inr (3, [.ref av, .int (nI S), .int (nI P)])), (av, .inl (G.2.1, 32, .inl vals)), (ph, .inr (2, [.ref ae, .int (nI nn), .ref ao, .ref ab, .int (nI pk), .long ps])), (ae, .inl (G.2.2, 126, .inr (.inl msk))), (ao, .inl (G.2.1, 38, .inl (fun zz => nI (po zz)))), (ab, .inl (G.2.1, 38, .inl pb)), (eh, .inr (1, [.ref ar, .ref aw, .int (nI rk)])), (ar, .inl (G.2.2, 38, .inr (.inl rows))), (aw, .inl (G.2.1, 38, .inl rv)), (dh, .inr (0, [.ref ad, .long gen, .int (nI sz), .long bs])), (ad, .inl (G.2.1, 38, .inl (fun zz => nI (row zz))))]) (fun _ => rfl) rfl (fun u1 H locs h => ?_)
  refine W.widen (k := cells + 38) (n := slots + 228) (by omega) (by omega) ?_
  refine q_ifb_eq (tgt := 32) hx hb dL_law_17 (by decide) (fun z17 => absurd z17 (by decide)) (fun z17 => ?_)
  refine lv_aload_n hx hb dL_law_20 rfl (lv_at hl 1 rfl) ?_
  refine lv_iconst (v := nI 0) hx hb dL_law_21 (by decide) ?_
  refine r_callK C h (c_L_refuses l hst G o0 wh sh ph eh dh al av ae ao ab ar aw ad w vals S P nn pk ps msk po pb rk rows rv gen sz bs row (nI 0) hW hs hS1 hS hP (by omega) k4 a4) hX (va_cwS 2 hts gL_law_L_refuses rfl rfl rfl (by decide +kernel) ⟨Nat.le_of_ble_eq_true rfl, Nat.le_of_ble_eq_true rfl⟩) [0, 1, 2, 3, 4, 5, 6, 7, 8, 9, 10, 11, 12, 13] rfl rfl [] (wr := []) rfl rfl (by decide) rfl hl.1 rfl (Nat.le_of_ble_eq_true rfl) dL_law_22 (q_room0 (by omega) (by omega)) [0, 1, 2, 3, 4, 5, 6, 7, 8, 9, 10, 11, 12, 13] (w' := fun u2 => [(o0, .inr (5, [.ref wh, .ref sh, .ref ph, .ref eh, .ref dh])), (wh, .inr (4, [.ref al])), (al, .inl (G.2.1, 12, .inl (fun zz => nI (w zz)))), (sh, .inr (3, [.ref av, .int (nI S), .int (nI P)])), (av, .inl (G.2.1, 32, .inl vals)), (ph, .inr (2, [.ref ae, .int (nI nn), .ref ao, .ref ab, .int (nI pk), .long ps])), (ae, .inl (G.2.2, 126, .inr (.inl msk))), (ao, .inl (G.2.1, 38, .inl (fun zz => nI (po zz)))), (ab, .inl (G.2.1, 38, .inl pb)), (eh, .inr (1, [.ref ar, .ref aw, .int (nI rk)])), (ar, .inl (G.2.2, 38, .inr (.inl rows))), (aw, .inl (G.2.1, 38, .inl rv)), (dh, .inr (0, [.ref ad, .long u2.1, .int (nI u2.2.1), .long u2.2.2.1])), (ad, .inl (G.2.1, 38, .inl (fun zz => nI (u2.2.2.2 zz))))]) (fun _ => rfl) rfl (fun u2 H locs h => ?_)
  refine W.widen (k := cells + 129) (n := slots + 774) (by omega) (by omega) ?_
  refine q_ifb_eq (tgt := 32) hx hb dL_law_25 (by decide) (fun z25 => absurd z25 (by decide)) (fun z25 => ?_)
  refine lv_iconst (v := nI 1) hx hb dL_law_28 (by decide) ?_
  refine lv_goto (tgt := 33) hx hb dL_law_29 (by decide) ?_
  refine lv_istore (lv' := [(4, .int (nI 1)), (0, .ref b), (1, .ref o0), (2, .int (q_b true)), (3, .int (nI P))]) hx hb dL_law_33 hl (by decide) rfl (fun ls hl => ?_)
  refine lv_iconst (v := nI 0) hx hb dL_law_35 (by decide) ?_
  refine lv_istore (lv' := [(5, .int (nI 0)), (4, .int (nI 1)), (0, .ref b), (1, .ref o0), (2, .int (q_b true)), (3, .int (nI P))]) hx hb dL_law_36 hl (by decide) rfl (fun ls hl => ?_)
  refine W.widen (k := cells + 129) (n := slots + 774) (by omega) (by omega) ?_
  exact K true P _ _ ⟨w, vals, S, nn, pk, ps, msk, po, pb, rk, rows, rv, u2.1, u2.2.1, u2.2.2.1, u2.2.2.2, dr, hW, hs, hS1, hS, hP, hrs, hT, h⟩ _ (lv_sub hl [2, 3, 4, 5, 1, 0] rfl)
