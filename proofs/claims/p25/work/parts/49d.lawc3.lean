/-! a part of the law: laid by wip/p25/genlaw.py -/
set_option maxHeartbeats 4000000 in
set_option maxRecDepth 100000 in
theorem law_c3 {p : Program} {l : Launch} {e : Env} {s : State} {m : MethodId} {args : Array Value} {below : List Frame} {meth : Method} {c : Code} {rt : Option FieldType} {G : vq_G} {A : Nat → Prop} {Q : State → Prop} (hst : l.stackTraces = false) (C : vq_C cL_law 14 rt wsL_law RL G A p s m args meth c) (hX : vq_X A s s.heap) (o0 wh al sh av ph ae ao ab eh ar aw dh ad : Nat) (b q x y P : Nat) (tr : Bool) (hxx : x < 2 ^ 31) (hyy : y < 2 ^ 27) (hq : q < 60) (cells slots : Nat) (hc0 : cells ≤ 40000) (hs0 : slots ≤ 350000) (K : ∀ (tr' : Bool) (P' : Nat) (H : Heap) (locs : List Loc), r_LI G A s o0 wh al sh av ph ae ao ab eh ar aw dh ad tr' P' H locs → ∀ ls : Array Slot, lv_has ls 14 [(0, .ref b), (1, .ref o0), (2, .int (q_b tr')), (3, .int (nI P')), (4, .int (nI 1)), (5, .int (nI q)), (8, .int (nI y))] → W p l e room_1 s m args below meth c H locs (cells + 2) (slots + 12) Q (F0 m 766 ls [])) (H : Heap) (locs : List Loc) (hLI : r_LI G A s o0 wh al sh av ph ae ao ab eh ar aw dh ad tr P H locs) (ls : Array Slot) (hl : lv_has ls 14 [(0, .ref b), (1, .ref o0), (2, .int (q_b tr)), (3, .int (nI P)), (4, .int (nI 1)), (5, .int (nI q)), (6, .int (nI x)), (8, .int (nI y))]) : W p l e room_1 s m args below meth c H locs cells slots Q (F0 m 470 ls []) := by
  obtain ⟨w, vals, S, nn, pk, ps, msk, po, pb, rk, rows, rv, gen, sz, bs, row, dr, hW, hs, hS1, hS, hP, hrs, hT, h⟩ := hLI
  have hx := C.1.1
  have hb := C.1.2.1
  have hts := C.1.2.2.2.2
  have a1 : nn = dr + P := hrs.1.2.2.1
  have a2 : dr ≤ 120 := hrs.1.2.2.2.1
  have a3 : pk = q_pop ps 38 := hrs.1.2.2.2.2.2
  have a4 : pk ≤ 38 := by rw [a3]; exact q_pop_le ps 38
  obtain ⟨k1, k2, k3, k4⟩ := r_cnt_le (show S + P ≤ 38 by omega) hrs
  have k1 : pk ≤ q_cnt rows 0 (S + P) := k1
  have k2 : q_cnt rows 0 (S + P) ≤ rk := k2
  have k3 : rk ≤ nn := k3
  have k4 : rk ≤ S + P := k4
  have hM : ∀ i, i < nn → ∀ k, 38 ≤ k → tb (msk i) k = false := hrs.1.2.2.2.2.1
  have hI : q_inv (S + P) rows rv := hrs.1.1
  have hB38 : S + P ≤ 38 := by omega
  refine lv_aload_n hx hb dL_law_470 rfl (lv_at hl 1 rfl) ?_
  refine lv_iload hx hb dL_law_471 (lv_at hl 7 rfl) ?_
  refine r_callK C h (c_L_drops l hst G o0 wh sh ph eh dh al av ae ao ab ar aw ad w vals S P nn pk ps msk po pb rk rows rv gen sz bs row (nI y) hW hs hS1 hS hP) hX (va_cwS 2 hts gL_law_L_drops rfl rfl rfl (by decide +kernel) ⟨Nat.le_of_ble_eq_true rfl, Nat.le_of_ble_eq_true rfl⟩) [0, 1, 2, 3, 4, 5, 6, 7, 8, 9, 10, 11, 12, 13] rfl rfl [] (wr := []) rfl rfl (by decide) rfl hl.1 rfl (Nat.le_of_ble_eq_true rfl) dL_law_473 (q_room0 (by omega) (by omega)) [0, 1, 2, 3, 4, 5, 6, 7, 8, 9, 10, 11, 12, 13] (w' := fun u1 => [(o0, .inr (5, [.ref wh, .ref sh, .ref ph, .ref eh, .ref dh])), (wh, .inr (4, [.ref al])), (al, .inl (G.2.1, 12, .inl (fun zz => nI (w zz)))), (sh, .inr (3, [.ref av, .int (nI S), .int (nI P)])), (av, .inl (G.2.1, 32, .inl vals)), (ph, .inr (2, [.ref ae, .int (nI nn), .ref ao, .ref ab, .int (nI pk), .long ps])), (ae, .inl (G.2.2, 126, .inr (.inl msk))), (ao, .inl (G.2.1, 38, .inl (fun zz => nI (po zz)))), (ab, .inl (G.2.1, 38, .inl pb)), (eh, .inr (1, [.ref ar, .ref aw, .int (nI rk)])), (ar, .inl (G.2.2, 38, .inr (.inl rows))), (aw, .inl (G.2.1, 38, .inl rv)), (dh, .inr (0, [.ref ad, .long u1.1, .int (nI u1.2.1), .long u1.2.2.1])), (ad, .inl (G.2.1, 38, .inl (fun zz => nI (u1.2.2.2 zz))))]) (fun _ => rfl) rfl (fun u1 H locs h => ?_)
  refine q_ifb_eq (tgt := 494) hx hb dL_law_476 (by decide) (fun z476 => absurd z476 (by decide)) (fun z476 => ?_)
  rcases Bool.eq_false_or_eq_true (q_can nn P rows rv (q_set w (S + P) (nI y)) (q_vs vals S (q_set w (S + P) (nI y)) P)) with hcan | hcan
  · refine lv_aload_n hx hb dL_law_479 rfl (lv_at hl 1 rfl) ?_
    refine lv_iload hx hb dL_law_480 (lv_at hl 7 rfl) ?_
    refine lv_iload_n hx hb dL_law_482 rfl (lv_at hl 2 rfl) ?_
    refine lv_iload_n hx hb dL_law_483 rfl (lv_at hl 3 rfl) ?_
    refine r_callK C h (c_L_takes_t l hst G o0 wh sh ph eh dh al av ae ao ab ar aw ad w vals S P nn pk ps msk po pb rk rows rv u1.1 u1.2.1 u1.2.2.1 u1.2.2.2 dr (nI y) tr hW hs hS1 hS hP hrs hcan) hX (va_cwS 4 hts gL_law_L_takes rfl rfl rfl (by decide +kernel) ⟨Nat.le_of_ble_eq_true rfl, Nat.le_of_ble_eq_true rfl⟩) [0, 1, 2, 3, 4, 5, 6, 7, 8, 9, 10, 11, 12, 13] rfl rfl [] (wr := []) rfl rfl (by decide) rfl hl.1 rfl (Nat.le_of_ble_eq_true rfl) dL_law_484 (q_room0 (by omega) (by omega)) [0, 1, 2, 3, 4, 5, 6, 7, 8, 9, 10, 11, 12, 13] (w' := fun u2 => [(o0, .inr (5, [.ref wh, .ref sh, .ref ph, .ref eh, .ref dh])), (wh, .inr (4, [.ref al])), (al, .inl (G.2.1, 12, .inl (fun zz => nI (w zz)))), (sh, .inr (3, [.ref av, .int (nI S), .int (nI P)])), (av, .inl (G.2.1, 32, .inl vals)), (ph, .inr (2, [.ref ae, .int (nI (nn + 1)), .ref ao, .ref ab, .int (nI ((q_pn (vp_updL msk nn (q_set w (S + P) (nI y))) (nn + 1) 38 (po, pb, pk, ps)).2.2.1)), .long ((q_pn (vp_updL msk nn (q_set w (S + P) (nI y))) (nn + 1) 38 (po, pb, pk, ps)).2.2.2)])), (ae, .inl (G.2.2, 126, .inr (.inl (vp_updL msk nn (q_set w (S + P) (nI y)))))), (ao, .inl (G.2.1, 38, .inl (fun zz => nI ((q_pn (vp_updL msk nn (q_set w (S + P) (nI y))) (nn + 1) 38 (po, pb, pk, ps)).1 zz)))), (ab, .inl (G.2.1, 38, .inl ((q_pn (vp_updL msk nn (q_set w (S + P) (nI y))) (nn + 1) 38 (po, pb, pk, ps)).2.1))), (eh, .inr (1, [.ref ar, .ref aw, .int (nI (q_addK (q_rem rows (q_set w (S + P) (nI y)) 38) rk))])), (ar, .inl (G.2.2, 38, .inr (.inl (q_addR rows (q_rem rows (q_set w (S + P) (nI y)) 38))))), (aw, .inl (G.2.1, 38, .inl (q_addV rows rv (q_rem rows (q_set w (S + P) (nI y)) 38) ((q_vs vals S (q_set w (S + P) (nI y)) P) ^^^ (q_kv rv (q_set w (S + P) (nI y)) 38))))), (dh, .inr (0, [.ref ad, .long u2.1, .int (nI u2.2.1), .long u2.2.2.1])), (ad, .inl (G.2.1, 38, .inl (fun zz => nI (u2.2.2.2 zz))))]) (fun _ => rfl) rfl (fun u2 H locs h => ?_)
    refine q_ifb_eq (tgt := 494) hx hb dL_law_487 (by decide) (fun z487 => absurd z487 (by decide)) (fun z487 => ?_)
    refine lv_iconst (v := nI 1) hx hb dL_law_490 (by decide) ?_
    refine lv_goto (tgt := 495) hx hb dL_law_491 (by decide) ?_
    refine lv_istore (lv' := [(4, .int (nI 1)), (0, .ref b), (1, .ref o0), (2, .int (q_b tr)), (3, .int (nI P)), (5, .int (nI q)), (6, .int (nI x)), (8, .int (nI y))]) hx hb dL_law_495 hl (by decide) rfl (fun ls hl => ?_)
    refine lv_goto (tgt := 766) hx hb dL_law_497 (by decide) ?_
    refine W.widen (k := cells + 2) (n := slots + 12) (by omega) (by omega) ?_
    exact K tr P _ _ ⟨w, vals, S, nn + 1, (q_pn (vp_updL msk nn (q_set w (S + P) (nI y))) (nn + 1) 38 (po, pb, pk, ps)).2.2.1, (q_pn (vp_updL msk nn (q_set w (S + P) (nI y))) (nn + 1) 38 (po, pb, pk, ps)).2.2.2, (vp_updL msk nn (q_set w (S + P) (nI y))), (q_pn (vp_updL msk nn (q_set w (S + P) (nI y))) (nn + 1) 38 (po, pb, pk, ps)).1, (q_pn (vp_updL msk nn (q_set w (S + P) (nI y))) (nn + 1) 38 (po, pb, pk, ps)).2.1, q_addK (q_rem rows (q_set w (S + P) (nI y)) 38) rk, (q_addR rows (q_rem rows (q_set w (S + P) (nI y)) 38)), (q_addV rows rv (q_rem rows (q_set w (S + P) (nI y)) 38) ((q_vs vals S (q_set w (S + P) (nI y)) P) ^^^ (q_kv rv (q_set w (S + P) (nI y)) 38))), u2.1, u2.2.1, u2.2.2.1, u2.2.2.2, dr + 1, hW, hs, hS1, hS, hP, (r_tk_st hS hP hrs (r_can_dr hrs hcan) (q_set_B w (S + P) (nI y)) _).1, (fun g => r_tk_tru hS hP hrs (hT g) (q_set_B w (S + P) (nI y))), h⟩ _ (lv_sub hl [1, 2, 3, 4, 0, 5, 7] rfl)
  · refine lv_aload_n hx hb dL_law_479 rfl (lv_at hl 1 rfl) ?_
    refine lv_iload hx hb dL_law_480 (lv_at hl 7 rfl) ?_
    refine lv_iload_n hx hb dL_law_482 rfl (lv_at hl 2 rfl) ?_
    refine lv_iload_n hx hb dL_law_483 rfl (lv_at hl 3 rfl) ?_
    refine r_callK C h (c_L_takes_f l hst G o0 wh sh ph eh dh al av ae ao ab ar aw ad w vals S P nn pk ps msk po pb rk rows rv u1.1 u1.2.1 u1.2.2.1 u1.2.2.2 dr (nI y) tr hW hs hS1 hS hP hrs hT hcan) hX (va_cwS 4 hts gL_law_L_takes rfl rfl rfl (by decide +kernel) ⟨Nat.le_of_ble_eq_true rfl, Nat.le_of_ble_eq_true rfl⟩) [0, 1, 2, 3, 4, 5, 6, 7, 8, 9, 10, 11, 12, 13] rfl rfl [] (wr := []) rfl rfl (by decide) rfl hl.1 rfl (Nat.le_of_ble_eq_true rfl) dL_law_484 (q_room0 (by omega) (by omega)) [0, 1, 2, 3, 4, 5, 6, 7, 8, 9, 10, 11, 12, 13] (w' := fun u3 => [(o0, .inr (5, [.ref wh, .ref sh, .ref ph, .ref eh, .ref dh])), (wh, .inr (4, [.ref al])), (al, .inl (G.2.1, 12, .inl (fun zz => nI (w zz)))), (sh, .inr (3, [.ref av, .int (nI S), .int (nI P)])), (av, .inl (G.2.1, 32, .inl vals)), (ph, .inr (2, [.ref ae, .int (nI nn), .ref ao, .ref ab, .int (nI pk), .long ps])), (ae, .inl (G.2.2, 126, .inr (.inl msk))), (ao, .inl (G.2.1, 38, .inl (fun zz => nI (po zz)))), (ab, .inl (G.2.1, 38, .inl pb)), (eh, .inr (1, [.ref ar, .ref aw, .int (nI rk)])), (ar, .inl (G.2.2, 38, .inr (.inl rows))), (aw, .inl (G.2.1, 38, .inl rv)), (dh, .inr (0, [.ref ad, .long u3.1, .int (nI u3.2.1), .long u3.2.2.1])), (ad, .inl (G.2.1, 38, .inl (fun zz => nI (u3.2.2.2 zz))))]) (fun _ => rfl) rfl (fun u3 H locs h => ?_)
    refine W.widen (k := cells + 1) (n := slots + 6) (by omega) (by omega) ?_
    refine q_ifb_eq (tgt := 494) hx hb dL_law_487 (by decide) (fun z487 => absurd z487 (by decide)) (fun z487 => ?_)
    refine lv_iconst (v := nI 1) hx hb dL_law_490 (by decide) ?_
    refine lv_goto (tgt := 495) hx hb dL_law_491 (by decide) ?_
    refine lv_istore (lv' := [(4, .int (nI 1)), (0, .ref b), (1, .ref o0), (2, .int (q_b tr)), (3, .int (nI P)), (5, .int (nI q)), (6, .int (nI x)), (8, .int (nI y))]) hx hb dL_law_495 hl (by decide) rfl (fun ls hl => ?_)
    refine lv_goto (tgt := 766) hx hb dL_law_497 (by decide) ?_
    refine W.widen (k := cells + 2) (n := slots + 12) (by omega) (by omega) ?_
    exact K tr P _ _ ⟨w, vals, S, nn, pk, ps, msk, po, pb, rk, rows, rv, u3.1, u3.2.1, u3.2.2.1, u3.2.2.2, dr, hW, hs, hS1, hS, hP, hrs, hT, h⟩ _ (lv_sub hl [1, 2, 3, 4, 0, 5, 7] rfl)
