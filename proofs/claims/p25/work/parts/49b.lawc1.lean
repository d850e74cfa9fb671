/-! a part of the law: laid by wip/p25/genlaw.py -/
set_option maxHeartbeats 4000000 in
set_option maxRecDepth 100000 in
theorem law_c1 {p : Program} {l : Launch} {e : Env} {s : State} {m : MethodId} {args : Array Value} {below : List Frame} {meth : Method} {c : Code} {rt : Option FieldType} {G : vq_G} {A : Nat → Prop} {Q : State → Prop} (hst : l.stackTraces = false) (C : vq_C cL_law 14 rt wsL_law RL G A p s m args meth c) (hX : vq_X A s s.heap) (o0 wh al sh av ph ae ao ab eh ar aw dh ad : Nat) (b q x y P : Nat) (tr : Bool) (hxx : x < 2 ^ 31) (hyy : y < 2 ^ 27) (hq : q < 60) (cells slots : Nat) (hc0 : cells ≤ 40000) (hs0 : slots ≤ 350000) (K : ∀ (tr' : Bool) (P' : Nat) (H : Heap) (locs : List Loc), r_LI G A s o0 wh al sh av ph ae ao ab eh ar aw dh ad tr' P' H locs → ∀ ls : Array Slot, lv_has ls 14 [(0, .ref b), (1, .ref o0), (2, .int (q_b tr')), (3, .int (nI P')), (4, .int (nI 1)), (5, .int (nI q)), (8, .int (nI y))] → W p l e room_1 s m args below meth c H locs (cells + 2) (slots + 12) Q (F0 m 766 ls [])) (H : Heap) (locs : List Loc) (hLI : r_LI G A s o0 wh al sh av ph ae ao ab eh ar aw dh ad tr P H locs) (ls : Array Slot) (hl : lv_has ls 14 [(0, .ref b), (1, .ref o0), (2, .int (q_b tr)), (3, .int (nI P)), (4, .int (nI 1)), (5, .int (nI q)), (6, .int (nI x)), (8, .int (nI y))]) : W p l e room_1 s m args below meth c H locs cells slots Q (F0 m 265 ls []) := by
  obtain ⟨w, vals, S, nn, pk, ps, msk, po, pb, rk, rows, rv, gen, sz, bs, row, dr, hW, hs, hS1, hS, hP, hrs, hT, h⟩ := hLI
  have hx := C.1.1
  have hb := C.1.2.1
  have hts := C.1.2.2.2.2
  have a1 : nn = dr + P := hrs.1.2.2.1
  have a2 : dr ≤ 120 := hrs.1.2.2.2.1
  have a3 : pk = q_pop ps 38 := hrs.1.2.2.2.2.2
  have a4 : pk ≤ 38 := by rw [a3]; exact q_pop_le ps 38
  obtain ⟨k1, k2, k3, k4⟩ := r_cnt_le (show S + P ≤ 38 by omega) hrs
  have k1 : pk ≤ q_cnt rows 0 (S + P) := k1
  have k2 : q_cnt rows 0 (S + P) ≤ rk := k2
  have k3 : rk ≤ nn := k3
  have k4 : rk ≤ S + P := k4
  have hM : ∀ i, i < nn → ∀ k, 38 ≤ k → tb (msk i) k = false := hrs.1.2.2.2.2.1
  have hI : q_inv (S + P) rows rv := hrs.1.1
  have hB38 : S + P ≤ 38 := by omega
  have k24 := C.1.2.2.2.2 (.constantLong RL 24 (-9000000000000000003)) r_k24
  have d1 : 1 ≤ (1 + (y % 12)) := by omega
  have d2 : (1 + (y % 12)) ≤ 12 := by omega
  refine lv_iconst (v := nI 1) hx hb dL_law_265 (by decide) ?_
  refine lv_iload hx hb dL_law_266 (lv_at hl 7 rfl) ?_
  refine lv_bipush (v := nI 12) hx hb dL_law_268 (by decide) ?_
  refine r_irem hx hb (by omega) (by omega) (by omega) dL_law_270 ?_
  refine q_iadd hx hb dL_law_271 ?_
  refine lv_istore (lv' := [(9, .int (nI (1 + (y % 12)))), (0, .ref b), (1, .ref o0), (2, .int (q_b tr)), (3, .int (nI P)), (4, .int (nI 1)), (5, .int (nI q)), (6, .int (nI x)), (8, .int (nI y))]) hx hb dL_law_272 hl (by decide) rfl (fun ls hl => ?_)
  by_cases hne : q_sum w 12 - w ((1 + (y % 12)) - 1) + ((y / 12) % 30) = 0
  · refine lv_aload_n hx hb dL_law_274 rfl (lv_at hl 2 rfl) ?_
    refine lv_iload hx hb dL_law_275 (lv_at hl 0 rfl) ?_
    refine lv_iload hx hb dL_law_277 (lv_at hl 8 rfl) ?_
    refine lv_bipush (v := nI 12) hx hb dL_law_279 (by decide) ?_
    refine r_idiv hx hb (by omega) (by omega) (by omega) dL_law_281 ?_
    refine lv_bipush (v := nI 30) hx hb dL_law_282 (by decide) ?_
    refine r_irem hx hb (by omega) (by omega) (by omega) dL_law_284 ?_
    refine r_callHl C h (c_L_weight_x2 l hst G o0 wh sh ph eh dh al av ae ao ab ar aw ad w vals S P nn pk ps msk po pb rk rows rv gen sz bs row (1 + (y % 12)) ((y / 12) % 30) d1 d2 (by omega) hW hne) hX (vx_cwSW 3 hts gL_law_L_weight rfl rfl rfl (by decide +kernel) ⟨Nat.le_of_ble_eq_true rfl, Nat.le_of_ble_eq_true rfl⟩) [0, 1, 2, 3, 4, 5, 6, 7, 8, 9, 10, 11, 12, 13] rfl rfl [] (wr := []) rfl rfl (by decide) rfl hl.1 rfl (Nat.le_of_ble_eq_true rfl) dL_law_285 (q_room0 (by omega) (by omega)) [0, 1, 2, 3, 4, 5, 6, 7, 8, 9, 10, 11, 12, 13] (w' := fun u1 => [(o0, .inr (5, [.ref wh, .ref sh, .ref ph, .ref eh, .ref dh])), (wh, .inr (4, [.ref al])), (al, .inl (G.2.1, 12, .inl (fun zz => nI (w zz)))), (sh, .inr (3, [.ref av, .int (nI S), .int (nI P)])), (av, .inl (G.2.1, 32, .inl vals)), (ph, .inr (2, [.ref ae, .int (nI nn), .ref ao, .ref ab, .int (nI pk), .long ps])), (ae, .inl (G.2.2, 126, .inr (.inl msk))), (ao, .inl (G.2.1, 38, .inl (fun zz => nI (po zz)))), (ab, .inl (G.2.1, 38, .inl pb)), (eh, .inr (1, [.ref ar, .ref aw, .int (nI rk)])), (ar, .inl (G.2.2, 38, .inr (.inl rows))), (aw, .inl (G.2.1, 38, .inl rv)), (dh, .inr (0, [.ref ad, .long gen, .int (nI sz), .long bs])), (ad, .inl (G.2.1, 38, .inl (fun zz => nI (row zz))))]) (fun _ => rfl) rfl (fun u1 H locs h => ?_)
    refine W.widen (k := cells + 1) (n := slots + 6) (by omega) (by omega) ?_
    refine lv_lstore (lv' := [(10, .long (-9000000000000000003)), (9, .int (nI (1 + (y % 12)))), (0, .ref b), (1, .ref o0), (2, .int (q_b tr)), (3, .int (nI P)), (4, .int (nI 1)), (5, .int (nI q)), (6, .int (nI x)), (8, .int (nI y))]) hx hb dL_law_288 hl (by decide) rfl (fun ls hl => ?_)
    refine lv_lload hx hb dL_law_290 (lv_at hl 0 rfl) ?_
    refine q_ldc2 C k24 dL_law_292 ?_
    refine q_lif_ne (tgt := 318) hx hb dL_law_295 dL_law_296 (by decide) (fun z296 => absurd z296 (by decide)) (fun z296 => ?_)
    refine lv_iload hx hb dL_law_299 (lv_at hl 9 rfl) ?_
    refine lv_bipush (v := nI 12) hx hb dL_law_301 (by decide) ?_
    refine r_idiv hx hb (by omega) (by omega) (by omega) dL_law_303 ?_
    refine lv_bipush (v := nI 30) hx hb dL_law_304 (by decide) ?_
    refine r_irem hx hb (by omega) (by omega) (by omega) dL_law_306 ?_
    refine q_if_ne (tgt := 314) hx hb (by omega) dL_law_307 (by decide) (fun z307 => absurd z307 (by omega)) (fun z307 => ?_)
    refine lv_iconst (v := nI 1) hx hb dL_law_310 (by decide) ?_
    refine lv_goto (tgt := 350) hx hb dL_law_311 (by decide) ?_
    refine lv_istore (lv' := [(4, .int (nI 1)), (10, .long (-9000000000000000003)), (9, .int (nI (1 + (y % 12)))), (0, .ref b), (1, .ref o0), (2, .int (q_b tr)), (3, .int (nI P)), (5, .int (nI q)), (6, .int (nI x)), (8, .int (nI y))]) hx hb dL_law_350 hl (by decide) rfl (fun ls hl => ?_)
    refine lv_goto (tgt := 766) hx hb dL_law_352 (by decide) ?_
    refine W.widen (k := cells + 2) (n := slots + 12) (by omega) (by omega) ?_
    exact K tr P _ _ ⟨w, vals, S, nn, pk, ps, msk, po, pb, rk, rows, rv, gen, sz, bs, row, dr, hW, hs, hS1, hS, hP, hrs, hT, h⟩ _ (lv_sub hl [3, 4, 5, 6, 0, 7, 9] rfl)
  · refine lv_aload_n hx hb dL_law_274 rfl (lv_at hl 2 rfl) ?_
    refine lv_iload hx hb dL_law_275 (lv_at hl 0 rfl) ?_
    refine lv_iload hx hb dL_law_277 (lv_at hl 8 rfl) ?_
    refine lv_bipush (v := nI 12) hx hb dL_law_279 (by decide) ?_
    refine r_idiv hx hb (by omega) (by omega) (by omega) dL_law_281 ?_
    refine lv_bipush (v := nI 30) hx hb dL_law_282 (by decide) ?_
    refine r_irem hx hb (by omega) (by omega) (by omega) dL_law_284 ?_
    refine r_callHl C h (c_L_weight l hst G o0 wh sh ph eh dh al av ae ao ab ar aw ad w vals S P nn pk ps msk po pb rk rows rv gen sz bs row (1 + (y % 12)) ((y / 12) % 30) d1 d2 (by omega) hW hne) hX (vx_cwSW 3 hts gL_law_L_weight rfl rfl rfl (by decide +kernel) ⟨Nat.le_of_ble_eq_true rfl, Nat.le_of_ble_eq_true rfl⟩) [0, 1, 2, 3, 4, 5, 6, 7, 8, 9, 10, 11, 12, 13] rfl rfl [] (wr := []) rfl rfl (by decide) rfl hl.1 rfl (Nat.le_of_ble_eq_true rfl) dL_law_285 (q_room0 (by omega) (by omega)) [0, 1, 2, 3, 4, 5, 6, 7, 8, 9, 10, 11, 12, 13] (w' := fun u2 => [(o0, .inr (5, [.ref wh, .ref sh, .ref ph, .ref eh, .ref dh])), (wh, .inr (4, [.ref al])), (al, .inl (G.2.1, 12, .inl (fun zz => nI ((va_up w ((1 + (y % 12)) - 1) ((y / 12) % 30)) zz)))), (sh, .inr (3, [.ref av, .int (nI S), .int (nI P)])), (av, .inl (G.2.1, 32, .inl vals)), (ph, .inr (2, [.ref ae, .int (nI nn), .ref ao, .ref ab, .int (nI pk), .long ps])), (ae, .inl (G.2.2, 126, .inr (.inl msk))), (ao, .inl (G.2.1, 38, .inl (fun zz => nI (po zz)))), (ab, .inl (G.2.1, 38, .inl pb)), (eh, .inr (1, [.ref ar, .ref aw, .int (nI rk)])), (ar, .inl (G.2.2, 38, .inr (.inl rows))), (aw, .inl (G.2.1, 38, .inl rv)), (dh, .inr (0, [.ref ad, .long gen, .int (nI sz), .long bs])), (ad, .inl (G.2.1, 38, .inl (fun zz => nI (row zz))))]) (fun _ => rfl) rfl (fun u2 H locs h => ?_)
    refine lv_lstore (lv' := [(10, .long ((nI (w ((1 + (y % 12)) - 1))).toInt64)), (9, .int (nI (1 + (y % 12)))), (0, .ref b), (1, .ref o0), (2, .int (q_b tr)), (3, .int (nI P)), (4, .int (nI 1)), (5, .int (nI q)), (6, .int (nI x)), (8, .int (nI y))]) hx hb dL_law_288 hl (by decide) rfl (fun ls hl => ?_)
    refine lv_lload hx hb dL_law_290 (lv_at hl 0 rfl) ?_
    refine q_ldc2 C k24 dL_law_292 ?_
    refine q_lif_ne (tgt := 318) hx hb dL_law_295 dL_law_296 (by decide) (fun z296 => ?_) (fun z296 => absurd z296 (r_np3 _))
    have hs2 : 0 < q_sum (va_up w ((1 + (y % 12)) - 1) ((y / 12) % 30)) 12 := q_sum_up12 d1 d2 hne
    have hne2 : q_sum (va_up w ((1 + (y % 12)) - 1) ((y / 12) % 30)) 12 - (va_up w ((1 + (y % 12)) - 1) ((y / 12) % 30)) ((1 + (y % 12)) - 1) + ((y / 12) % 30) ≠ 0 := by rw [r_up_at]; omega
    refine lv_aload_n hx hb dL_law_318 rfl (lv_at hl 3 rfl) ?_
    refine lv_iload hx hb dL_law_319 (lv_at hl 1 rfl) ?_
    refine lv_iload hx hb dL_law_321 (lv_at hl 9 rfl) ?_
    refine lv_bipush (v := nI 12) hx hb dL_law_323 (by decide) ?_
    refine r_idiv hx hb (by omega) (by omega) (by omega) dL_law_325 ?_
    refine lv_bipush (v := nI 30) hx hb dL_law_326 (by decide) ?_
    refine r_irem hx hb (by omega) (by omega) (by omega) dL_law_328 ?_
    refine r_callHl C h (c_L_weight l hst G o0 wh sh ph eh dh al av ae ao ab ar aw ad (va_up w ((1 + (y % 12)) - 1) ((y / 12) % 30)) vals S P nn pk ps msk po pb rk rows rv gen sz bs row (1 + (y % 12)) ((y / 12) % 30) d1 d2 (by omega) (q_up_le hW (by omega)) hne2) hX (vx_cwSW 3 hts gL_law_L_weight rfl rfl rfl (by decide +kernel) ⟨Nat.le_of_ble_eq_true rfl, Nat.le_of_ble_eq_true rfl⟩) [0, 1, 2, 3, 4, 5, 6, 7, 8, 9, 10, 11, 12, 13] rfl rfl [] (wr := []) rfl rfl (by decide) rfl hl.1 rfl (Nat.le_of_ble_eq_true rfl) dL_law_329 (q_room0 (by omega) (by omega)) [0, 1, 2, 3, 4, 5, 6, 7, 8, 9, 10, 11, 12, 13] (w' := fun u3 => [(o0, .inr (5, [.ref wh, .ref sh, .ref ph, .ref eh, .ref dh])), (wh, .inr (4, [.ref al])), (al, .inl (G.2.1, 12, .inl (fun zz => nI ((va_up (va_up w ((1 + (y % 12)) - 1) ((y / 12) % 30)) ((1 + (y % 12)) - 1) ((y / 12) % 30)) zz)))), (sh, .inr (3, [.ref av, .int (nI S), .int (nI P)])), (av, .inl (G.2.1, 32, .inl vals)), (ph, .inr (2, [.ref ae, .int (nI nn), .ref ao, .ref ab, .int (nI pk), .long ps])), (ae, .inl (G.2.2, 126, .inr (.inl msk))), (ao, .inl (G.2.1, 38, .inl (fun zz => nI (po zz)))), (ab, .inl (G.2.1, 38, .inl pb)), (eh, .inr (1, [.ref ar, .ref aw, .int (nI rk)])), (ar, .inl (G.2.2, 38, .inr (.inl rows))), (aw, .inl (G.2.1, 38, .inl rv)), (dh, .inr (0, [.ref ad, .long gen, .int (nI sz), .long bs])), (ad, .inl (G.2.1, 38, .inl (fun zz => nI (row zz))))]) (fun _ => rfl) rfl (fun u3 H locs h => ?_)
    refine lv_iload hx hb dL_law_332 (lv_at hl 9 rfl) ?_
    refine lv_bipush (v := nI 12) hx hb dL_law_334 (by decide) ?_
    refine r_idiv hx hb (by omega) (by omega) (by omega) dL_law_336 ?_
    refine lv_bipush (v := nI 30) hx hb dL_law_337 (by decide) ?_
    refine r_irem hx hb (by omega) (by omega) (by omega) dL_law_339 ?_
    refine lv_i2l (v := lN ((y / 12) % 30)) hx hb dL_law_340 (nI_l (by omega)) ?_
    refine q_lif_ne (tgt := 349) hx hb dL_law_341 dL_law_342 (by decide) (fun z342 => absurd z342 (fun g => g (by rw [r_up_at, nI_l (by omega)]))) (fun z342 => ?_)
    refine lv_iconst (v := nI 1) hx hb dL_law_345 (by decide) ?_
    refine lv_goto (tgt := 350) hx hb dL_law_346 (by decide) ?_
    refine lv_istore (lv' := [(4, .int (nI 1)), (10, .long ((nI (w ((1 + (y % 12)) - 1))).toInt64)), (9, .int (nI (1 + (y % 12)))), (0, .ref b), (1, .ref o0), (2, .int (q_b tr)), (3, .int (nI P)), (5, .int (nI q)), (6, .int (nI x)), (8, .int (nI y))]) hx hb dL_law_350 hl (by decide) rfl (fun ls hl => ?_)
    refine lv_goto (tgt := 766) hx hb dL_law_352 (by decide) ?_
    refine W.widen (k := cells + 2) (n := slots + 12) (by omega) (by omega) ?_
    exact K tr P _ _ ⟨(va_up (va_up w ((1 + (y % 12)) - 1) ((y / 12) % 30)) ((1 + (y % 12)) - 1) ((y / 12) % 30)), vals, S, nn, pk, ps, msk, po, pb, rk, rows, rv, gen, sz, bs, row, dr, (q_up_le (q_up_le hW (by omega)) (by omega)), (q_sum_up12 d1 d2 hne2), hS1, hS, hP, hrs, hT, h⟩ _ (lv_sub hl [3, 4, 5, 6, 0, 7, 9] rfl)
