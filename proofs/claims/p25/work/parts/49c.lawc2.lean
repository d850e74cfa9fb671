/-! a part of the law: laid by wip/p25/genlaw.py -/
set_option maxHeartbeats 4000000 in
set_option maxRecDepth 100000 in
theorem law_c2 {p : Program} {l : Launch} {e : Env} {s : State} {m : MethodId} {args : Array Value} {below : List Frame} {meth : Method} {c : Code} {rt : Option FieldType} {G : vq_G} {A : Nat → Prop} {Q : State → Prop} (hst : l.stackTraces = false) (C : vq_C cL_law 14 rt wsL_law RL G A p s m args meth c) (hX : vq_X A s s.heap) (o0 wh al sh av ph ae ao ab eh ar aw dh ad : Nat) (b q x y P : Nat) (tr : Bool) (hxx : x < 2 ^ 31) (hyy : y < 2 ^ 27) (hq : q < 60) (cells slots : Nat) (hc0 : cells ≤ 40000) (hs0 : slots ≤ 350000) (K : ∀ (tr' : Bool) (P' : Nat) (H : Heap) (locs : List Loc), r_LI G A s o0 wh al sh av ph ae ao ab eh ar aw dh ad tr' P' H locs → ∀ ls : Array Slot, lv_has ls 14 [(0, .ref b), (1, .ref o0), (2, .int (q_b tr')), (3, .int (nI P')), (4, .int (nI 1)), (5, .int (nI q)), (8, .int (nI y))] → W p l e room_1 s m args below meth c H locs (cells + 2) (slots + 12) Q (F0 m 766 ls [])) (H : Heap) (locs : List Loc) (hLI : r_LI G A s o0 wh al sh av ph ae ao ab eh ar aw dh ad tr P H locs) (ls : Array Slot) (hl : lv_has ls 14 [(0, .ref b), (1, .ref o0), (2, .int (q_b tr)), (3, .int (nI P)), (4, .int (nI 1)), (5, .int (nI q)), (6, .int (nI x)), (8, .int (nI y))]) : W p l e room_1 s m args below meth c H locs cells slots Q (F0 m 361 ls []) := by
  obtain ⟨w, vals, S, nn, pk, ps, msk, po, pb, rk, rows, rv, gen, sz, bs, row, dr, hW, hs, hS1, hS, hP, hrs, hT, h⟩ := hLI
  have hx := C.1.1
  have hb := C.1.2.1
  have hts := C.1.2.2.2.2
  have a1 : nn = dr + P := hrs.1.2.2.1
  have a2 : dr ≤ 120 := hrs.1.2.2.2.1
  have a3 : pk = q_pop ps 38 := hrs.1.2.2.2.2.2
  have a4 : pk ≤ 38 := by rw [a3]; exact q_pop_le ps 38
  obtain ⟨k1, k2, k3, k4⟩ := r_cnt_le (show S + P ≤ 38 by omega) hrs
  have k1 : pk ≤ q_cnt rows 0 (S + P) := k1
  have k2 : q_cnt rows 0 (S + P) ≤ rk := k2
  have k3 : rk ≤ nn := k3
  have k4 : rk ≤ S + P := k4
  have hM : ∀ i, i < nn → ∀ k, 38 ≤ k → tb (msk i) k = false := hrs.1.2.2.2.2.1
  have hI : q_inv (S + P) rows rv := hrs.1.1
  have hB38 : S + P ≤ 38 := by omega
  have k31 := C.1.2.2.2.2 (.constantLong RL 31 (-9000000000000000001)) r_k31
  have hbk : (y % (S + P)) < S + P := Nat.mod_lt y (by omega)
  refine lv_iload hx hb dL_law_361 (lv_at hl 7 rfl) ?_
  refine lv_aload_n hx hb dL_law_363 rfl (lv_at hl 1 rfl) ?_
  refine q_callVi C h (c_X5_blocks l G o0 wh sh ph eh dh al av ae ao ab ar aw ad w vals S P nn pk ps msk po pb rk rows rv gen sz bs row) (cwV 0 hts gL_law_X5_blocks rfl rfl rfl (by decide +kernel) ⟨Nat.le_of_ble_eq_true rfl, Nat.le_of_ble_eq_true rfl⟩) [0, 1, 2, 3, 4, 5, 6, 7, 8, 9, 10, 11, 12, 13] rfl rfl [] (wr := []) rfl rfl (by decide) 0 rfl rfl rfl hl.1 rfl (Nat.le_of_ble_eq_true rfl) dL_law_364 (q_room0 (by omega) (by omega)) [0, 1, 2, 3, 4, 5, 6, 7, 8, 9, 10, 11, 12, 13] (w' := [(o0, .inr (5, [.ref wh, .ref sh, .ref ph, .ref eh, .ref dh])), (wh, .inr (4, [.ref al])), (al, .inl (G.2.1, 12, .inl (fun zz => nI (w zz)))), (sh, .inr (3, [.ref av, .int (nI S), .int (nI P)])), (av, .inl (G.2.1, 32, .inl vals)), (ph, .inr (2, [.ref ae, .int (nI nn), .ref ao, .ref ab, .int (nI pk), .long ps])), (ae, .inl (G.2.2, 126, .inr (.inl msk))), (ao, .inl (G.2.1, 38, .inl (fun zz => nI (po zz)))), (ab, .inl (G.2.1, 38, .inl pb)), (eh, .inr (1, [.ref ar, .ref aw, .int (nI rk)])), (ar, .inl (G.2.2, 38, .inr (.inl rows))), (aw, .inl (G.2.1, 38, .inl rv)), (dh, .inr (0, [.ref ad, .long gen, .int (nI sz), .long bs])), (ad, .inl (G.2.1, 38, .inl (fun zz => nI (row zz))))]) rfl rfl (fun H locs h => ?_)
  refine r_irem hx hb (by omega) (by omega) (by omega) dL_law_367 ?_
  refine lv_istore (lv' := [(9, .int (nI (y % (S + P)))), (0, .ref b), (1, .ref o0), (2, .int (q_b tr)), (3, .int (nI P)), (4, .int (nI 1)), (5, .int (nI q)), (6, .int (nI x)), (8, .int (nI y))]) hx hb dL_law_368 hl (by decide) rfl (fun ls hl => ?_)
  refine lv_aload_n hx hb dL_law_370 rfl (lv_at hl 2 rfl) ?_
  refine lv_iload hx hb dL_law_371 (lv_at hl 0 rfl) ?_
  refine r_callHl C h (c_L_at l hst G o0 wh sh ph eh dh al av ae ao ab ar aw ad w vals S P nn pk ps msk po pb rk rows rv gen sz bs row (y % (S + P)) hS1 hS hP (by omega)) hX (vx_cwSW 2 hts gL_law_L_at rfl rfl rfl (by decide +kernel) ⟨Nat.le_of_ble_eq_true rfl, Nat.le_of_ble_eq_true rfl⟩) [0, 1, 2, 3, 4, 5, 6, 7, 8, 9, 10, 11, 12, 13] rfl rfl [] (wr := []) rfl rfl (by decide) rfl hl.1 rfl (Nat.le_of_ble_eq_true rfl) dL_law_373 (q_room0 (by omega) (by omega)) [0, 1, 2, 3, 4, 5, 6, 7, 8, 9, 10, 11, 12, 13] (w' := fun u1 => [(o0, .inr (5, [.ref wh, .ref sh, .ref ph, .ref eh, .ref dh])), (wh, .inr (4, [.ref al])), (al, .inl (G.2.1, 12, .inl (fun zz => nI (w zz)))), (sh, .inr (3, [.ref av, .int (nI S), .int (nI P)])), (av, .inl (G.2.1, 32, .inl vals)), (ph, .inr (2, [.ref ae, .int (nI nn), .ref ao, .ref ab, .int (nI pk), .long ps])), (ae, .inl (G.2.2, 126, .inr (.inl msk))), (ao, .inl (G.2.1, 38, .inl (fun zz => nI (po zz)))), (ab, .inl (G.2.1, 38, .inl pb)), (eh, .inr (1, [.ref ar, .ref aw, .int (nI rk)])), (ar, .inl (G.2.2, 38, .inr (.inl rows))), (aw, .inl (G.2.1, 38, .inl rv)), (dh, .inr (0, [.ref ad, .long gen, .int (nI sz), .long bs])), (ad, .inl (G.2.1, 38, .inl (fun zz => nI (row zz))))]) (fun _ => rfl) rfl (fun u1 H locs h => ?_)
  refine lv_lstore (lv' := [(10, .long ((q_vb vals S (y % (S + P))).toInt64)), (9, .int (nI (y % (S + P)))), (0, .ref b), (1, .ref o0), (2, .int (q_b tr)), (3, .int (nI P)), (4, .int (nI 1)), (5, .int (nI q)), (6, .int (nI x)), (8, .int (nI y))]) hx hb dL_law_376 hl (by decide) rfl (fun ls hl => ?_)
  by_cases hbs : (y % (S + P)) < S
  · refine lv_aload_n hx hb dL_law_378 rfl (lv_at hl 3 rfl) ?_
    refine lv_iload hx hb dL_law_379 (lv_at hl 1 rfl) ?_
    refine lv_iload hx hb dL_law_381 (lv_at hl 9 rfl) ?_
    refine r_callHl C h (c_L_set l hst G o0 wh sh ph eh dh al av ae ao ab ar aw ad w vals S P nn pk ps msk po pb rk rows rv gen sz bs row (y % (S + P)) (nI y) hS1 hS hP hbs) hX (vx_cwSW 3 hts gL_law_L_set rfl rfl rfl (by decide +kernel) ⟨Nat.le_of_ble_eq_true rfl, Nat.le_of_ble_eq_true rfl⟩) [0, 1, 2, 3, 4, 5, 6, 7, 8, 9, 10, 11, 12, 13] rfl rfl [] (wr := []) rfl rfl (by decide) rfl hl.1 rfl (Nat.le_of_ble_eq_true rfl) dL_law_383 (q_room0 (by omega) (by omega)) [0, 1, 2, 3, 4, 5, 6, 7, 8, 9, 10, 11, 12, 13] (w' := fun u2 => [(o0, .inr (5, [.ref wh, .ref sh, .ref ph, .ref eh, .ref dh])), (wh, .inr (4, [.ref al])), (al, .inl (G.2.1, 12, .inl (fun zz => nI (w zz)))), (sh, .inr (3, [.ref av, .int (nI S), .int (nI P)])), (av, .inl (G.2.1, 32, .inl (upd vals (y % (S + P)) (nI y)))), (ph, .inr (2, [.ref ae, .int (nI nn), .ref ao, .ref ab, .int (nI pk), .long ps])), (ae, .inl (G.2.2, 126, .inr (.inl msk))), (ao, .inl (G.2.1, 38, .inl (fun zz => nI (po zz)))), (ab, .inl (G.2.1, 38, .inl pb)), (eh, .inr (1, [.ref ar, .ref aw, .int (nI rk)])), (ar, .inl (G.2.2, 38, .inr (.inl rows))), (aw, .inl (G.2.1, 38, .inl rv)), (dh, .inr (0, [.ref ad, .long gen, .int (nI sz), .long bs])), (ad, .inl (G.2.1, 38, .inl (fun zz => nI (row zz))))]) (fun _ => rfl) rfl (fun u2 H locs h => ?_)
    refine lv_lstore (lv' := [(12, .long ((q_vb vals S (y % (S + P))).toInt64)), (10, .long ((q_vb vals S (y % (S + P))).toInt64)), (9, .int (nI (y % (S + P)))), (0, .ref b), (1, .ref o0), (2, .int (q_b tr)), (3, .int (nI P)), (4, .int (nI 1)), (5, .int (nI q)), (6, .int (nI x)), (8, .int (nI y))]) hx hb dL_law_386 hl (by decide) rfl (fun ls hl => ?_)
    refine lv_lload hx hb dL_law_388 (lv_at hl 0 rfl) ?_
    refine q_ldc2 C k31 dL_law_390 ?_
    refine q_lif_eq (tgt := 418) hx hb dL_law_393 dL_law_394 (by decide) (fun z394 => absurd z394 (r_np1 _)) (fun z394 => ?_)
    refine lv_lload hx hb dL_law_397 (lv_at hl 0 rfl) ?_
    refine lv_lload hx hb dL_law_399 (lv_at hl 1 rfl) ?_
    refine q_lif_ne (tgt := 422) hx hb dL_law_401 dL_law_402 (by decide) (fun z402 => absurd z402 (fun g => g rfl)) (fun z402 => ?_)
    refine lv_aload_n hx hb dL_law_405 rfl (lv_at hl 4 rfl) ?_
    refine lv_iload hx hb dL_law_406 (lv_at hl 2 rfl) ?_
    refine r_callHl C h (c_L_at l hst G o0 wh sh ph eh dh al av ae ao ab ar aw ad w (upd vals (y % (S + P)) (nI y)) S P nn pk ps msk po pb rk rows rv gen sz bs row (y % (S + P)) hS1 hS hP (by omega)) hX (vx_cwSW 2 hts gL_law_L_at rfl rfl rfl (by decide +kernel) ⟨Nat.le_of_ble_eq_true rfl, Nat.le_of_ble_eq_true rfl⟩) [0, 1, 2, 3, 4, 5, 6, 7, 8, 9, 10, 11, 12, 13] rfl rfl [] (wr := []) rfl rfl (by decide) rfl hl.1 rfl (Nat.le_of_ble_eq_true rfl) dL_law_408 (q_room0 (by omega) (by omega)) [0, 1, 2, 3, 4, 5, 6, 7, 8, 9, 10, 11, 12, 13] (w' := fun u3 => [(o0, .inr (5, [.ref wh, .ref sh, .ref ph, .ref eh, .ref dh])), (wh, .inr (4, [.ref al])), (al, .inl (G.2.1, 12, .inl (fun zz => nI (w zz)))), (sh, .inr (3, [.ref av, .int (nI S), .int (nI P)])), (av, .inl (G.2.1, 32, .inl (upd vals (y % (S + P)) (nI y)))), (ph, .inr (2, [.ref ae, .int (nI nn), .ref ao, .ref ab, .int (nI pk), .long ps])), (ae, .inl (G.2.2, 126, .inr (.inl msk))), (ao, .inl (G.2.1, 38, .inl (fun zz => nI (po zz)))), (ab, .inl (G.2.1, 38, .inl pb)), (eh, .inr (1, [.ref ar, .ref aw, .int (nI rk)])), (ar, .inl (G.2.2, 38, .inr (.inl rows))), (aw, .inl (G.2.1, 38, .inl rv)), (dh, .inr (0, [.ref ad, .long gen, .int (nI sz), .long bs])), (ad, .inl (G.2.1, 38, .inl (fun zz => nI (row zz))))]) (fun _ => rfl) rfl (fun u3 H locs h => ?_)
    refine lv_iload hx hb dL_law_411 (lv_at hl 10 rfl) ?_
    refine lv_i2l (v := lN y) hx hb dL_law_413 (nI_l (by omega)) ?_
    refine q_lif_ne (tgt := 422) hx hb dL_law_414 dL_law_415 (by decide) (fun z415 => absurd z415 (fun g => g (by rw [r_vb_upd _ hS hbs, nI_l (by omega)]))) (fun z415 => ?_)
    refine lv_iconst (v := nI 1) hx hb dL_law_418 (by decide) ?_
    refine lv_goto (tgt := 423) hx hb dL_law_419 (by decide) ?_
    refine lv_istore (lv' := [(4, .int (nI 1)), (12, .long ((q_vb vals S (y % (S + P))).toInt64)), (10, .long ((q_vb vals S (y % (S + P))).toInt64)), (9, .int (nI (y % (S + P)))), (0, .ref b), (1, .ref o0), (2, .int (q_b tr)), (3, .int (nI P)), (5, .int (nI q)), (6, .int (nI x)), (8, .int (nI y))]) hx hb dL_law_423 hl (by decide) rfl (fun ls hl => ?_)
    refine lv_iload_n hx hb dL_law_425 rfl (lv_at hl 6 rfl) ?_
    refine q_ifb_eq (tgt := 458) hx hb dL_law_426 (by decide) (fun z426 => ?_) (fun z426 => ?_)
    · refine lv_iconst (v := nI 0) hx hb dL_law_458 (by decide) ?_
      refine q_top (v' := .int (q_b false)) rfl ?_
      refine lv_istore_n (lv' := [(2, .int (q_b false)), (4, .int (nI 1)), (12, .long ((q_vb vals S (y % (S + P))).toInt64)), (10, .long ((q_vb vals S (y % (S + P))).toInt64)), (9, .int (nI (y % (S + P)))), (0, .ref b), (1, .ref o0), (3, .int (nI P)), (5, .int (nI q)), (6, .int (nI x)), (8, .int (nI y))]) hx hb dL_law_459 rfl hl (by decide) rfl (fun ls hl => ?_)
      refine lv_goto (tgt := 766) hx hb dL_law_460 (by decide) ?_
      refine W.widen (k := cells + 2) (n := slots + 12) (by omega) (by omega) ?_
      exact K false P _ _ ⟨w, (upd vals (y % (S + P)) (nI y)), S, nn, pk, ps, msk, po, pb, rk, rows, rv, gen, sz, bs, row, dr, hW, hs, hS1, hS, hP, hrs, (by first | exact hT | (intro g; cases g; done) | exact fun _ => hT z426 | exact fun _ => r_tru_same hS hbs (by omega) z444 (hT z426) | exact fun _ => r_tru_e hrs z451 _), h⟩ _ (lv_sub hl [5, 6, 0, 7, 1, 8, 10] rfl)
    · refine lv_lload hx hb dL_law_429 (lv_at hl 1 rfl) ?_
      refine q_ldc2 C k31 dL_law_431 ?_
      refine q_lif_eq (tgt := 454) hx hb dL_law_434 dL_law_435 (by decide) (fun z435 => absurd z435 (r_np1 _)) (fun z435 => ?_)
      refine lv_lload hx hb dL_law_438 (lv_at hl 2 rfl) ?_
      refine lv_iload hx hb dL_law_440 (lv_at hl 10 rfl) ?_
      refine lv_i2l (v := lN y) hx hb dL_law_442 (nI_l (by omega)) ?_
      refine q_lif_eq (tgt := 454) hx hb dL_law_443 dL_law_444 (by decide) (fun z444 => ?_) (fun z444 => ?_)
      · refine lv_iconst (v := nI 1) hx hb dL_law_454 (by decide) ?_
        refine lv_goto (tgt := 459) hx hb dL_law_455 (by decide) ?_
        refine q_top (v' := .int (q_b true)) rfl ?_
        refine lv_istore_n (lv' := [(2, .int (q_b true)), (4, .int (nI 1)), (12, .long ((q_vb vals S (y % (S + P))).toInt64)), (10, .long ((q_vb vals S (y % (S + P))).toInt64)), (9, .int (nI (y % (S + P)))), (0, .ref b), (1, .ref o0), (3, .int (nI P)), (5, .int (nI q)), (6, .int (nI x)), (8, .int (nI y))]) hx hb dL_law_459 rfl hl (by decide) rfl (fun ls hl => ?_)
        refine lv_goto (tgt := 766) hx hb dL_law_460 (by decide) ?_
        refine W.widen (k := cells + 2) (n := slots + 12) (by omega) (by omega) ?_
        exact K true P _ _ ⟨w, (upd vals (y % (S + P)) (nI y)), S, nn, pk, ps, msk, po, pb, rk, rows, rv, gen, sz, bs, row, dr, hW, hs, hS1, hS, hP, hrs, (by first | exact hT | (intro g; cases g; done) | exact fun _ => hT z426 | exact fun _ => r_tru_same hS hbs (by omega) z444 (hT z426) | exact fun _ => r_tru_e hrs z451 _), h⟩ _ (lv_sub hl [5, 6, 0, 7, 1, 8, 10] rfl)
      · refine lv_aload_n hx hb dL_law_447 rfl (lv_at hl 5 rfl) ?_
        refine q_callVi C h (c_X5_equations l G o0 wh sh ph eh dh al av ae ao ab ar aw ad w (upd vals (y % (S + P)) (nI y)) S P nn pk ps msk po pb rk rows rv gen sz bs row) (cwV 0 hts gL_law_X5_equations rfl rfl rfl (by decide +kernel) ⟨Nat.le_of_ble_eq_true rfl, Nat.le_of_ble_eq_true rfl⟩) [0, 1, 2, 3, 4, 5, 6, 7, 8, 9, 10, 11, 12, 13] rfl rfl [] (wr := []) rfl rfl (by decide) 0 rfl rfl rfl hl.1 rfl (Nat.le_of_ble_eq_true rfl) dL_law_448 (q_room0 (by omega) (by omega)) [0, 1, 2, 3, 4, 5, 6, 7, 8, 9, 10, 11, 12, 13] (w' := [(o0, .inr (5, [.ref wh, .ref sh, .ref ph, .ref eh, .ref dh])), (wh, .inr (4, [.ref al])), (al, .inl (G.2.1, 12, .inl (fun zz => nI (w zz)))), (sh, .inr (3, [.ref av, .int (nI S), .int (nI P)])), (av, .inl (G.2.1, 32, .inl (upd vals (y % (S + P)) (nI y)))), (ph, .inr (2, [.ref ae, .int (nI nn), .ref ao, .ref ab, .int (nI pk), .long ps])), (ae, .inl (G.2.2, 126, .inr (.inl msk))), (ao, .inl (G.2.1, 38, .inl (fun zz => nI (po zz)))), (ab, .inl (G.2.1, 38, .inl pb)), (eh, .inr (1, [.ref ar, .ref aw, .int (nI rk)])), (ar, .inl (G.2.2, 38, .inr (.inl rows))), (aw, .inl (G.2.1, 38, .inl rv)), (dh, .inr (0, [.ref ad, .long gen, .int (nI sz), .long bs])), (ad, .inl (G.2.1, 38, .inl (fun zz => nI (row zz))))]) rfl rfl (fun H locs h => ?_)
        refine q_if_ne (tgt := 458) hx hb (by omega) dL_law_451 (by decide) (fun z451 => ?_) (fun z451 => ?_)
        · refine lv_iconst (v := nI 0) hx hb dL_law_458 (by decide) ?_
          refine q_top (v' := .int (q_b false)) rfl ?_
          refine lv_istore_n (lv' := [(2, .int (q_b false)), (4, .int (nI 1)), (12, .long ((q_vb vals S (y % (S + P))).toInt64)), (10, .long ((q_vb vals S (y % (S + P))).toInt64)), (9, .int (nI (y % (S + P)))), (0, .ref b), (1, .ref o0), (3, .int (nI P)), (5, .int (nI q)), (6, .int (nI x)), (8, .int (nI y))]) hx hb dL_law_459 rfl hl (by decide) rfl (fun ls hl => ?_)
          refine lv_goto (tgt := 766) hx hb dL_law_460 (by decide) ?_
          refine W.widen (k := cells + 2) (n := slots + 12) (by omega) (by omega) ?_
          exact K false P _ _ ⟨w, (upd vals (y % (S + P)) (nI y)), S, nn, pk, ps, msk, po, pb, rk, rows, rv, gen, sz, bs, row, dr, hW, hs, hS1, hS, hP, hrs, (by first | exact hT | (intro g; cases g; done) | exact fun _ => hT z426 | exact fun _ => r_tru_same hS hbs (by omega) z444 (hT z426) | exact fun _ => r_tru_e hrs z451 _), h⟩ _ (lv_sub hl [5, 6, 0, 7, 1, 8, 10] rfl)
        · refine lv_iconst (v := nI 1) hx hb dL_law_454 (by decide) ?_
          refine lv_goto (tgt := 459) hx hb dL_law_455 (by decide) ?_
          refine q_top (v' := .int (q_b true)) rfl ?_
          refine lv_istore_n (lv' := [(2, .int (q_b true)), (4, .int (nI 1)), (12, .long ((q_vb vals S (y % (S + P))).toInt64)), (10, .long ((q_vb vals S (y % (S + P))).toInt64)), (9, .int (nI (y % (S + P)))), (0, .ref b), (1, .ref o0), (3, .int (nI P)), (5, .int (nI q)), (6, .int (nI x)), (8, .int (nI y))]) hx hb dL_law_459 rfl hl (by decide) rfl (fun ls hl => ?_)
          refine lv_goto (tgt := 766) hx hb dL_law_460 (by decide) ?_
          refine W.widen (k := cells + 2) (n := slots + 12) (by omega) (by omega) ?_
          exact K true P _ _ ⟨w, (upd vals (y % (S + P)) (nI y)), S, nn, pk, ps, msk, po, pb, rk, rows, rv, gen, sz, bs, row, dr, hW, hs, hS1, hS, hP, hrs, (by first | exact hT | (intro g; cases g; done) | exact fun _ => hT z426 | exact fun _ => r_tru_same hS hbs (by omega) z444 (hT z426) | exact fun _ => r_tru_e hrs z451 _), h⟩ _ (lv_sub hl [5, 6, 0, 7, 1, 8, 10] rfl)
  · refine lv_aload_n hx hb dL_law_378 rfl (lv_at hl 3 rfl) ?_
    refine lv_iload hx hb dL_law_379 (lv_at hl 1 rfl) ?_
    refine lv_iload hx hb dL_law_381 (lv_at hl 9 rfl) ?_
    refine r_callHl C h (c_L_set_x l hst G o0 wh sh ph eh dh al av ae ao ab ar aw ad w vals S P nn pk ps msk po pb rk rows rv gen sz bs row (nI (y % (S + P))) (nI y) hS1 hS hP (r_isb_ge (by omega) (by omega))) hX (vx_cwSW 3 hts gL_law_L_set rfl rfl rfl (by decide +kernel) ⟨Nat.le_of_ble_eq_true rfl, Nat.le_of_ble_eq_true rfl⟩) [0, 1, 2, 3, 4, 5, 6, 7, 8, 9, 10, 11, 12, 13] rfl rfl [] (wr := []) rfl rfl (by decide) rfl hl.1 rfl (Nat.le_of_ble_eq_true rfl) dL_law_383 (q_room0 (by omega) (by omega)) [0, 1, 2, 3, 4, 5, 6, 7, 8, 9, 10, 11, 12, 13] (w' := fun u4 => [(o0, .inr (5, [.ref wh, .ref sh, .ref ph, .ref eh, .ref dh])), (wh, .inr (4, [.ref al])), (al, .inl (G.2.1, 12, .inl (fun zz => nI (w zz)))), (sh, .inr (3, [.ref av, .int (nI S), .int (nI P)])), (av, .inl (G.2.1, 32, .inl vals)), (ph, .inr (2, [.ref ae, .int (nI nn), .ref ao, .ref ab, .int (nI pk), .long ps])), (ae, .inl (G.2.2, 126, .inr (.inl msk))), (ao, .inl (G.2.1, 38, .inl (fun zz => nI (po zz)))), (ab, .inl (G.2.1, 38, .inl pb)), (eh, .inr (1, [.ref ar, .ref aw, .int (nI rk)])), (ar, .inl (G.2.2, 38, .inr (.inl rows))), (aw, .inl (G.2.1, 38, .inl rv)), (dh, .inr (0, [.ref ad, .long gen, .int (nI sz), .long bs])), (ad, .inl (G.2.1, 38, .inl (fun zz => nI (row zz))))]) (fun _ => rfl) rfl (fun u4 H locs h => ?_)
    refine W.widen (k := cells + 1) (n := slots + 6) (by omega) (by omega) ?_
    refine lv_lstore (lv' := [(12, .long (-9000000000000000001)), (10, .long ((q_vb vals S (y % (S + P))).toInt64)), (9, .int (nI (y % (S + P)))), (0, .ref b), (1, .ref o0), (2, .int (q_b tr)), (3, .int (nI P)), (4, .int (nI 1)), (5, .int (nI q)), (6, .int (nI x)), (8, .int (nI y))]) hx hb dL_law_386 hl (by decide) rfl (fun ls hl => ?_)
    refine lv_lload hx hb dL_law_388 (lv_at hl 0 rfl) ?_
    refine q_ldc2 C k31 dL_law_390 ?_
    refine q_lif_eq (tgt := 418) hx hb dL_law_393 dL_law_394 (by decide) (fun z394 => ?_) (fun z394 => absurd z394 (by decide))
    refine lv_iconst (v := nI 1) hx hb dL_law_418 (by decide) ?_
    refine lv_goto (tgt := 423) hx hb dL_law_419 (by decide) ?_
    refine lv_istore (lv' := [(4, .int (nI 1)), (12, .long (-9000000000000000001)), (10, .long ((q_vb vals S (y % (S + P))).toInt64)), (9, .int (nI (y % (S + P)))), (0, .ref b), (1, .ref o0), (2, .int (q_b tr)), (3, .int (nI P)), (5, .int (nI q)), (6, .int (nI x)), (8, .int (nI y))]) hx hb dL_law_423 hl (by decide) rfl (fun ls hl => ?_)
    refine lv_iload_n hx hb dL_law_425 rfl (lv_at hl 6 rfl) ?_
    refine q_ifb_eq (tgt := 458) hx hb dL_law_426 (by decide) (fun z426 => ?_) (fun z426 => ?_)
    · refine lv_iconst (v := nI 0) hx hb dL_law_458 (by decide) ?_
      refine q_top (v' := .int (q_b false)) rfl ?_
      refine lv_istore_n (lv' := [(2, .int (q_b false)), (4, .int (nI 1)), (12, .long (-9000000000000000001)), (10, .long ((q_vb vals S (y % (S + P))).toInt64)), (9, .int (nI (y % (S + P)))), (0, .ref b), (1, .ref o0), (3, .int (nI P)), (5, .int (nI q)), (6, .int (nI x)), (8, .int (nI y))]) hx hb dL_law_459 rfl hl (by decide) rfl (fun ls hl => ?_)
      refine lv_goto (tgt := 766) hx hb dL_law_460 (by decide) ?_
      refine W.widen (k := cells + 2) (n := slots + 12) (by omega) (by omega) ?_
      exact K false P _ _ ⟨w, vals, S, nn, pk, ps, msk, po, pb, rk, rows, rv, gen, sz, bs, row, dr, hW, hs, hS1, hS, hP, hrs, (by first | exact hT | (intro g; cases g; done) | exact fun _ => hT z426 | exact fun _ => r_tru_same hS hbs (by omega) z444 (hT z426) | exact fun _ => r_tru_e hrs z451 _), h⟩ _ (lv_sub hl [5, 6, 0, 7, 1, 8, 10] rfl)
    · refine lv_lload hx hb dL_law_429 (lv_at hl 1 rfl) ?_
      refine q_ldc2 C k31 dL_law_431 ?_
      refine q_lif_eq (tgt := 454) hx hb dL_law_434 dL_law_435 (by decide) (fun z435 => ?_) (fun z435 => absurd z435 (by decide))
      refine lv_iconst (v := nI 1) hx hb dL_law_454 (by decide) ?_
      refine lv_goto (tgt := 459) hx hb dL_law_455 (by decide) ?_
      refine q_top (v' := .int (q_b true)) rfl ?_
      refine lv_istore_n (lv' := [(2, .int (q_b true)), (4, .int (nI 1)), (12, .long (-9000000000000000001)), (10, .long ((q_vb vals S (y % (S + P))).toInt64)), (9, .int (nI (y % (S + P)))), (0, .ref b), (1, .ref o0), (3, .int (nI P)), (5, .int (nI q)), (6, .int (nI x)), (8, .int (nI y))]) hx hb dL_law_459 rfl hl (by decide) rfl (fun ls hl => ?_)
      refine lv_goto (tgt := 766) hx hb dL_law_460 (by decide) ?_
      refine W.widen (k := cells + 2) (n := slots + 12) (by omega) (by omega) ?_
      exact K true P _ _ ⟨w, vals, S, nn, pk, ps, msk, po, pb, rk, rows, rv, gen, sz, bs, row, dr, hW, hs, hS1, hS, hP, hrs, (by first | exact hT | (intro g; cases g; done) | exact fun _ => hT z426 | exact fun _ => r_tru_same hS hbs (by omega) z444 (hT z426) | exact fun _ => r_tru_e hrs z451 _), h⟩ _ (lv_sub hl [5, 6, 0, 7, 1, 8, 10] rfl)
