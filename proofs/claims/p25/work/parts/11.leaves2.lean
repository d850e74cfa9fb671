/-! further leaves of the landed class: laid by wip/whole/gen2.py -/
set_option maxHeartbeats 4000000 in
set_option maxRecDepth 100000 in
theorem c_J13_bitCount_95d88 (l : Launch) (G : vq_G) (x : Int64) : vq_i l yJ13_bitCount_95d88 wsJ13_bitCount_95d88 0 0 G [.long x] [] (q_bc x) [] := by
  refine vq_openi (cc := cJ13_bitCount_95d88) (maxL := 2) (ret := (some .int)) (Ts' := wsJ13_bitCount_95d88.tail) (by decide) rfl (Nat.le_of_ble_eq_true rfl) ?_
  intro p e s m args below meth c A ls C h hnm hl
  have hx := C.1.1
  have hb := C.1.2.1
  have hts := C.1.2.2.2.2
  have hl : lv_has ls 2 [(0, .long x)] := hl
  have k314 := C.1.2.2.2.2 (.constantLong RJ13 314 (6148914691236517205)) (by decide +kernel)
  have k316 := C.1.2.2.2.2 (.constantLong RJ13 316 (3689348814741910323)) (by decide +kernel)
  have k318 := C.1.2.2.2.2 (.constantLong RJ13 318 (1085102592571150095)) (by decide +kernel)
  refine lv_lload_n hx hb dJ13_bitCount_95d88_0 rfl (lv_at hl 0 rfl) ?_
  refine lv_lload_n hx hb dJ13_bitCount_95d88_1 rfl (lv_at hl 0 rfl) ?_
  refine lv_iconst (v := nI 1) hx hb dJ13_bitCount_95d88_2 (by decide) ?_
  refine lv_lushr (v := q_u x 1) hx hb dJ13_bitCount_95d88_3 rfl ?_
  refine q_ldc2 C k314 dJ13_bitCount_95d88_4 ?_
  refine lv_land hx hb dJ13_bitCount_95d88_7 ?_
  refine lv_lsub hx hb dJ13_bitCount_95d88_8 ?_
  refine q_top (v' := .long (q_bc1 x)) rfl ?_
  refine lv_lstore_n (lv' := [(0, .long (q_bc1 x))]) hx hb dJ13_bitCount_95d88_9 rfl hl (by decide) rfl (fun ls hl => ?_)
  refine lv_lload_n hx hb dJ13_bitCount_95d88_10 rfl (lv_at hl 0 rfl) ?_
  refine q_ldc2 C k316 dJ13_bitCount_95d88_11 ?_
  refine lv_land hx hb dJ13_bitCount_95d88_14 ?_
  refine lv_lload_n hx hb dJ13_bitCount_95d88_15 rfl (lv_at hl 0 rfl) ?_
  refine lv_iconst (v := nI 2) hx hb dJ13_bitCount_95d88_16 (by decide) ?_
  refine lv_lushr (v := q_u (q_bc1 x) 2) hx hb dJ13_bitCount_95d88_17 rfl ?_
  refine q_ldc2 C k316 dJ13_bitCount_95d88_18 ?_
  refine lv_land hx hb dJ13_bitCount_95d88_21 ?_
  refine lv_ladd hx hb dJ13_bitCount_95d88_22 ?_
  refine q_top (v' := .long (q_bc2 (q_bc1 x))) rfl ?_
  refine lv_lstore_n (lv' := [(0, .long (q_bc2 (q_bc1 x)))]) hx hb dJ13_bitCount_95d88_23 rfl hl (by decide) rfl (fun ls hl => ?_)
  refine lv_lload_n hx hb dJ13_bitCount_95d88_24 rfl (lv_at hl 0 rfl) ?_
  refine lv_lload_n hx hb dJ13_bitCount_95d88_25 rfl (lv_at hl 0 rfl) ?_
  refine lv_iconst (v := nI 4) hx hb dJ13_bitCount_95d88_26 (by decide) ?_
  refine lv_lushr (v := q_u (q_bc2 (q_bc1 x)) 4) hx hb dJ13_bitCount_95d88_27 rfl ?_
  refine lv_ladd hx hb dJ13_bitCount_95d88_28 ?_
  refine q_ldc2 C k318 dJ13_bitCount_95d88_29 ?_
  refine lv_land hx hb dJ13_bitCount_95d88_32 ?_
  refine q_top (v' := .long (q_bc3 (q_bc2 (q_bc1 x)))) rfl ?_
  refine lv_lstore_n (lv' := [(0, .long (q_bc3 (q_bc2 (q_bc1 x))))]) hx hb dJ13_bitCount_95d88_33 rfl hl (by decide) rfl (fun ls hl => ?_)
  refine lv_lload_n hx hb dJ13_bitCount_95d88_34 rfl (lv_at hl 0 rfl) ?_
  refine lv_lload_n hx hb dJ13_bitCount_95d88_35 rfl (lv_at hl 0 rfl) ?_
  refine lv_bipush (v := nI 8) hx hb dJ13_bitCount_95d88_36 (by decide) ?_
  refine lv_lushr (v := q_u (q_bc3 (q_bc2 (q_bc1 x))) 8) hx hb dJ13_bitCount_95d88_38 rfl ?_
  refine lv_ladd hx hb dJ13_bitCount_95d88_39 ?_
  refine q_top (v' := .long (q_bc4 (q_bc3 (q_bc2 (q_bc1 x))))) rfl ?_
  refine lv_lstore_n (lv' := [(0, .long (q_bc4 (q_bc3 (q_bc2 (q_bc1 x)))))]) hx hb dJ13_bitCount_95d88_40 rfl hl (by decide) rfl (fun ls hl => ?_)
  refine lv_lload_n hx hb dJ13_bitCount_95d88_41 rfl (lv_at hl 0 rfl) ?_
  refine lv_lload_n hx hb dJ13_bitCount_95d88_42 rfl (lv_at hl 0 rfl) ?_
  refine lv_bipush (v := nI 16) hx hb dJ13_bitCount_95d88_43 (by decide) ?_
  refine lv_lushr (v := q_u (q_bc4 (q_bc3 (q_bc2 (q_bc1 x)))) 16) hx hb dJ13_bitCount_95d88_45 rfl ?_
  refine lv_ladd hx hb dJ13_bitCount_95d88_46 ?_
  refine q_top (v' := .long (q_bc5 (q_bc4 (q_bc3 (q_bc2 (q_bc1 x)))))) rfl ?_
  refine lv_lstore_n (lv' := [(0, .long (q_bc5 (q_bc4 (q_bc3 (q_bc2 (q_bc1 x))))))]) hx hb dJ13_bitCount_95d88_47 rfl hl (by decide) rfl (fun ls hl => ?_)
  refine lv_lload_n hx hb dJ13_bitCount_95d88_48 rfl (lv_at hl 0 rfl) ?_
  refine lv_lload_n hx hb dJ13_bitCount_95d88_49 rfl (lv_at hl 0 rfl) ?_
  refine lv_bipush (v := nI 32) hx hb dJ13_bitCount_95d88_50 (by decide) ?_
  refine lv_lushr (v := q_u (q_bc5 (q_bc4 (q_bc3 (q_bc2 (q_bc1 x))))) 32) hx hb dJ13_bitCount_95d88_52 rfl ?_
  refine lv_ladd hx hb dJ13_bitCount_95d88_53 ?_
  refine q_top (v' := .long (q_bc6 (q_bc5 (q_bc4 (q_bc3 (q_bc2 (q_bc1 x))))))) rfl ?_
  refine lv_lstore_n (lv' := [(0, .long (q_bc6 (q_bc5 (q_bc4 (q_bc3 (q_bc2 (q_bc1 x)))))))]) hx hb dJ13_bitCount_95d88_54 rfl hl (by decide) rfl (fun ls hl => ?_)
  refine lv_lload_n hx hb dJ13_bitCount_95d88_55 rfl (lv_at hl 0 rfl) ?_
  refine lv_l2i (v := (q_bc6 (q_bc5 (q_bc4 (q_bc3 (q_bc2 (q_bc1 x)))))).toInt32) hx hb dJ13_bitCount_95d88_56 rfl ?_
  refine lv_bipush (v := nI 127) hx hb dJ13_bitCount_95d88_57 (by decide) ?_
  refine lv_iand hx hb dJ13_bitCount_95d88_59 ?_
  refine q_top (v' := .int (q_bc x)) rfl ?_
  exact q_reti C h rfl rfl rfl dJ13_bitCount_95d88_60

set_option maxHeartbeats 4000000 in
set_option maxRecDepth 100000 in
theorem c_X5_lowestOf (l : Launch) (G : vq_G) (x : Int64) : vq_i l yX5_lowestOf wsX5_lowestOf 1 21 G [.long x] [] (nI (q_low x)) [] := by
  refine vq_openi (cc := cX5_lowestOf) (maxL := 2) (ret := (some .int)) (Ts' := wsX5_lowestOf.tail) (by decide) rfl (Nat.le_of_ble_eq_true rfl) ?_
  intro p e s m args below meth c A ls C h hnm hl
  have hx := C.1.1
  have hb := C.1.2.1
  have hts := C.1.2.2.2.2
  have hl : lv_has ls 2 [(0, .long x)] := hl
  refine lv_lload_n hx hb dX5_lowestOf_0 rfl (lv_at hl 0 rfl) ?_
  refine lv_lload_n hx hb dX5_lowestOf_1 rfl (lv_at hl 0 rfl) ?_
  refine lv_lneg hx hb dX5_lowestOf_2 ?_
  refine lv_land hx hb dX5_lowestOf_3 ?_
  refine lv_lconst (v := 1) hx hb dX5_lowestOf_4 (by decide) ?_
  refine lv_lsub hx hb dX5_lowestOf_5 ?_
  refine q_callSi C h (c_J13_bitCount_95d88 l G ((x &&& (-x)) - 1)) (va_cwS 1 hts gX5_lowestOf_J13_bitCount_95d88 rfl rfl rfl (by decide +kernel) ⟨Nat.le_of_ble_eq_true rfl, Nat.le_of_ble_eq_true rfl⟩) [] rfl rfl [] (wr := []) rfl rfl (by decide) rfl hl.1 rfl (Nat.le_of_ble_eq_true rfl) dX5_lowestOf_6 ⟨Nat.zero_le _, Nat.zero_le _⟩ [] (w' := []) rfl rfl (fun H locs h => ?_)
  refine q_top (v' := .int (nI (q_low x))) (congrArg Value.int (q_bc_low x)) ?_
  exact q_reti C h rfl rfl rfl dX5_lowestOf_9

set_option maxHeartbeats 4000000 in
set_option maxRecDepth 100000 in
theorem c_X0_draw (l : Launch) (G : vq_G) (o0 ad : Nat) (gen : Int64) (sz : Nat) (bs : Int64) (row : Nat → Nat) (wh al : Nat) (w : Nat → Nat) (num : Int32) (B : Nat) (hW : ∀ j, w j ≤ 1000) (hs : 0 < q_sum w 12) (hB0 : 1 ≤ B) (hB : B ≤ 38) : vq_v l yX0_draw wsX0_draw 1 23 G [.ref o0, .int num, .ref wh, .int (nI B)] [(o0, .inr (0, [.ref ad, .long gen, .int (nI sz), .long bs])), (ad, .inl (G.2.1, 38, .inl (fun zz => nI (row zz)))), (wh, .inr (4, [.ref al])), (al, .inl (G.2.1, 12, .inl (fun zz => nI (w zz))))]  [(o0, .inr (0, [.ref ad, .long (q_gen w B num), .int (nI (q_sz w B num)), .long (q_set w B num)])), (ad, .inl (G.2.1, 38, .inl (fun zz => nI ((q_rowS row w B num) zz)))), (wh, .inr (4, [.ref al])), (al, .inl (G.2.1, 12, .inl (fun zz => nI (w zz))))] := by
  refine vq_openv (cc := cX0_draw) (maxL := 5) (ret := none) (Ts' := wsX0_draw.tail) (by decide) rfl (Nat.le_of_ble_eq_true rfl) ?_
  intro p e s m args below meth c A ls C h hnm hl
  have hx := C.1.1
  have hb := C.1.2.1
  have hts := C.1.2.2.2.2
  have hl : lv_has ls 5 [(0, .ref o0), (1, .int num), (2, .ref wh), (3, .int (nI B))] := hl
  have f15 := C.1.2.2.2.2 (.fieldLink RX0 15 "FountainCode$Drop" "generator" "J") (by decide +kernel)
  have iX0 : ∀ w ∈ u_ws RX0 TX0 4, w ∈ wsX0_draw := by decide +kernel
  have mn1 := C.1.2.2.2.2 (.methodLink RX0 32 Lib.Math.min.name) (by decide +kernel)
  have mn2 := C.1.2.2.2.2 (.static Lib.Math.min.name) (by decide +kernel)
  have mn3 := C.1.2.2.2.2 (.initialized "java/lang/Math") (by decide +kernel)
  have mn4 := C.1.2.2.2.2 (.code Lib.Math.min.name Lib.Math.min.code 2 (some .int)) (by decide +kernel)
  have f38 := C.1.2.2.2.2 (.fieldLink RX0 38 "FountainCode$Drop" "size" "I") (by decide +kernel)
  have f46 := C.1.2.2.2.2 (.fieldLink RX0 46 "FountainCode$Drop" "blockSet" "J") (by decide +kernel)
  have f9 := C.1.2.2.2.2 (.fieldLink RX0 9 "FountainCode$Drop" "row" "[I") (by decide +kernel)
  have iniX5 := C.1.2.2.2.2 (.initialized RX5) (by decide +kernel)
  have stX5_setOf := C.1.2.2.2.2 (.static yX5_setOf) (by decide +kernel)
  have hz := q_sz_le w B num
  refine lv_aload_n hx hb dX0_draw_0 rfl (lv_at hl 0 rfl) ?_
  refine lv_iload_n hx hb dX0_draw_1 rfl (lv_at hl 1 rfl) ?_
  refine lv_i2l (v := num.toInt64) hx hb dX0_draw_2 rfl ?_
  refine q_put (Cn := RX0) (T := TX0) (N := 4) (ci := 0) (v := .long num.toInt64) (w' := [(o0, .inr (0, [.ref ad, .long num.toInt64, .int (nI sz), .long bs])), (ad, .inl (G.2.1, 38, .inl (fun zz => nI (row zz)))), (wh, .inr (4, [.ref al])), (al, .inl (G.2.1, 12, .inl (fun zz => nI (w zz))))]) C h iX0 tyX0 tyX0_ok nmX0 0 rfl rfl 1 (by decide) f15 rfl rfl rfl (Nat.le_of_ble_eq_true rfl) dX0_draw_3 rfl (fun H locs h => ?_)
  refine lv_aload_n hx hb dX0_draw_6 rfl (lv_at hl 0 rfl) ?_
  refine lv_aload_n hx hb dX0_draw_7 rfl (lv_at hl 2 rfl) ?_
  refine lv_aload_n hx hb dX0_draw_8 rfl (lv_at hl 0 rfl) ?_
  refine lv_aload_n hx hb dX0_draw_9 rfl (lv_at hl 2 rfl) ?_
  refine q_callVi C h (c_X4_sum l G wh al w) (cwV 0 hts gX0_draw_X4_sum rfl rfl rfl (by decide +kernel) ⟨Nat.le_of_ble_eq_true rfl, Nat.le_of_ble_eq_true rfl⟩) [2, 3] rfl rfl [0, 1] (wr := [(o0, .inr (0, [.ref ad, .long num.toInt64, .int (nI sz), .long bs])), (ad, .inl (G.2.1, 38, .inl (fun zz => nI (row zz))))]) rfl rfl (by decide) 2 rfl rfl rfl hl.1 rfl (Nat.le_of_ble_eq_true rfl) dX0_draw_10 ⟨Nat.zero_le _, Nat.zero_le _⟩ [0, 1, 2, 3] (w' := [(o0, .inr (0, [.ref ad, .long num.toInt64, .int (nI sz), .long bs])), (ad, .inl (G.2.1, 38, .inl (fun zz => nI (row zz)))), (wh, .inr (4, [.ref al])), (al, .inl (G.2.1, 12, .inl (fun zz => nI (w zz))))]) rfl rfl (fun H locs h => ?_)
  refine q_top (v' := .int (nI (q_sum w 12))) rfl ?_
  refine q_callVi C h (c_X0_numberBelow l G o0 ad num.toInt64 sz bs row (q_sum w 12) hs (by have := q_sum_le hW 12; omega)) (cwV 1 hts gX0_draw_X0_numberBelow rfl rfl rfl (by decide +kernel) ⟨Nat.le_of_ble_eq_true rfl, Nat.le_of_ble_eq_true rfl⟩) [0, 1] rfl rfl [2, 3] (wr := [(wh, .inr (4, [.ref al])), (al, .inl (G.2.1, 12, .inl (fun zz => nI (w zz))))]) rfl rfl (by decide) 0 rfl rfl rfl hl.1 rfl (Nat.le_of_ble_eq_true rfl) dX0_draw_13 ⟨Nat.zero_le _, Nat.zero_le _⟩ [2, 3, 0, 1] (w' := [(o0, .inr (0, [.ref ad, .long (q_step num.toInt64), .int (nI sz), .long bs])), (ad, .inl (G.2.1, 38, .inl (fun zz => nI (row zz)))), (wh, .inr (4, [.ref al])), (al, .inl (G.2.1, 12, .inl (fun zz => nI (w zz))))]) rfl rfl (fun H locs h => ?_)
  refine q_top (v' := .int (nI (q_hi (q_g0 num) % q_sum w 12))) rfl ?_
  refine q_callVi C h (c_X4_degreeFor l G wh al w (q_hi (q_g0 num) % q_sum w 12) hW (Nat.mod_lt _ hs)) (cwV 1 hts gX0_draw_X4_degreeFor rfl rfl rfl (by decide +kernel) ⟨Nat.le_of_ble_eq_true rfl, Nat.le_of_ble_eq_true rfl⟩) [2, 3] rfl rfl [0, 1] (wr := [(o0, .inr (0, [.ref ad, .long (q_step num.toInt64), .int (nI sz), .long bs])), (ad, .inl (G.2.1, 38, .inl (fun zz => nI (row zz))))]) rfl rfl (by decide) 2 rfl rfl rfl hl.1 rfl (Nat.le_of_ble_eq_true rfl) dX0_draw_16 ⟨Nat.zero_le _, Nat.zero_le _⟩ [0, 1, 2, 3] (w' := [(o0, .inr (0, [.ref ad, .long (q_step num.toInt64), .int (nI sz), .long bs])), (ad, .inl (G.2.1, 38, .inl (fun zz => nI (row zz)))), (wh, .inr (4, [.ref al])), (al, .inl (G.2.1, 12, .inl (fun zz => nI (w zz))))]) rfl rfl (fun H locs h => ?_)
  refine lv_iload_n hx hb dX0_draw_19 rfl (lv_at hl 3 rfl) ?_
  refine q_min C h mn1 mn2 mn3 mn4 (a := q_deg w (q_hi (q_g0 num) % q_sum w 12)) (b := B) (by have := q_deg_le12 hW hs (q_hi (q_g0 num)); omega) (by omega) hl.1 (Nat.le_of_ble_eq_true rfl) (Nat.le_of_ble_eq_true rfl) ⟨Nat.zero_le _, Nat.zero_le _⟩ dX0_draw_20 ?_
  refine q_top (v' := .int (nI (q_sz w B num))) rfl ?_
  refine q_put (Cn := RX0) (T := TX0) (N := 4) (ci := 0) (v := .int (nI (q_sz w B num))) (w' := [(o0, .inr (0, [.ref ad, .long (q_step num.toInt64), .int (nI (q_sz w B num)), .long bs])), (ad, .inl (G.2.1, 38, .inl (fun zz => nI (row zz)))), (wh, .inr (4, [.ref al])), (al, .inl (G.2.1, 12, .inl (fun zz => nI (w zz))))]) C h iX0 tyX0 tyX0_ok nmX0 0 rfl rfl 2 (by decide) f38 rfl rfl rfl (Nat.le_of_ble_eq_true rfl) dX0_draw_23 rfl (fun H locs h => ?_)
  refine lv_aload_n hx hb dX0_draw_26 rfl (lv_at hl 0 rfl) ?_
  refine lv_iload_n hx hb dX0_draw_27 rfl (lv_at hl 3 rfl) ?_
  refine q_callVv C h (c_X0_lineUp l G o0 ad (q_step num.toInt64) (q_sz w B num) bs row B (by omega)) (cwV 1 hts gX0_draw_X0_lineUp rfl rfl rfl (by decide +kernel) ⟨Nat.le_of_ble_eq_true rfl, Nat.le_of_ble_eq_true rfl⟩) [0, 1] rfl rfl [2, 3] (wr := [(wh, .inr (4, [.ref al])), (al, .inl (G.2.1, 12, .inl (fun zz => nI (w zz))))]) rfl rfl (by decide) 0 rfl rfl rfl hl.1 rfl (Nat.le_of_ble_eq_true rfl) dX0_draw_28 ⟨Nat.zero_le _, Nat.zero_le _⟩ [2, 3, 0, 1] (w' := [(o0, .inr (0, [.ref ad, .long (q_step num.toInt64), .int (nI (q_sz w B num)), .long bs])), (ad, .inl (G.2.1, 38, .inl (fun zz => nI ((q_line row B) zz)))), (wh, .inr (4, [.ref al])), (al, .inl (G.2.1, 12, .inl (fun zz => nI (w zz))))]) rfl rfl (fun H locs h => ?_)
  refine lv_aload_n hx hb dX0_draw_31 rfl (lv_at hl 0 rfl) ?_
  refine lv_lconst (v := 0) hx hb dX0_draw_32 (by decide) ?_
  refine q_put (Cn := RX0) (T := TX0) (N := 4) (ci := 0) (v := .long 0) (w' := [(o0, .inr (0, [.ref ad, .long (q_step num.toInt64), .int (nI (q_sz w B num)), .long 0])), (ad, .inl (G.2.1, 38, .inl (fun zz => nI ((q_line row B) zz)))), (wh, .inr (4, [.ref al])), (al, .inl (G.2.1, 12, .inl (fun zz => nI (w zz))))]) C h iX0 tyX0 tyX0_ok nmX0 0 rfl rfl 3 (by decide) f46 rfl rfl rfl (Nat.le_of_ble_eq_true rfl) dX0_draw_33 rfl (fun H locs h => ?_)
  refine lv_iconst (v := nI 0) hx hb dX0_draw_36 (by decide) ?_
  refine lv_istore (lv' := [(4, .int (nI 0)), (0, .ref o0), (1, .int num), (2, .ref wh), (3, .int (nI B))]) hx hb dX0_draw_37 hl (by decide) rfl (fun ls hl => ?_)
  have loop39 : ∀ (fu : Nat) (k : Nat) (ro : Nat → Nat) (ge : Int64) (bt : Int64), q_sz w B num - k < fu → ro = (q_dr B (q_line row B) (q_g0 num) k).1 → ge = (q_dr B (q_line row B) (q_g0 num) k).2 → bt = q_ds B (q_line row B) (q_g0 num) k → (k ≤ q_sz w B num) → (∀ j, j < B → ro j < B) → ∀ (H : Heap) (locs : List Loc), vq_H G A s [(o0, .inr (0, [.ref ad, .long ge, .int (nI (q_sz w B num)), .long bt])), (ad, .inl (G.2.1, 38, .inl (fun zz => nI (ro zz)))), (wh, .inr (4, [.ref al])), (al, .inl (G.2.1, 12, .inl (fun zz => nI (w zz))))] H locs → ∀ (ls : Array Slot), lv_has ls 5 [(4, .int (nI k)), (0, .ref o0), (1, .int num), (2, .ref wh), (3, .int (nI B))] → W p l e ({ frames := 1, cells := 0, slots := 0, locals := 23 } : Room) s m args below meth c H locs 0 0 (MQ below (va_Qv (fun (_ : Unit) => True) (fun _ => vq_T G A [(o0, .inr (0, [.ref ad, .long (q_gen w B num), .int (nI (q_sz w B num)), .long (q_set w B num)])), (ad, .inl (G.2.1, 38, .inl (fun zz => nI ((q_rowS row w B num) zz)))), (wh, .inr (4, [.ref al])), (al, .inl (G.2.1, 12, .inl (fun zz => nI (w zz))))]) A) args s 0 0 A) (F0 m 39 ls []) := by
    intro fu
    induction fu with
    | zero => exact fun k ro ge bt hm => absurd hm (Nat.not_lt_zero _)
    | succ fu ih =>
      intro k ro ge bt hm39 e_ro e_ge e_bt hk hro H locs h ls hl
      have ih39 := ih
      clear ih
      refine lv_iload hx hb dX0_draw_39 (lv_at hl 0 rfl) ?_
      refine lv_aload_n hx hb dX0_draw_41 rfl (lv_at hl 1 rfl) ?_
      refine q_get (Cn := RX0) (T := TX0) (N := 4) (ci := 0) (v := .int (nI (q_sz w B num))) C h iX0 0 rfl rfl 2 (by decide) f38 rfl dX0_draw_42 ?_
      refine q_icmp_ge (tgt := 100) hx hb (by omega) (by omega) dX0_draw_45 (by decide) (fun z45 => ?_) (fun z45 => ?_)
      · exact q_retv C h rfl (by rw [e_ro, e_ge, e_bt, show k = q_sz w B num from by omega, q_gen_S, q_set_S]; rfl) dX0_draw_100
      · have hq : q_hi (q_step ge) % (B - k) < B - k := Nat.mod_lt _ (by omega)
        refine lv_iload hx hb dX0_draw_48 (lv_at hl 0 rfl) ?_
        refine lv_aload_n hx hb dX0_draw_50 rfl (lv_at hl 1 rfl) ?_
        refine q_get (Cn := RX0) (T := TX0) (N := 4) (ci := 0) (v := .ref ad) C h iX0 0 rfl rfl 0 (by decide) f9 rfl dX0_draw_51 ?_
        refine q_alen (n := 38) C h 1 rfl dX0_draw_54 ?_
        refine q_icmp_ge (tgt := 100) hx hb (by omega) (by omega) dX0_draw_55 (by decide) (fun z55 => absurd z55 (by omega)) (fun z55 => ?_)
        refine lv_aload_n hx hb dX0_draw_58 rfl (lv_at hl 1 rfl) ?_
        refine lv_iload hx hb dX0_draw_59 (lv_at hl 0 rfl) ?_
        refine lv_iload hx hb dX0_draw_61 (lv_at hl 0 rfl) ?_
        refine lv_aload_n hx hb dX0_draw_63 rfl (lv_at hl 1 rfl) ?_
        refine lv_iload_n hx hb dX0_draw_64 rfl (lv_at hl 4 rfl) ?_
        refine lv_iload hx hb dX0_draw_65 (lv_at hl 0 rfl) ?_
        refine q_isub hx hb (by omega) dX0_draw_67 ?_
        refine q_callVi C h (c_X0_numberBelow l G o0 ad ge (q_sz w B num) bt ro (B - k) (by omega) (by omega)) (cwV 1 hts gX0_draw_X0_numberBelow rfl rfl rfl (by decide +kernel) ⟨Nat.le_of_ble_eq_true rfl, Nat.le_of_ble_eq_true rfl⟩) [0, 1] rfl rfl [2, 3] (wr := [(wh, .inr (4, [.ref al])), (al, .inl (G.2.1, 12, .inl (fun zz => nI (w zz))))]) rfl rfl (by decide) 0 rfl rfl rfl hl.1 rfl (Nat.le_of_ble_eq_true rfl) dX0_draw_68 ⟨Nat.zero_le _, Nat.zero_le _⟩ [2, 3, 0, 1] (w' := [(o0, .inr (0, [.ref ad, .long (q_step ge), .int (nI (q_sz w B num)), .long bt])), (ad, .inl (G.2.1, 38, .inl (fun zz => nI (ro zz)))), (wh, .inr (4, [.ref al])), (al, .inl (G.2.1, 12, .inl (fun zz => nI (w zz))))]) rfl rfl (fun H locs h => ?_)
        refine q_iadd hx hb dX0_draw_71 ?_
        refine q_callVv C h (c_X0_swap l G o0 ad (q_step ge) (q_sz w B num) bt ro k (k + (q_hi (q_step ge) % (B - k))) (by omega) (by omega)) (cwV 2 hts gX0_draw_X0_swap rfl rfl rfl (by decide +kernel) ⟨Nat.le_of_ble_eq_true rfl, Nat.le_of_ble_eq_true rfl⟩) [0, 1] rfl rfl [2, 3] (wr := [(wh, .inr (4, [.ref al])), (al, .inl (G.2.1, 12, .inl (fun zz => nI (w zz))))]) rfl rfl (by decide) 0 rfl rfl rfl hl.1 rfl (Nat.le_of_ble_eq_true rfl) dX0_draw_72 ⟨Nat.zero_le _, Nat.zero_le _⟩ [2, 3, 0, 1] (w' := [(o0, .inr (0, [.ref ad, .long (q_step ge), .int (nI (q_sz w B num)), .long bt])), (ad, .inl (G.2.1, 38, .inl (fun zz => nI ((va_up (va_up ro k (ro (k + (q_hi (q_step ge) % (B - k))))) (k + (q_hi (q_step ge) % (B - k))) (ro k)) zz)))), (wh, .inr (4, [.ref al])), (al, .inl (G.2.1, 12, .inl (fun zz => nI (w zz))))]) rfl rfl (fun H locs h => ?_)
        refine lv_aload_n hx hb dX0_draw_75 rfl (lv_at hl 1 rfl) ?_
        refine lv_dup hx hb dX0_draw_76 rfl ?_
        refine q_get (Cn := RX0) (T := TX0) (N := 4) (ci := 0) (v := .long bt) C h iX0 0 rfl rfl 3 (by decide) f46 rfl dX0_draw_77 ?_
        refine lv_aload_n hx hb dX0_draw_80 rfl (lv_at hl 1 rfl) ?_
        refine q_get (Cn := RX0) (T := TX0) (N := 4) (ci := 0) (v := .ref ad) C h iX0 0 rfl rfl 0 (by decide) f9 rfl dX0_draw_81 ?_
        refine lv_iload hx hb dX0_draw_84 (lv_at hl 0 rfl) ?_
        refine q_iald (i := k) (v := (nI ((va_up (va_up ro k (ro (k + (q_hi (q_step ge) % (B - k))))) (k + (q_hi (q_step ge) % (B - k))) (ro k)) k))) C h 1 rfl (by omega) (by omega) rfl dX0_draw_86 ?_
        refine q_callNl C h (c_X5_setOf l G ((va_up (va_up ro k (ro (k + (q_hi (q_step ge) % (B - k))))) (k + (q_hi (q_step ge) % (B - k))) (ro k)) k) (Nat.lt_of_lt_of_le (q_swap_lt hro (by omega) (by omega) k (by omega)) (by omega))) ⟨va_cnB 1 hts gX0_draw_X5_setOf_n53 rfl rfl rfl (C.2.2.1.at 10 rfl) iniX5 (by decide +kernel) ⟨Nat.le_of_ble_eq_true rfl, Nat.le_of_ble_eq_true rfl⟩, stX5_setOf, trivial⟩ [] rfl rfl [0, 1, 2, 3] (wr := [(o0, .inr (0, [.ref ad, .long (q_step ge), .int (nI (q_sz w B num)), .long bt])), (ad, .inl (G.2.1, 38, .inl (fun zz => nI ((va_up (va_up ro k (ro (k + (q_hi (q_step ge) % (B - k))))) (k + (q_hi (q_step ge) % (B - k))) (ro k)) zz)))), (wh, .inr (4, [.ref al])), (al, .inl (G.2.1, 12, .inl (fun zz => nI (w zz))))]) rfl rfl (by decide) rfl hl.1 rfl (Nat.le_of_ble_eq_true rfl) dX0_draw_87 ⟨Nat.zero_le _, Nat.zero_le _⟩ [0, 1, 2, 3] (w' := [(o0, .inr (0, [.ref ad, .long (q_step ge), .int (nI (q_sz w B num)), .long bt])), (ad, .inl (G.2.1, 38, .inl (fun zz => nI ((va_up (va_up ro k (ro (k + (q_hi (q_step ge) % (B - k))))) (k + (q_hi (q_step ge) % (B - k))) (ro k)) zz)))), (wh, .inr (4, [.ref al])), (al, .inl (G.2.1, 12, .inl (fun zz => nI (w zz))))]) rfl rfl (fun H locs h => ?_)
        refine lv_lor hx hb dX0_draw_90 ?_
        refine q_put (Cn := RX0) (T := TX0) (N := 4) (ci := 0) (v := .long (bt ||| (q_bit ((va_up (va_up ro k (ro (k + (q_hi (q_step ge) % (B - k))))) (k + (q_hi (q_step ge) % (B - k))) (ro k)) k)))) (w' := [(o0, .inr (0, [.ref ad, .long (q_step ge), .int (nI (q_sz w B num)), .long (bt ||| (q_bit ((va_up (va_up ro k (ro (k + (q_hi (q_step ge) % (B - k))))) (k + (q_hi (q_step ge) % (B - k))) (ro k)) k)))])), (ad, .inl (G.2.1, 38, .inl (fun zz => nI ((va_up (va_up ro k (ro (k + (q_hi (q_step ge) % (B - k))))) (k + (q_hi (q_step ge) % (B - k))) (ro k)) zz)))), (wh, .inr (4, [.ref al])), (al, .inl (G.2.1, 12, .inl (fun zz => nI (w zz))))]) C h iX0 tyX0 tyX0_ok nmX0 0 rfl rfl 3 (by decide) f46 rfl rfl rfl (Nat.le_of_ble_eq_true rfl) dX0_draw_91 rfl (fun H locs h => ?_)
        refine lv_iinc (v := nI (k + 1)) (lv' := [(4, .int (nI (k + 1))), (0, .ref o0), (1, .int num), (2, .ref wh), (3, .int (nI B))]) hx hb dX0_draw_94 hl (k := 0) rfl (q_inc k) (by decide) rfl (fun ls hl => ?_)
        refine lv_goto (tgt := 39) hx hb dX0_draw_97 (by decide) ?_
        exact ih39 (k + 1) (va_up (va_up ro k (ro (k + (q_hi (q_step ge) % (B - k))))) (k + (q_hi (q_step ge) % (B - k))) (ro k)) (q_step ge) (bt ||| (q_bit ((va_up (va_up ro k (ro (k + (q_hi (q_step ge) % (B - k))))) (k + (q_hi (q_step ge) % (B - k))) (ro k)) k))) (by omega) (show (va_up (va_up ro k (ro (k + (q_hi (q_step ge) % (B - k))))) (k + (q_hi (q_step ge) % (B - k))) (ro k)) = (q_dr B (q_line row B) (q_g0 num) (k + 1)).1 from (by rw [e_ro, e_ge]; rfl)) (show (q_step ge) = (q_dr B (q_line row B) (q_g0 num) (k + 1)).2 from (by rw [e_ge]; rfl)) (show (bt ||| (q_bit ((va_up (va_up ro k (ro (k + (q_hi (q_step ge) % (B - k))))) (k + (q_hi (q_step ge) % (B - k))) (ro k)) k))) = q_ds B (q_line row B) (q_g0 num) (k + 1) from (by rw [e_bt, e_ro, e_ge]; rfl)) (show (k + 1) ≤ q_sz w B num from (by omega)) (show ∀ j, j < B → (va_up (va_up ro k (ro (k + (q_hi (q_step ge) % (B - k))))) (k + (q_hi (q_step ge) % (B - k))) (ro k)) j < B from (q_swap_lt hro (by omega) (by omega))) _ _ h _ (lv_sub hl [0, 1, 2, 3, 4] rfl)
  exact loop39 (q_sz w B num - 0 + 1) 0 (q_line row B) (q_step num.toInt64) 0 (Nat.lt_succ_self _) (show (q_line row B) = (q_dr B (q_line row B) (q_g0 num) 0).1 from rfl) (show (q_step num.toInt64) = (q_dr B (q_line row B) (q_g0 num) 0).2 from rfl) (show 0 = q_ds B (q_line row B) (q_g0 num) 0 from rfl) (show 0 ≤ q_sz w B num from (Nat.zero_le _)) (show ∀ j, j < B → (q_line row B) j < B from (q_line_lt row)) _ _ h _ (lv_sub hl [0, 1, 2, 3, 4] rfl)

set_option maxHeartbeats 4000000 in
set_option maxRecDepth 100000 in
theorem c_X2_equationCount (l : Launch) (G : vq_G) (o0 ae ao ab : Nat) (nn pk : Nat) (ps : Int64) (msk : Nat → Int64) (po : Nat → Nat) (pb : Nat → Int32) : vq_i l yX2_equationCount wsX2_equationCount 0 0 G [.ref o0] [(o0, .inr (2, [.ref ae, .int (nI nn), .ref ao, .ref ab, .int (nI pk), .long ps])), (ae, .inl (G.2.2, 126, .inr (.inl msk))), (ao, .inl (G.2.1, 38, .inl (fun zz => nI (po zz)))), (ab, .inl (G.2.1, 38, .inl pb))] (nI nn) [(o0, .inr (2, [.ref ae, .int (nI nn), .ref ao, .ref ab, .int (nI pk), .long ps])), (ae, .inl (G.2.2, 126, .inr (.inl msk))), (ao, .inl (G.2.1, 38, .inl (fun zz => nI (po zz)))), (ab, .inl (G.2.1, 38, .inl pb))] := by
  refine vq_openi (cc := cX2_equationCount) (maxL := 1) (ret := (some .int)) (Ts' := wsX2_equationCount.tail) (by decide) rfl (Nat.le_of_ble_eq_true rfl) ?_
  intro p e s m args below meth c A ls C h hnm hl
  have hx := C.1.1
  have hb := C.1.2.1
  have hts := C.1.2.2.2.2
  have hl : lv_has ls 1 [(0, .ref o0)] := hl
  have f22 := C.1.2.2.2.2 (.fieldLink RX2 22 "FountainCode$Peeler" "equationCount" "I") (by decide +kernel)
  have iX2 : ∀ w ∈ u_ws RX2 TX2 6, w ∈ wsX2_equationCount := by decide +kernel
  refine lv_aload_n hx hb dX2_equationCount_0 rfl (lv_at hl 0 rfl) ?_
  refine q_get (Cn := RX2) (T := TX2) (N := 6) (ci := 2) (v := .int (nI nn)) C h iX2 0 rfl rfl 1 (by decide) f22 rfl dX2_equationCount_1 ?_
  exact q_reti C h rfl rfl rfl dX2_equationCount_4

set_option maxHeartbeats 4000000 in
set_option maxRecDepth 100000 in
theorem c_X2_peeledCount (l : Launch) (G : vq_G) (o0 ae ao ab : Nat) (nn pk : Nat) (ps : Int64) (msk : Nat → Int64) (po : Nat → Nat) (pb : Nat → Int32) : vq_i l yX2_peeledCount wsX2_peeledCount 0 0 G [.ref o0] [(o0, .inr (2, [.ref ae, .int (nI nn), .ref ao, .ref ab, .int (nI pk), .long ps])), (ae, .inl (G.2.2, 126, .inr (.inl msk))), (ao, .inl (G.2.1, 38, .inl (fun zz => nI (po zz)))), (ab, .inl (G.2.1, 38, .inl pb))] (nI pk) [(o0, .inr (2, [.ref ae, .int (nI nn), .ref ao, .ref ab, .int (nI pk), .long ps])), (ae, .inl (G.2.2, 126, .inr (.inl msk))), (ao, .inl (G.2.1, 38, .inl (fun zz => nI (po zz)))), (ab, .inl (G.2.1, 38, .inl pb))] := by
  refine vq_openi (cc := cX2_peeledCount) (maxL := 1) (ret := (some .int)) (Ts' := wsX2_peeledCount.tail) (by decide) rfl (Nat.le_of_ble_eq_true rfl) ?_
  intro p e s m args below meth c A ls C h hnm hl
  have hx := C.1.1
  have hb := C.1.2.1
  have hts := C.1.2.2.2.2
  have hl : lv_has ls 1 [(0, .ref o0)] := hl
  have f26 := C.1.2.2.2.2 (.fieldLink RX2 26 "FountainCode$Peeler" "peeledCount" "I") (by decide +kernel)
  have iX2 : ∀ w ∈ u_ws RX2 TX2 6, w ∈ wsX2_peeledCount := by decide +kernel
  refine lv_aload_n hx hb dX2_peeledCount_0 rfl (lv_at hl 0 rfl) ?_
  refine q_get (Cn := RX2) (T := TX2) (N := 6) (ci := 2) (v := .int (nI pk)) C h iX2 0 rfl rfl 4 (by decide) f26 rfl dX2_peeledCount_1 ?_
  exact q_reti C h rfl rfl rfl dX2_peeledCount_4

set_option maxHeartbeats 4000000 in
set_option maxRecDepth 100000 in
theorem c_X2_peeledInPlace (l : Launch) (G : vq_G) (o0 ae ao ab : Nat) (nn pk : Nat) (ps : Int64) (msk : Nat → Int64) (po : Nat → Nat) (pb : Nat → Int32) (i : Nat) (hi : i < 38) : vq_i l yX2_peeledInPlace wsX2_peeledInPlace 0 0 G [.ref o0, .int (nI i)] [(o0, .inr (2, [.ref ae, .int (nI nn), .ref ao, .ref ab, .int (nI pk), .long ps])), (ae, .inl (G.2.2, 126, .inr (.inl msk))), (ao, .inl (G.2.1, 38, .inl (fun zz => nI (po zz)))), (ab, .inl (G.2.1, 38, .inl pb))] (nI (po i)) [(o0, .inr (2, [.ref ae, .int (nI nn), .ref ao, .ref ab, .int (nI pk), .long ps])), (ae, .inl (G.2.2, 126, .inr (.inl msk))), (ao, .inl (G.2.1, 38, .inl (fun zz => nI (po zz)))), (ab, .inl (G.2.1, 38, .inl pb))] := by
  refine vq_openi (cc := cX2_peeledInPlace) (maxL := 2) (ret := (some .int)) (Ts' := wsX2_peeledInPlace.tail) (by decide) rfl (Nat.le_of_ble_eq_true rfl) ?_
  intro p e s m args below meth c A ls C h hnm hl
  have hx := C.1.1
  have hb := C.1.2.1
  have hts := C.1.2.2.2.2
  have hl : lv_has ls 2 [(0, .ref o0), (1, .int (nI i))] := hl
  have f15 := C.1.2.2.2.2 (.fieldLink RX2 15 "FountainCode$Peeler" "peelOrder" "[I") (by decide +kernel)
  have iX2 : ∀ w ∈ u_ws RX2 TX2 6, w ∈ wsX2_peeledInPlace := by decide +kernel
  refine lv_iload_n hx hb dX2_peeledInPlace_0 rfl (lv_at hl 1 rfl) ?_
  refine q_if_lt (tgt := 22) hx hb (by omega) dX2_peeledInPlace_1 (by decide) (fun z1 => absurd z1 (by omega)) (fun z1 => ?_)
  refine lv_iload_n hx hb dX2_peeledInPlace_4 rfl (lv_at hl 1 rfl) ?_
  refine lv_aload_n hx hb dX2_peeledInPlace_5 rfl (lv_at hl 0 rfl) ?_
  refine q_get (Cn := RX2) (T := TX2) (N := 6) (ci := 2) (v := .ref ao) C h iX2 0 rfl rfl 2 (by decide) f15 rfl dX2_peeledInPlace_6 ?_
  refine q_alen (n := 38) C h 2 rfl dX2_peeledInPlace_9 ?_
  refine q_icmp_ge (tgt := 22) hx hb (by omega) (by omega) dX2_peeledInPlace_10 (by decide) (fun z10 => absurd z10 (by omega)) (fun z10 => ?_)
  refine lv_aload_n hx hb dX2_peeledInPlace_13 rfl (lv_at hl 0 rfl) ?_
  refine q_get (Cn := RX2) (T := TX2) (N := 6) (ci := 2) (v := .ref ao) C h iX2 0 rfl rfl 2 (by decide) f15 rfl dX2_peeledInPlace_14 ?_
  refine lv_iload_n hx hb dX2_peeledInPlace_17 rfl (lv_at hl 1 rfl) ?_
  refine q_iald (i := i) (v := (nI (po i))) C h 2 rfl (by omega) (by omega) rfl dX2_peeledInPlace_18 ?_
  refine lv_goto (tgt := 23) hx hb dX2_peeledInPlace_19 (by decide) ?_
  exact q_reti C h rfl rfl rfl dX2_peeledInPlace_23

set_option maxHeartbeats 4000000 in
set_option maxRecDepth 100000 in
theorem c_X2_equationThatPeeled (l : Launch) (G : vq_G) (o0 ae ao ab : Nat) (nn pk : Nat) (ps : Int64) (msk : Nat → Int64) (po : Nat → Nat) (pb : Nat → Int32) (i : Nat) (hi : i < 38) : vq_i l yX2_equationThatPeeled wsX2_equationThatPeeled 0 0 G [.ref o0, .int (nI i)] [(o0, .inr (2, [.ref ae, .int (nI nn), .ref ao, .ref ab, .int (nI pk), .long ps])), (ae, .inl (G.2.2, 126, .inr (.inl msk))), (ao, .inl (G.2.1, 38, .inl (fun zz => nI (po zz)))), (ab, .inl (G.2.1, 38, .inl pb))] (pb i) [(o0, .inr (2, [.ref ae, .int (nI nn), .ref ao, .ref ab, .int (nI pk), .long ps])), (ae, .inl (G.2.2, 126, .inr (.inl msk))), (ao, .inl (G.2.1, 38, .inl (fun zz => nI (po zz)))), (ab, .inl (G.2.1, 38, .inl pb))] := by
  refine vq_openi (cc := cX2_equationThatPeeled) (maxL := 2) (ret := (some .int)) (Ts' := wsX2_equationThatPeeled.tail) (by decide) rfl (Nat.le_of_ble_eq_true rfl) ?_
  intro p e s m args below meth c A ls C h hnm hl
  have hx := C.1.1
  have hb := C.1.2.1
  have hts := C.1.2.2.2.2
  have hl : lv_has ls 2 [(0, .ref o0), (1, .int (nI i))] := hl
  have f19 := C.1.2.2.2.2 (.fieldLink RX2 19 "FountainCode$Peeler" "peelEquations" "[I") (by decide +kernel)
  have iX2 : ∀ w ∈ u_ws RX2 TX2 6, w ∈ wsX2_equationThatPeeled := by decide +kernel
  refine lv_iload_n hx hb dX2_equationThatPeeled_0 rfl (lv_at hl 1 rfl) ?_
  refine q_if_lt (tgt := 22) hx hb (by omega) dX2_equationThatPeeled_1 (by decide) (fun z1 => absurd z1 (by omega)) (fun z1 => ?_)
  refine lv_iload_n hx hb dX2_equationThatPeeled_4 rfl (lv_at hl 1 rfl) ?_
  refine lv_aload_n hx hb dX2_equationThatPeeled_5 rfl (lv_at hl 0 rfl) ?_
  refine q_get (Cn := RX2) (T := TX2) (N := 6) (ci := 2) (v := .ref ab) C h iX2 0 rfl rfl 3 (by decide) f19 rfl dX2_equationThatPeeled_6 ?_
  refine q_alen (n := 38) C h 3 rfl dX2_equationThatPeeled_9 ?_
  refine q_icmp_ge (tgt := 22) hx hb (by omega) (by omega) dX2_equationThatPeeled_10 (by decide) (fun z10 => absurd z10 (by omega)) (fun z10 => ?_)
  refine lv_aload_n hx hb dX2_equationThatPeeled_13 rfl (lv_at hl 0 rfl) ?_
  refine q_get (Cn := RX2) (T := TX2) (N := 6) (ci := 2) (v := .ref ab) C h iX2 0 rfl rfl 3 (by decide) f19 rfl dX2_equationThatPeeled_14 ?_
  refine lv_iload_n hx hb dX2_equationThatPeeled_17 rfl (lv_at hl 1 rfl) ?_
  refine q_iald (i := i) (v := (pb i)) C h 3 rfl (by omega) (by omega) rfl dX2_equationThatPeeled_18 ?_
  refine lv_goto (tgt := 23) hx hb dX2_equationThatPeeled_19 (by decide) ?_
  exact q_reti C h rfl rfl rfl dX2_equationThatPeeled_23

set_option maxHeartbeats 4000000 in
set_option maxRecDepth 100000 in
theorem c_X2_clear (l : Launch) (G : vq_G) (o0 ae ao ab : Nat) (nn pk : Nat) (ps : Int64) (msk : Nat → Int64) (po : Nat → Nat) (pb : Nat → Int32) : vq_v l yX2_clear wsX2_clear 1 23 G [.ref o0] [(o0, .inr (2, [.ref ae, .int (nI nn), .ref ao, .ref ab, .int (nI pk), .long ps])), (ae, .inl (G.2.2, 126, .inr (.inl msk))), (ao, .inl (G.2.1, 38, .inl (fun zz => nI (po zz)))), (ab, .inl (G.2.1, 38, .inl pb))]  [(o0, .inr (2, [.ref ae, .int (nI 0), .ref ao, .ref ab, .int (nI 0), .long 0])), (ae, .inl (G.2.2, 126, .inr (.inl msk))), (ao, .inl (G.2.1, 38, .inl (fun zz => nI (po zz)))), (ab, .inl (G.2.1, 38, .inl (fun _ => (-1))))] := by
  refine vq_openv (cc := cX2_clear) (maxL := 1) (ret := none) (Ts' := wsX2_clear.tail) (by decide) rfl (Nat.le_of_ble_eq_true rfl) ?_
  intro p e s m args below meth c A ls C h hnm hl
  have hx := C.1.1
  have hb := C.1.2.1
  have hts := C.1.2.2.2.2
  have hl : lv_has ls 1 [(0, .ref o0)] := hl
  have f22 := C.1.2.2.2.2 (.fieldLink RX2 22 "FountainCode$Peeler" "equationCount" "I") (by decide +kernel)
  have iX2 : ∀ w ∈ u_ws RX2 TX2 6, w ∈ wsX2_clear := by decide +kernel
  have f26 := C.1.2.2.2.2 (.fieldLink RX2 26 "FountainCode$Peeler" "peeledCount" "I") (by decide +kernel)
  have f29 := C.1.2.2.2.2 (.fieldLink RX2 29 "FountainCode$Peeler" "peeledSet" "J") (by decide +kernel)
  have f19 := C.1.2.2.2.2 (.fieldLink RX2 19 "FountainCode$Peeler" "peelEquations" "[I") (by decide +kernel)
  refine lv_aload_n hx hb dX2_clear_0 rfl (lv_at hl 0 rfl) ?_
  refine lv_iconst (v := nI 0) hx hb dX2_clear_1 (by decide) ?_
  refine q_put (Cn := RX2) (T := TX2) (N := 6) (ci := 2) (v := .int (nI 0)) (w' := [(o0, .inr (2, [.ref ae, .int (nI 0), .ref ao, .ref ab, .int (nI pk), .long ps])), (ae, .inl (G.2.2, 126, .inr (.inl msk))), (ao, .inl (G.2.1, 38, .inl (fun zz => nI (po zz)))), (ab, .inl (G.2.1, 38, .inl pb))]) C h iX2 tyX2 tyX2_ok nmX2 0 rfl rfl 1 (by decide) f22 rfl rfl rfl (Nat.le_of_ble_eq_true rfl) dX2_clear_2 rfl (fun H locs h => ?_)
  refine lv_aload_n hx hb dX2_clear_5 rfl (lv_at hl 0 rfl) ?_
  refine lv_iconst (v := nI 0) hx hb dX2_clear_6 (by decide) ?_
  refine q_put (Cn := RX2) (T := TX2) (N := 6) (ci := 2) (v := .int (nI 0)) (w' := [(o0, .inr (2, [.ref ae, .int (nI 0), .ref ao, .ref ab, .int (nI 0), .long ps])), (ae, .inl (G.2.2, 126, .inr (.inl msk))), (ao, .inl (G.2.1, 38, .inl (fun zz => nI (po zz)))), (ab, .inl (G.2.1, 38, .inl pb))]) C h iX2 tyX2 tyX2_ok nmX2 0 rfl rfl 4 (by decide) f26 rfl rfl rfl (Nat.le_of_ble_eq_true rfl) dX2_clear_7 rfl (fun H locs h => ?_)
  refine lv_aload_n hx hb dX2_clear_10 rfl (lv_at hl 0 rfl) ?_
  refine lv_lconst (v := 0) hx hb dX2_clear_11 (by decide) ?_
  refine q_put (Cn := RX2) (T := TX2) (N := 6) (ci := 2) (v := .long 0) (w' := [(o0, .inr (2, [.ref ae, .int (nI 0), .ref ao, .ref ab, .int (nI 0), .long 0])), (ae, .inl (G.2.2, 126, .inr (.inl msk))), (ao, .inl (G.2.1, 38, .inl (fun zz => nI (po zz)))), (ab, .inl (G.2.1, 38, .inl pb))]) C h iX2 tyX2 tyX2_ok nmX2 0 rfl rfl 5 (by decide) f29 rfl rfl rfl (Nat.le_of_ble_eq_true rfl) dX2_clear_12 rfl (fun H locs h => ?_)
  refine lv_aload_n hx hb dX2_clear_15 rfl (lv_at hl 0 rfl) ?_
  refine q_get (Cn := RX2) (T := TX2) (N := 6) (ci := 2) (v := .ref ab) C h iX2 0 rfl rfl 3 (by decide) f19 rfl dX2_clear_16 ?_
  refine lv_iconst (v := (-1)) hx hb dX2_clear_19 (by decide) ?_
  refine q_callSv C h (c_J7_fill_53178 l G ab 38 pb (-1) (by decide)) (va_cwS 2 hts gX2_clear_J7_fill_53178 rfl rfl rfl (by decide +kernel) ⟨Nat.le_of_ble_eq_true rfl, Nat.le_of_ble_eq_true rfl⟩) [3] rfl rfl [0, 1, 2] (wr := [(o0, .inr (2, [.ref ae, .int (nI 0), .ref ao, .ref ab, .int (nI 0), .long 0])), (ae, .inl (G.2.2, 126, .inr (.inl msk))), (ao, .inl (G.2.1, 38, .inl (fun zz => nI (po zz))))]) rfl rfl (by decide) rfl hl.1 rfl (Nat.le_of_ble_eq_true rfl) dX2_clear_20 ⟨Nat.zero_le _, Nat.zero_le _⟩ [0, 1, 2, 3] (w' := [(o0, .inr (2, [.ref ae, .int (nI 0), .ref ao, .ref ab, .int (nI 0), .long 0])), (ae, .inl (G.2.2, 126, .inr (.inl msk))), (ao, .inl (G.2.1, 38, .inl (fun zz => nI (po zz)))), (ab, .inl (G.2.1, 38, .inl (fun _ => (-1))))]) rfl rfl (fun H locs h => ?_)
  exact q_retv C h rfl rfl dX2_clear_23

set_option maxHeartbeats 4000000 in
set_option maxRecDepth 100000 in
theorem c_X2_addEquation (l : Launch) (G : vq_G) (o0 ae ao ab : Nat) (nn pk : Nat) (ps : Int64) (msk : Nat → Int64) (po : Nat → Nat) (pb : Nat → Int32) (x : Int64) (hn : nn < 126) : vq_v l yX2_addEquation wsX2_addEquation 0 0 G [.ref o0, .long x] [(o0, .inr (2, [.ref ae, .int (nI nn), .ref ao, .ref ab, .int (nI pk), .long ps])), (ae, .inl (G.2.2, 126, .inr (.inl msk))), (ao, .inl (G.2.1, 38, .inl (fun zz => nI (po zz)))), (ab, .inl (G.2.1, 38, .inl pb))]  [(o0, .inr (2, [.ref ae, .int (nI (nn + 1)), .ref ao, .ref ab, .int (nI pk), .long ps])), (ae, .inl (G.2.2, 126, .inr (.inl (vp_updL msk nn x)))), (ao, .inl (G.2.1, 38, .inl (fun zz => nI (po zz)))), (ab, .inl (G.2.1, 38, .inl pb))] := by
  refine vq_openv (cc := cX2_addEquation) (maxL := 3) (ret := none) (Ts' := wsX2_addEquation.tail) (by decide) rfl (Nat.le_of_ble_eq_true rfl) ?_
  intro p e s m args below meth c A ls C h hnm hl
  have hx := C.1.1
  have hb := C.1.2.1
  have hts := C.1.2.2.2.2
  have hl : lv_has ls 3 [(0, .ref o0), (1, .long x)] := hl
  have f22 := C.1.2.2.2.2 (.fieldLink RX2 22 "FountainCode$Peeler" "equationCount" "I") (by decide +kernel)
  have iX2 : ∀ w ∈ u_ws RX2 TX2 6, w ∈ wsX2_addEquation := by decide +kernel
  have f9 := C.1.2.2.2.2 (.fieldLink RX2 9 "FountainCode$Peeler" "equationSets" "[J") (by decide +kernel)
  refine lv_aload_n hx hb dX2_addEquation_0 rfl (lv_at hl 0 rfl) ?_
  refine q_get (Cn := RX2) (T := TX2) (N := 6) (ci := 2) (v := .int (nI nn)) C h iX2 0 rfl rfl 1 (by decide) f22 rfl dX2_addEquation_1 ?_
  refine q_if_lt (tgt := 39) hx hb (by omega) dX2_addEquation_4 (by decide) (fun z4 => absurd z4 (by omega)) (fun z4 => ?_)
  refine lv_aload_n hx hb dX2_addEquation_7 rfl (lv_at hl 0 rfl) ?_
  refine q_get (Cn := RX2) (T := TX2) (N := 6) (ci := 2) (v := .int (nI nn)) C h iX2 0 rfl rfl 1 (by decide) f22 rfl dX2_addEquation_8 ?_
  refine lv_aload_n hx hb dX2_addEquation_11 rfl (lv_at hl 0 rfl) ?_
  refine q_get (Cn := RX2) (T := TX2) (N := 6) (ci := 2) (v := .ref ae) C h iX2 0 rfl rfl 0 (by decide) f9 rfl dX2_addEquation_12 ?_
  refine q_alenL (n := 126) C h 1 rfl dX2_addEquation_15 ?_
  refine q_icmp_ge (tgt := 39) hx hb (by omega) (by omega) dX2_addEquation_16 (by decide) (fun z16 => absurd z16 (by omega)) (fun z16 => ?_)
  refine lv_aload_n hx hb dX2_addEquation_19 rfl (lv_at hl 0 rfl) ?_
  refine q_get (Cn := RX2) (T := TX2) (N := 6) (ci := 2) (v := .ref ae) C h iX2 0 rfl rfl 0 (by decide) f9 rfl dX2_addEquation_20 ?_
  refine lv_aload_n hx hb dX2_addEquation_23 rfl (lv_at hl 0 rfl) ?_
  refine q_get (Cn := RX2) (T := TX2) (N := 6) (ci := 2) (v := .int (nI nn)) C h iX2 0 rfl rfl 1 (by decide) f22 rfl dX2_addEquation_24 ?_
  refine lv_lload_n hx hb dX2_addEquation_27 rfl (lv_at hl 1 rfl) ?_
  refine q_last (i := nn) (g := vp_updL msk nn x) (w' := [(o0, .inr (2, [.ref ae, .int (nI nn), .ref ao, .ref ab, .int (nI pk), .long ps])), (ae, .inl (G.2.2, 126, .inr (.inl (vp_updL msk nn x)))), (ao, .inl (G.2.1, 38, .inl (fun zz => nI (po zz)))), (ab, .inl (G.2.1, 38, .inl pb))]) C h 1 rfl (by omega) (by omega) rfl rfl dX2_addEquation_28 (fun H locs h => ?_)
  refine lv_aload_n hx hb dX2_addEquation_29 rfl (lv_at hl 0 rfl) ?_
  refine lv_dup hx hb dX2_addEquation_30 rfl ?_
  refine q_get (Cn := RX2) (T := TX2) (N := 6) (ci := 2) (v := .int (nI nn)) C h iX2 0 rfl rfl 1 (by decide) f22 rfl dX2_addEquation_31 ?_
  refine lv_iconst (v := nI 1) hx hb dX2_addEquation_34 (by decide) ?_
  refine q_iadd hx hb dX2_addEquation_35 ?_
  refine q_put (Cn := RX2) (T := TX2) (N := 6) (ci := 2) (v := .int (nI (nn + 1))) (w' := [(o0, .inr (2, [.ref ae, .int (nI (nn + 1)), .ref ao, .ref ab, .int (nI pk), .long ps])), (ae, .inl (G.2.2, 126, .inr (.inl (vp_updL msk nn x)))), (ao, .inl (G.2.1, 38, .inl (fun zz => nI (po zz)))), (ab, .inl (G.2.1, 38, .inl pb))]) C h iX2 tyX2 tyX2_ok nmX2 0 rfl rfl 1 (by decide) f22 rfl rfl rfl (Nat.le_of_ble_eq_true rfl) dX2_addEquation_36 rfl (fun H locs h => ?_)
  exact q_retv C h rfl rfl dX2_addEquation_39

set_option maxHeartbeats 4000000 in
set_option maxRecDepth 100000 in
theorem c_X2_lowestReady_n (l : Launch) (G : vq_G) (o0 ae ao ab : Nat) (nn pk : Nat) (ps : Int64) (msk : Nat → Int64) (po : Nat → Nat) (pb : Nat → Int32) (hn : nn ≤ 126) (hF : ∀ j, j < nn → q_rd msk ps j = false) : vq_i l yX2_lowestReady wsX2_lowestReady 1 21 G [.ref o0] [(o0, .inr (2, [.ref ae, .int (nI nn), .ref ao, .ref ab, .int (nI pk), .long ps])), (ae, .inl (G.2.2, 126, .inr (.inl msk))), (ao, .inl (G.2.1, 38, .inl (fun zz => nI (po zz)))), (ab, .inl (G.2.1, 38, .inl pb))] (-1) [(o0, .inr (2, [.ref ae, .int (nI nn), .ref ao, .ref ab, .int (nI pk), .long ps])), (ae, .inl (G.2.2, 126, .inr (.inl msk))), (ao, .inl (G.2.1, 38, .inl (fun zz => nI (po zz)))), (ab, .inl (G.2.1, 38, .inl pb))] := by
  refine vq_openi (cc := cX2_lowestReady) (maxL := 2) (ret := (some .int)) (Ts' := wsX2_lowestReady.tail) (by decide) rfl (Nat.le_of_ble_eq_true rfl) ?_
  intro p e s m args below meth c A ls C h hnm hl
  have hx := C.1.1
  have hb := C.1.2.1
  have hts := C.1.2.2.2.2
  have hl : lv_has ls 2 [(0, .ref o0)] := hl
  have f22 := C.1.2.2.2.2 (.fieldLink RX2 22 "FountainCode$Peeler" "equationCount" "I") (by decide +kernel)
  have iX2 : ∀ w ∈ u_ws RX2 TX2 6, w ∈ wsX2_lowestReady := by decide +kernel
  have f9 := C.1.2.2.2.2 (.fieldLink RX2 9 "FountainCode$Peeler" "equationSets" "[J") (by decide +kernel)
  have f29 := C.1.2.2.2.2 (.fieldLink RX2 29 "FountainCode$Peeler" "peeledSet" "J") (by decide +kernel)
  have k47 := C.1.2.2.2.2 (.constantLong RX2 47 (-1)) (by decide +kernel)
  refine lv_iconst (v := nI 0) hx hb dX2_lowestReady_0 (by decide) ?_
  refine lv_istore_n (lv' := [(1, .int (nI 0)), (0, .ref o0)]) hx hb dX2_lowestReady_1 rfl hl (by decide) rfl (fun ls hl => ?_)
  have loop2 : ∀ (fu : Nat) (k : Nat), nn - k < fu → (k ≤ nn) → ∀ (H : Heap) (locs : List Loc), vq_H G A s [(o0, .inr (2, [.ref ae, .int (nI nn), .ref ao, .ref ab, .int (nI pk), .long ps])), (ae, .inl (G.2.2, 126, .inr (.inl msk))), (ao, .inl (G.2.1, 38, .inl (fun zz => nI (po zz)))), (ab, .inl (G.2.1, 38, .inl pb))] H locs → ∀ (ls : Array Slot), lv_has ls 2 [(1, .int (nI k)), (0, .ref o0)] → W p l e ({ frames := 1, cells := 0, slots := 0, locals := 21 } : Room) s m args below meth c H locs 0 0 (MQ below (va_Qi (fun zr (_ : Unit) => zr = (-1)) (fun _ => vq_T G A [(o0, .inr (2, [.ref ae, .int (nI nn), .ref ao, .ref ab, .int (nI pk), .long ps])), (ae, .inl (G.2.2, 126, .inr (.inl msk))), (ao, .inl (G.2.1, 38, .inl (fun zz => nI (po zz)))), (ab, .inl (G.2.1, 38, .inl pb))]) A) args s 0 0 A) (F0 m 2 ls []) := by
    intro fu
    induction fu with
    | zero => exact fun k hm => absurd hm (Nat.not_lt_zero _)
    | succ fu ih =>
      intro k hm2 hk H locs h ls hl
      have ih2 := ih
      clear ih
      refine lv_iload_n hx hb dX2_lowestReady_2 rfl (lv_at hl 0 rfl) ?_
      refine lv_aload_n hx hb dX2_lowestReady_3 rfl (lv_at hl 1 rfl) ?_
      refine q_get (Cn := RX2) (T := TX2) (N := 6) (ci := 2) (v := .int (nI nn)) C h iX2 0 rfl rfl 1 (by decide) f22 rfl dX2_lowestReady_4 ?_
      refine q_icmp_ge (tgt := 49) hx hb (by omega) (by omega) dX2_lowestReady_7 (by decide) (fun z7 => ?_) (fun z7 => ?_)
      · refine lv_iconst (v := (-1)) hx hb dX2_lowestReady_49 (by decide) ?_
        exact q_reti C h rfl rfl rfl dX2_lowestReady_50
      · refine lv_iload_n hx hb dX2_lowestReady_10 rfl (lv_at hl 0 rfl) ?_
        refine lv_aload_n hx hb dX2_lowestReady_11 rfl (lv_at hl 1 rfl) ?_
        refine q_get (Cn := RX2) (T := TX2) (N := 6) (ci := 2) (v := .ref ae) C h iX2 0 rfl rfl 0 (by decide) f9 rfl dX2_lowestReady_12 ?_
        refine q_alenL (n := 126) C h 1 rfl dX2_lowestReady_15 ?_
        refine q_icmp_ge (tgt := 49) hx hb (by omega) (by omega) dX2_lowestReady_16 (by decide) (fun z16 => absurd z16 (by omega)) (fun z16 => ?_)
        refine lv_aload_n hx hb dX2_lowestReady_19 rfl (lv_at hl 1 rfl) ?_
        refine q_get (Cn := RX2) (T := TX2) (N := 6) (ci := 2) (v := .ref ae) C h iX2 0 rfl rfl 0 (by decide) f9 rfl dX2_lowestReady_20 ?_
        refine lv_iload_n hx hb dX2_lowestReady_23 rfl (lv_at hl 0 rfl) ?_
        refine q_lald (i := k) (v := msk k) C h 1 rfl (by omega) (by omega) rfl dX2_lowestReady_24 ?_
        refine lv_aload_n hx hb dX2_lowestReady_25 rfl (lv_at hl 1 rfl) ?_
        refine q_get (Cn := RX2) (T := TX2) (N := 6) (ci := 2) (v := .long ps) C h iX2 0 rfl rfl 5 (by decide) f29 rfl dX2_lowestReady_26 ?_
        refine q_ldc2 C k47 dX2_lowestReady_29 ?_
        refine lv_lxor hx hb dX2_lowestReady_32 ?_
        refine lv_land hx hb dX2_lowestReady_33 ?_
        refine q_top (v' := .long (q_lf msk ps k)) rfl ?_
        refine q_callSi C h (c_J13_bitCount_95d88 l G (q_lf msk ps k)) (va_cwS 1 hts gX2_lowestReady_J13_bitCount_95d88 rfl rfl rfl (by decide +kernel) ⟨Nat.le_of_ble_eq_true rfl, Nat.le_of_ble_eq_true rfl⟩) [] rfl rfl [0, 1, 2, 3] (wr := [(o0, .inr (2, [.ref ae, .int (nI nn), .ref ao, .ref ab, .int (nI pk), .long ps])), (ae, .inl (G.2.2, 126, .inr (.inl msk))), (ao, .inl (G.2.1, 38, .inl (fun zz => nI (po zz)))), (ab, .inl (G.2.1, 38, .inl pb))]) rfl rfl (by decide) rfl hl.1 rfl (Nat.le_of_ble_eq_true rfl) dX2_lowestReady_34 ⟨Nat.zero_le _, Nat.zero_le _⟩ [0, 1, 2, 3] (w' := [(o0, .inr (2, [.ref ae, .int (nI nn), .ref ao, .ref ab, .int (nI pk), .long ps])), (ae, .inl (G.2.2, 126, .inr (.inl msk))), (ao, .inl (G.2.1, 38, .inl (fun zz => nI (po zz)))), (ab, .inl (G.2.1, 38, .inl pb))]) rfl rfl (fun H locs h => ?_)
        refine lv_iconst (v := nI 1) hx hb dX2_lowestReady_37 (by decide) ?_
        refine lv_icmp_ne (tgt := 43) hx hb dX2_lowestReady_38 (by decide) (fun z38 => ?_) (fun z38 => absurd z38 (fun z => by have := hF k (by omega); simp [q_rd, z] at this))
        refine lv_iinc (v := nI (k + 1)) (lv' := [(1, .int (nI (k + 1))), (0, .ref o0)]) hx hb dX2_lowestReady_43 hl (k := 0) rfl (q_inc k) (by decide) rfl (fun ls hl => ?_)
        refine lv_goto (tgt := 2) hx hb dX2_lowestReady_46 (by decide) ?_
        exact ih2 (k + 1) (by omega) (show (k + 1) ≤ nn from (by omega)) _ _ h _ (lv_sub hl [0, 1] rfl)
  exact loop2 (nn - 0 + 1) 0 (Nat.lt_succ_self _) (show 0 ≤ nn from (Nat.zero_le _)) _ _ h _ (lv_sub hl [0, 1] rfl)

set_option maxHeartbeats 4000000 in
set_option maxRecDepth 100000 in
theorem c_X2_lowestReady_s (l : Launch) (G : vq_G) (o0 ae ao ab : Nat) (nn pk : Nat) (ps : Int64) (msk : Nat → Int64) (po : Nat → Nat) (pb : Nat → Int32) (i : Nat) (hn : nn ≤ 126) (hi : i < nn) (h1 : q_rd msk ps i = true) (h0 : ∀ j, j < i → q_rd msk ps j = false) : vq_i l yX2_lowestReady wsX2_lowestReady 1 21 G [.ref o0] [(o0, .inr (2, [.ref ae, .int (nI nn), .ref ao, .ref ab, .int (nI pk), .long ps])), (ae, .inl (G.2.2, 126, .inr (.inl msk))), (ao, .inl (G.2.1, 38, .inl (fun zz => nI (po zz)))), (ab, .inl (G.2.1, 38, .inl pb))] (nI i) [(o0, .inr (2, [.ref ae, .int (nI nn), .ref ao, .ref ab, .int (nI pk), .long ps])), (ae, .inl (G.2.2, 126, .inr (.inl msk))), (ao, .inl (G.2.1, 38, .inl (fun zz => nI (po zz)))), (ab, .inl (G.2.1, 38, .inl pb))] := by
  refine vq_openi (cc := cX2_lowestReady) (maxL := 2) (ret := (some .int)) (Ts' := wsX2_lowestReady.tail) (by decide) rfl (Nat.le_of_ble_eq_true rfl) ?_
  intro p e s m args below meth c A ls C h hnm hl
  have hx := C.1.1
  have hb := C.1.2.1
  have hts := C.1.2.2.2.2
  have hl : lv_has ls 2 [(0, .ref o0)] := hl
  have f22 := C.1.2.2.2.2 (.fieldLink RX2 22 "FountainCode$Peeler" "equationCount" "I") (by decide +kernel)
  have iX2 : ∀ w ∈ u_ws RX2 TX2 6, w ∈ wsX2_lowestReady := by decide +kernel
  have f9 := C.1.2.2.2.2 (.fieldLink RX2 9 "FountainCode$Peeler" "equationSets" "[J") (by decide +kernel)
  have f29 := C.1.2.2.2.2 (.fieldLink RX2 29 "FountainCode$Peeler" "peeledSet" "J") (by decide +kernel)
  have k47 := C.1.2.2.2.2 (.constantLong RX2 47 (-1)) (by decide +kernel)
  refine lv_iconst (v := nI 0) hx hb dX2_lowestReady_0 (by decide) ?_
  refine lv_istore_n (lv' := [(1, .int (nI 0)), (0, .ref o0)]) hx hb dX2_lowestReady_1 rfl hl (by decide) rfl (fun ls hl => ?_)
  have loop2 : ∀ (fu : Nat) (k : Nat), nn - k < fu → (k ≤ i) → ∀ (H : Heap) (locs : List Loc), vq_H G A s [(o0, .inr (2, [.ref ae, .int (nI nn), .ref ao, .ref ab, .int (nI pk), .long ps])), (ae, .inl (G.2.2, 126, .inr (.inl msk))), (ao, .inl (G.2.1, 38, .inl (fun zz => nI (po zz)))), (ab, .inl (G.2.1, 38, .inl pb))] H locs → ∀ (ls : Array Slot), lv_has ls 2 [(1, .int (nI k)), (0, .ref o0)] → W p l e ({ frames := 1, cells := 0, slots := 0, locals := 21 } : Room) s m args below meth c H locs 0 0 (MQ below (va_Qi (fun zr (_ : Unit) => zr = (nI i)) (fun _ => vq_T G A [(o0, .inr (2, [.ref ae, .int (nI nn), .ref ao, .ref ab, .int (nI pk), .long ps])), (ae, .inl (G.2.2, 126, .inr (.inl msk))), (ao, .inl (G.2.1, 38, .inl (fun zz => nI (po zz)))), (ab, .inl (G.2.1, 38, .inl pb))]) A) args s 0 0 A) (F0 m 2 ls []) := by
    intro fu
    induction fu with
    | zero => exact fun k hm => absurd hm (Nat.not_lt_zero _)
    | succ fu ih =>
      intro k hm2 hk H locs h ls hl
      have ih2 := ih
      clear ih
      refine lv_iload_n hx hb dX2_lowestReady_2 rfl (lv_at hl 0 rfl) ?_
      refine lv_aload_n hx hb dX2_lowestReady_3 rfl (lv_at hl 1 rfl) ?_
      refine q_get (Cn := RX2) (T := TX2) (N := 6) (ci := 2) (v := .int (nI nn)) C h iX2 0 rfl rfl 1 (by decide) f22 rfl dX2_lowestReady_4 ?_
      refine q_icmp_ge (tgt := 49) hx hb (by omega) (by omega) dX2_lowestReady_7 (by decide) (fun z7 => absurd z7 (by omega)) (fun z7 => ?_)
      refine lv_iload_n hx hb dX2_lowestReady_10 rfl (lv_at hl 0 rfl) ?_
      refine lv_aload_n hx hb dX2_lowestReady_11 rfl (lv_at hl 1 rfl) ?_
      refine q_get (Cn := RX2) (T := TX2) (N := 6) (ci := 2) (v := .ref ae) C h iX2 0 rfl rfl 0 (by decide) f9 rfl dX2_lowestReady_12 ?_
      refine q_alenL (n := 126) C h 1 rfl dX2_lowestReady_15 ?_
      refine q_icmp_ge (tgt := 49) hx hb (by omega) (by omega) dX2_lowestReady_16 (by decide) (fun z16 => absurd z16 (by omega)) (fun z16 => ?_)
      refine lv_aload_n hx hb dX2_lowestReady_19 rfl (lv_at hl 1 rfl) ?_
      refine q_get (Cn := RX2) (T := TX2) (N := 6) (ci := 2) (v := .ref ae) C h iX2 0 rfl rfl 0 (by decide) f9 rfl dX2_lowestReady_20 ?_
      refine lv_iload_n hx hb dX2_lowestReady_23 rfl (lv_at hl 0 rfl) ?_
      refine q_lald (i := k) (v := msk k) C h 1 rfl (by omega) (by omega) rfl dX2_lowestReady_24 ?_
      refine lv_aload_n hx hb dX2_lowestReady_25 rfl (lv_at hl 1 rfl) ?_
      refine q_get (Cn := RX2) (T := TX2) (N := 6) (ci := 2) (v := .long ps) C h iX2 0 rfl rfl 5 (by decide) f29 rfl dX2_lowestReady_26 ?_
      refine q_ldc2 C k47 dX2_lowestReady_29 ?_
      refine lv_lxor hx hb dX2_lowestReady_32 ?_
      refine lv_land hx hb dX2_lowestReady_33 ?_
      refine q_top (v' := .long (q_lf msk ps k)) rfl ?_
      refine q_callSi C h (c_J13_bitCount_95d88 l G (q_lf msk ps k)) (va_cwS 1 hts gX2_lowestReady_J13_bitCount_95d88 rfl rfl rfl (by decide +kernel) ⟨Nat.le_of_ble_eq_true rfl, Nat.le_of_ble_eq_true rfl⟩) [] rfl rfl [0, 1, 2, 3] (wr := [(o0, .inr (2, [.ref ae, .int (nI nn), .ref ao, .ref ab, .int (nI pk), .long ps])), (ae, .inl (G.2.2, 126, .inr (.inl msk))), (ao, .inl (G.2.1, 38, .inl (fun zz => nI (po zz)))), (ab, .inl (G.2.1, 38, .inl pb))]) rfl rfl (by decide) rfl hl.1 rfl (Nat.le_of_ble_eq_true rfl) dX2_lowestReady_34 ⟨Nat.zero_le _, Nat.zero_le _⟩ [0, 1, 2, 3] (w' := [(o0, .inr (2, [.ref ae, .int (nI nn), .ref ao, .ref ab, .int (nI pk), .long ps])), (ae, .inl (G.2.2, 126, .inr (.inl msk))), (ao, .inl (G.2.1, 38, .inl (fun zz => nI (po zz)))), (ab, .inl (G.2.1, 38, .inl pb))]) rfl rfl (fun H locs h => ?_)
      refine lv_iconst (v := nI 1) hx hb dX2_lowestReady_37 (by decide) ?_
      refine lv_icmp_ne (tgt := 43) hx hb dX2_lowestReady_38 (by decide) (fun z38 => ?_) (fun z38 => ?_)
      · refine lv_iinc (v := nI (k + 1)) (lv' := [(1, .int (nI (k + 1))), (0, .ref o0)]) hx hb dX2_lowestReady_43 hl (k := 0) rfl (q_inc k) (by decide) rfl (fun ls hl => ?_)
        refine lv_goto (tgt := 2) hx hb dX2_lowestReady_46 (by decide) ?_
        exact ih2 (k + 1) (by omega) (show (k + 1) ≤ i from ((Nat.lt_or_ge k i).elim (fun a => by omega) (fun a => by exfalso; rw [show k = i from by omega] at z38; exact z38 (of_decide_eq_true h1)))) _ _ h _ (lv_sub hl [0, 1] rfl)
      · refine lv_iload_n hx hb dX2_lowestReady_41 rfl (lv_at hl 0 rfl) ?_
        exact q_reti C h rfl (by rw [show k = i from (Nat.lt_or_ge k i).elim (fun a => by have := h0 k a; simp [q_rd, z38] at this) (fun a => by omega)]) rfl dX2_lowestReady_42
  exact loop2 (nn - 0 + 1) 0 (Nat.lt_succ_self _) (show 0 ≤ i from (Nat.zero_le _)) _ _ h _ (lv_sub hl [0, 1] rfl)

set_option maxHeartbeats 4000000 in
set_option maxRecDepth 100000 in
theorem c_X2_peelWith (l : Launch) (G : vq_G) (o0 ae ao ab : Nat) (nn pk : Nat) (ps : Int64) (msk : Nat → Int64) (po : Nat → Nat) (pb : Nat → Int32) (i : Nat) (hi : i < 126) (hlow : (q_low (q_lf msk ps i)) < 38) (hpk : pk < 38) : vq_v l yX2_peelWith wsX2_peelWith 2 42 G [.ref o0, .int (nI i)] [(o0, .inr (2, [.ref ae, .int (nI nn), .ref ao, .ref ab, .int (nI pk), .long ps])), (ae, .inl (G.2.2, 126, .inr (.inl msk))), (ao, .inl (G.2.1, 38, .inl (fun zz => nI (po zz)))), (ab, .inl (G.2.1, 38, .inl pb))]  [(o0, .inr (2, [.ref ae, .int (nI nn), .ref ao, .ref ab, .int (nI (pk + 1)), .long (ps ||| (q_bit (q_low (q_lf msk ps i))))])), (ae, .inl (G.2.2, 126, .inr (.inl msk))), (ao, .inl (G.2.1, 38, .inl (fun zz => nI ((va_up po pk (q_low (q_lf msk ps i))) zz)))), (ab, .inl (G.2.1, 38, .inl (upd pb (q_low (q_lf msk ps i)) (nI i))))] := by
  refine vq_openv (cc := cX2_peelWith) (maxL := 3) (ret := none) (Ts' := wsX2_peelWith.tail) (by decide) rfl (Nat.le_of_ble_eq_true rfl) ?_
  intro p e s m args below meth c A ls C h hnm hl
  have hx := C.1.1
  have hb := C.1.2.1
  have hts := C.1.2.2.2.2
  have hl : lv_has ls 3 [(0, .ref o0), (1, .int (nI i))] := hl
  have f9 := C.1.2.2.2.2 (.fieldLink RX2 9 "FountainCode$Peeler" "equationSets" "[J") (by decide +kernel)
  have iX2 : ∀ w ∈ u_ws RX2 TX2 6, w ∈ wsX2_peelWith := by decide +kernel
  have f29 := C.1.2.2.2.2 (.fieldLink RX2 29 "FountainCode$Peeler" "peeledSet" "J") (by decide +kernel)
  have k47 := C.1.2.2.2.2 (.constantLong RX2 47 (-1)) (by decide +kernel)
  have iniX5 := C.1.2.2.2.2 (.initialized RX5) (by decide +kernel)
  have stX5_lowestOf := C.1.2.2.2.2 (.static yX5_lowestOf) (by decide +kernel)
  have f26 := C.1.2.2.2.2 (.fieldLink RX2 26 "FountainCode$Peeler" "peeledCount" "I") (by decide +kernel)
  have f15 := C.1.2.2.2.2 (.fieldLink RX2 15 "FountainCode$Peeler" "peelOrder" "[I") (by decide +kernel)
  have f19 := C.1.2.2.2.2 (.fieldLink RX2 19 "FountainCode$Peeler" "peelEquations" "[I") (by decide +kernel)
  have stX5_setOf := C.1.2.2.2.2 (.static yX5_setOf) (by decide +kernel)
  refine lv_iload_n hx hb dX2_peelWith_0 rfl (lv_at hl 1 rfl) ?_
  refine q_if_lt (tgt := 13) hx hb (by omega) dX2_peelWith_1 (by decide) (fun z1 => absurd z1 (by omega)) (fun z1 => ?_)
  refine lv_iload_n hx hb dX2_peelWith_4 rfl (lv_at hl 1 rfl) ?_
  refine lv_aload_n hx hb dX2_peelWith_5 rfl (lv_at hl 0 rfl) ?_
  refine q_get (Cn := RX2) (T := TX2) (N := 6) (ci := 2) (v := .ref ae) C h iX2 0 rfl rfl 0 (by decide) f9 rfl dX2_peelWith_6 ?_
  refine q_alenL (n := 126) C h 1 rfl dX2_peelWith_9 ?_
  refine q_icmp_lt (tgt := 14) hx hb (by omega) (by omega) dX2_peelWith_10 (by decide) (fun z10 => ?_) (fun z10 => absurd z10 (by omega))
  refine lv_aload_n hx hb dX2_peelWith_14 rfl (lv_at hl 0 rfl) ?_
  refine q_get (Cn := RX2) (T := TX2) (N := 6) (ci := 2) (v := .ref ae) C h iX2 0 rfl rfl 0 (by decide) f9 rfl dX2_peelWith_15 ?_
  refine lv_iload_n hx hb dX2_peelWith_18 rfl (lv_at hl 1 rfl) ?_
  refine q_lald (i := i) (v := msk i) C h 1 rfl (by omega) (by omega) rfl dX2_peelWith_19 ?_
  refine lv_aload_n hx hb dX2_peelWith_20 rfl (lv_at hl 0 rfl) ?_
  refine q_get (Cn := RX2) (T := TX2) (N := 6) (ci := 2) (v := .long ps) C h iX2 0 rfl rfl 5 (by decide) f29 rfl dX2_peelWith_21 ?_
  refine q_ldc2 C k47 dX2_peelWith_24 ?_
  refine lv_lxor hx hb dX2_peelWith_27 ?_
  refine lv_land hx hb dX2_peelWith_28 ?_
  refine q_top (v' := .long (q_lf msk ps i)) rfl ?_
  refine q_callNi C h (c_X5_lowestOf l G (q_lf msk ps i)) ⟨va_cnB 1 hts gX2_peelWith_X5_lowestOf_n55 rfl rfl rfl (C.2.2.1.at 8 rfl) iniX5 (by decide +kernel) ⟨Nat.le_of_ble_eq_true rfl, Nat.le_of_ble_eq_true rfl⟩, stX5_lowestOf, trivial⟩ [] rfl rfl [0, 1, 2, 3] (wr := [(o0, .inr (2, [.ref ae, .int (nI nn), .ref ao, .ref ab, .int (nI pk), .long ps])), (ae, .inl (G.2.2, 126, .inr (.inl msk))), (ao, .inl (G.2.1, 38, .inl (fun zz => nI (po zz)))), (ab, .inl (G.2.1, 38, .inl pb))]) rfl rfl (by decide) rfl hl.1 rfl (Nat.le_of_ble_eq_true rfl) dX2_peelWith_29 ⟨Nat.zero_le _, Nat.zero_le _⟩ [0, 1, 2, 3] (w' := [(o0, .inr (2, [.ref ae, .int (nI nn), .ref ao, .ref ab, .int (nI pk), .long ps])), (ae, .inl (G.2.2, 126, .inr (.inl msk))), (ao, .inl (G.2.1, 38, .inl (fun zz => nI (po zz)))), (ab, .inl (G.2.1, 38, .inl pb))]) rfl rfl (fun H locs h => ?_)
  refine lv_istore_n (lv' := [(2, .int (nI (q_low (q_lf msk ps i)))), (0, .ref o0), (1, .int (nI i))]) hx hb dX2_peelWith_32 rfl hl (by decide) rfl (fun ls hl => ?_)
  refine lv_iload_n hx hb dX2_peelWith_33 rfl (lv_at hl 0 rfl) ?_
  refine lv_bipush (v := nI 38) hx hb dX2_peelWith_34 (by decide) ?_
  refine q_icmp_ge (tgt := 55) hx hb (by omega) (by omega) dX2_peelWith_36 (by decide) (fun z36 => absurd z36 (by omega)) (fun z36 => ?_)
  refine lv_aload_n hx hb dX2_peelWith_39 rfl (lv_at hl 1 rfl) ?_
  refine q_get (Cn := RX2) (T := TX2) (N := 6) (ci := 2) (v := .int (nI pk)) C h iX2 0 rfl rfl 4 (by decide) f26 rfl dX2_peelWith_40 ?_
  refine q_if_lt (tgt := 55) hx hb (by omega) dX2_peelWith_43 (by decide) (fun z43 => absurd z43 (by omega)) (fun z43 => ?_)
  refine lv_aload_n hx hb dX2_peelWith_46 rfl (lv_at hl 1 rfl) ?_
  refine q_get (Cn := RX2) (T := TX2) (N := 6) (ci := 2) (v := .int (nI pk)) C h iX2 0 rfl rfl 4 (by decide) f26 rfl dX2_peelWith_47 ?_
  refine lv_bipush (v := nI 38) hx hb dX2_peelWith_50 (by decide) ?_
  refine q_icmp_lt (tgt := 56) hx hb (by omega) (by omega) dX2_peelWith_52 (by decide) (fun z52 => ?_) (fun z52 => absurd z52 (by omega))
  refine lv_aload_n hx hb dX2_peelWith_56 rfl (lv_at hl 1 rfl) ?_
  refine q_get (Cn := RX2) (T := TX2) (N := 6) (ci := 2) (v := .ref ao) C h iX2 0 rfl rfl 2 (by decide) f15 rfl dX2_peelWith_57 ?_
  refine lv_aload_n hx hb dX2_peelWith_60 rfl (lv_at hl 1 rfl) ?_
  refine q_get (Cn := RX2) (T := TX2) (N := 6) (ci := 2) (v := .int (nI pk)) C h iX2 0 rfl rfl 4 (by decide) f26 rfl dX2_peelWith_61 ?_
  refine lv_iload_n hx hb dX2_peelWith_64 rfl (lv_at hl 0 rfl) ?_
  refine q_iast (i := pk) (g := (fun zz => nI ((va_up po pk (q_low (q_lf msk ps i))) zz))) (w' := [(o0, .inr (2, [.ref ae, .int (nI nn), .ref ao, .ref ab, .int (nI pk), .long ps])), (ae, .inl (G.2.2, 126, .inr (.inl msk))), (ao, .inl (G.2.1, 38, .inl (fun zz => nI ((va_up po pk (q_low (q_lf msk ps i))) zz)))), (ab, .inl (G.2.1, 38, .inl pb))]) C h 2 rfl (by omega) (by omega) (q_upN _ _ _) rfl dX2_peelWith_65 (fun H locs h => ?_)
  refine lv_aload_n hx hb dX2_peelWith_66 rfl (lv_at hl 1 rfl) ?_
  refine q_get (Cn := RX2) (T := TX2) (N := 6) (ci := 2) (v := .ref ab) C h iX2 0 rfl rfl 3 (by decide) f19 rfl dX2_peelWith_67 ?_
  refine lv_iload_n hx hb dX2_peelWith_70 rfl (lv_at hl 0 rfl) ?_
  refine lv_iload_n hx hb dX2_peelWith_71 rfl (lv_at hl 2 rfl) ?_
  refine q_iast (i := q_low (q_lf msk ps i)) (g := upd pb (q_low (q_lf msk ps i)) (nI i)) (w' := [(o0, .inr (2, [.ref ae, .int (nI nn), .ref ao, .ref ab, .int (nI pk), .long ps])), (ae, .inl (G.2.2, 126, .inr (.inl msk))), (ao, .inl (G.2.1, 38, .inl (fun zz => nI ((va_up po pk (q_low (q_lf msk ps i))) zz)))), (ab, .inl (G.2.1, 38, .inl (upd pb (q_low (q_lf msk ps i)) (nI i))))]) C h 3 rfl (by omega) (by omega) rfl rfl dX2_peelWith_72 (fun H locs h => ?_)
  refine lv_aload_n hx hb dX2_peelWith_73 rfl (lv_at hl 1 rfl) ?_
  refine lv_dup hx hb dX2_peelWith_74 rfl ?_
  refine q_get (Cn := RX2) (T := TX2) (N := 6) (ci := 2) (v := .long ps) C h iX2 0 rfl rfl 5 (by decide) f29 rfl dX2_peelWith_75 ?_
  refine lv_iload_n hx hb dX2_peelWith_78 rfl (lv_at hl 0 rfl) ?_
  refine q_callNl C h (c_X5_setOf l G (q_low (q_lf msk ps i)) (by omega)) ⟨va_cnB 1 hts gX2_peelWith_X5_setOf_n58 rfl rfl rfl (C.2.2.1.at 9 rfl) iniX5 (by decide +kernel) ⟨Nat.le_of_ble_eq_true rfl, Nat.le_of_ble_eq_true rfl⟩, stX5_setOf, trivial⟩ [] rfl rfl [0, 1, 2, 3] (wr := [(o0, .inr (2, [.ref ae, .int (nI nn), .ref ao, .ref ab, .int (nI pk), .long ps])), (ae, .inl (G.2.2, 126, .inr (.inl msk))), (ao, .inl (G.2.1, 38, .inl (fun zz => nI ((va_up po pk (q_low (q_lf msk ps i))) zz)))), (ab, .inl (G.2.1, 38, .inl (upd pb (q_low (q_lf msk ps i)) (nI i))))]) rfl rfl (by decide) rfl hl.1 rfl (Nat.le_of_ble_eq_true rfl) dX2_peelWith_79 ⟨Nat.zero_le _, Nat.zero_le _⟩ [0, 1, 2, 3] (w' := [(o0, .inr (2, [.ref ae, .int (nI nn), .ref ao, .ref ab, .int (nI pk), .long ps])), (ae, .inl (G.2.2, 126, .inr (.inl msk))), (ao, .inl (G.2.1, 38, .inl (fun zz => nI ((va_up po pk (q_low (q_lf msk ps i))) zz)))), (ab, .inl (G.2.1, 38, .inl (upd pb (q_low (q_lf msk ps i)) (nI i))))]) rfl rfl (fun H locs h => ?_)
  refine lv_lor hx hb dX2_peelWith_82 ?_
  refine q_put (Cn := RX2) (T := TX2) (N := 6) (ci := 2) (v := .long (ps ||| (q_bit (q_low (q_lf msk ps i))))) (w' := [(o0, .inr (2, [.ref ae, .int (nI nn), .ref ao, .ref ab, .int (nI pk), .long (ps ||| (q_bit (q_low (q_lf msk ps i))))])), (ae, .inl (G.2.2, 126, .inr (.inl msk))), (ao, .inl (G.2.1, 38, .inl (fun zz => nI ((va_up po pk (q_low (q_lf msk ps i))) zz)))), (ab, .inl (G.2.1, 38, .inl (upd pb (q_low (q_lf msk ps i)) (nI i))))]) C h iX2 tyX2 tyX2_ok nmX2 0 rfl rfl 5 (by decide) f29 rfl rfl rfl (Nat.le_of_ble_eq_true rfl) dX2_peelWith_83 rfl (fun H locs h => ?_)
  refine lv_aload_n hx hb dX2_peelWith_86 rfl (lv_at hl 1 rfl) ?_
  refine lv_dup hx hb dX2_peelWith_87 rfl ?_
  refine q_get (Cn := RX2) (T := TX2) (N := 6) (ci := 2) (v := .int (nI pk)) C h iX2 0 rfl rfl 4 (by decide) f26 rfl dX2_peelWith_88 ?_
  refine lv_iconst (v := nI 1) hx hb dX2_peelWith_91 (by decide) ?_
  refine q_iadd hx hb dX2_peelWith_92 ?_
  refine q_put (Cn := RX2) (T := TX2) (N := 6) (ci := 2) (v := .int (nI (pk + 1))) (w' := [(o0, .inr (2, [.ref ae, .int (nI nn), .ref ao, .ref ab, .int (nI (pk + 1)), .long (ps ||| (q_bit (q_low (q_lf msk ps i))))])), (ae, .inl (G.2.2, 126, .inr (.inl msk))), (ao, .inl (G.2.1, 38, .inl (fun zz => nI ((va_up po pk (q_low (q_lf msk ps i))) zz)))), (ab, .inl (G.2.1, 38, .inl (upd pb (q_low (q_lf msk ps i)) (nI i))))]) C h iX2 tyX2 tyX2_ok nmX2 0 rfl rfl 4 (by decide) f26 rfl rfl rfl (Nat.le_of_ble_eq_true rfl) dX2_peelWith_93 rfl (fun H locs h => ?_)
  exact q_retv C h rfl rfl dX2_peelWith_96

set_option maxHeartbeats 4000000 in
set_option maxRecDepth 100000 in
theorem c_X2_peelOn (l : Launch) (G : vq_G) (o0 ae ao ab : Nat) (nn pk : Nat) (ps : Int64) (msk : Nat → Int64) (po : Nat → Nat) (pb : Nat → Int32) (hn : nn ≤ 126) (hM : ∀ i, i < nn → ∀ k, 38 ≤ k → tb (msk i) k = false) (hp : pk = q_pop ps 38) : vq_i l yX2_peelOn wsX2_peelOn 3 64 G [.ref o0] [(o0, .inr (2, [.ref ae, .int (nI nn), .ref ao, .ref ab, .int (nI pk), .long ps])), (ae, .inl (G.2.2, 126, .inr (.inl msk))), (ao, .inl (G.2.1, 38, .inl (fun zz => nI (po zz)))), (ab, .inl (G.2.1, 38, .inl pb))] (nI ((q_pn msk nn 38 (po, pb, pk, ps)).2.2.1 - pk)) [(o0, .inr (2, [.ref ae, .int (nI nn), .ref ao, .ref ab, .int (nI ((q_pn msk nn 38 (po, pb, pk, ps)).2.2.1)), .long ((q_pn msk nn 38 (po, pb, pk, ps)).2.2.2)])), (ae, .inl (G.2.2, 126, .inr (.inl msk))), (ao, .inl (G.2.1, 38, .inl (fun zz => nI ((q_pn msk nn 38 (po, pb, pk, ps)).1 zz)))), (ab, .inl (G.2.1, 38, .inl ((q_pn msk nn 38 (po, pb, pk, ps)).2.1)))] := by
  refine vq_openi (cc := cX2_peelOn) (maxL := 4) (ret := (some .int)) (Ts' := wsX2_peelOn.tail) (by decide) rfl (Nat.le_of_ble_eq_true rfl) ?_
  intro p e s m args below meth c A ls C h hnm hl
  have hx := C.1.1
  have hb := C.1.2.1
  have hts := C.1.2.2.2.2
  have hl : lv_has ls 4 [(0, .ref o0)] := hl
  have f26 := C.1.2.2.2.2 (.fieldLink RX2 26 "FountainCode$Peeler" "peeledCount" "I") (by decide +kernel)
  have iX2 : ∀ w ∈ u_ws RX2 TX2 6, w ∈ wsX2_peelOn := by decide +kernel
  refine lv_aload_n hx hb dX2_peelOn_0 rfl (lv_at hl 0 rfl) ?_
  refine q_get (Cn := RX2) (T := TX2) (N := 6) (ci := 2) (v := .int (nI pk)) C h iX2 0 rfl rfl 4 (by decide) f26 rfl dX2_peelOn_1 ?_
  refine lv_istore_n (lv' := [(1, .int (nI pk)), (0, .ref o0)]) hx hb dX2_peelOn_4 rfl hl (by decide) rfl (fun ls hl => ?_)
  refine lv_iconst (v := nI 0) hx hb dX2_peelOn_5 (by decide) ?_
  refine lv_istore_n (lv' := [(2, .int (nI 0)), (1, .int (nI pk)), (0, .ref o0)]) hx hb dX2_peelOn_6 rfl hl (by decide) rfl (fun ls hl => ?_)
  have loop7 : ∀ (fu : Nat) (k : Nat) (po1 : Nat → Nat) (pb1 : Nat → Int32) (pk1 : Nat) (ps1 : Int64), 38 - k < fu → (k ≤ 38) → (q_pn msk nn (38 - k) (po1, pb1, pk1, ps1) = (q_pn msk nn 38 (po, pb, pk, ps))) → (pk1 = q_pop ps1 38) → (pk ≤ pk1) → ∀ (H : Heap) (locs : List Loc), vq_H G A s [(o0, .inr (2, [.ref ae, .int (nI nn), .ref ao, .ref ab, .int (nI pk1), .long ps1])), (ae, .inl (G.2.2, 126, .inr (.inl msk))), (ao, .inl (G.2.1, 38, .inl (fun zz => nI (po1 zz)))), (ab, .inl (G.2.1, 38, .inl pb1))] H locs → ∀ (ls : Array Slot), lv_has ls 4 [(2, .int (nI k)), (1, .int (nI pk)), (0, .ref o0)] → W p l e ({ frames := 3, cells := 0, slots := 0, locals := 64 } : Room) s m args below meth c H locs 0 0 (MQ below (va_Qi (fun zr (_ : Unit) => zr = (nI ((q_pn msk nn 38 (po, pb, pk, ps)).2.2.1 - pk))) (fun _ => vq_T G A [(o0, .inr (2, [.ref ae, .int (nI nn), .ref ao, .ref ab, .int (nI ((q_pn msk nn 38 (po, pb, pk, ps)).2.2.1)), .long ((q_pn msk nn 38 (po, pb, pk, ps)).2.2.2)])), (ae, .inl (G.2.2, 126, .inr (.inl msk))), (ao, .inl (G.2.1, 38, .inl (fun zz => nI ((q_pn msk nn 38 (po, pb, pk, ps)).1 zz)))), (ab, .inl (G.2.1, 38, .inl ((q_pn msk nn 38 (po, pb, pk, ps)).2.1)))]) A) args s 0 0 A) (F0 m 7 ls []) := by
    intro fu
    induction fu with
    | zero => exact fun k po1 pb1 pk1 ps1 hm => absurd hm (Nat.not_lt_zero _)
    | succ fu ih =>
      intro k po1 pb1 pk1 ps1 hm7 hk he hp1 hle H locs h ls hl
      have ih7 := ih
      clear ih
      refine lv_iload_n hx hb dX2_peelOn_7 rfl (lv_at hl 0 rfl) ?_
      refine lv_bipush (v := nI 38) hx hb dX2_peelOn_8 (by decide) ?_
      refine q_icmp_ge (tgt := 37) hx hb (by omega) (by omega) dX2_peelOn_10 (by decide) (fun z10 => ?_) (fun z10 => ?_)
      · have e : (q_pn msk nn 38 (po, pb, pk, ps)) = (po1, pb1, pk1, ps1) := by rw [← he, show 38 - k = 0 from by omega]; rfl
        refine lv_aload_n hx hb dX2_peelOn_37 rfl (lv_at hl 2 rfl) ?_
        refine q_get (Cn := RX2) (T := TX2) (N := 6) (ci := 2) (v := .int (nI pk1)) C h iX2 0 rfl rfl 4 (by decide) f26 rfl dX2_peelOn_38 ?_
        refine lv_iload_n hx hb dX2_peelOn_41 rfl (lv_at hl 1 rfl) ?_
        refine q_isub hx hb (by omega) dX2_peelOn_42 ?_
        exact q_reti C h rfl (by simp only [e]) (by simp only [e]) dX2_peelOn_43
      · have hi126 : ∀ i, q_fr (q_rd msk ps1) nn = some i → i < 126 := fun i hf => by have := (q_fr_some hf).1; omega
        refine lv_aload_n hx hb dX2_peelOn_13 rfl (lv_at hl 2 rfl) ?_
        rcases hf : q_fr (q_rd msk ps1) nn with _ | i
        · refine q_callVi C h (c_X2_lowestReady_n l G o0 ae ao ab nn pk1 ps1 msk po1 pb1 (by omega) (q_fr_none hf)) (cwV 0 hts gX2_peelOn_X2_lowestReady rfl rfl rfl (by decide +kernel) ⟨Nat.le_of_ble_eq_true rfl, Nat.le_of_ble_eq_true rfl⟩) [0, 1, 2, 3] rfl rfl [] (wr := []) rfl rfl (by decide) 0 rfl rfl rfl hl.1 rfl (Nat.le_of_ble_eq_true rfl) dX2_peelOn_14 ⟨Nat.zero_le _, Nat.zero_le _⟩ [0, 1, 2, 3] (w' := [(o0, .inr (2, [.ref ae, .int (nI nn), .ref ao, .ref ab, .int (nI pk1), .long ps1])), (ae, .inl (G.2.2, 126, .inr (.inl msk))), (ao, .inl (G.2.1, 38, .inl (fun zz => nI (po1 zz)))), (ab, .inl (G.2.1, 38, .inl pb1))]) rfl rfl (fun H locs h => ?_)
          refine lv_istore_n (lv' := [(3, .int (-1)), (2, .int (nI k)), (1, .int (nI pk)), (0, .ref o0)]) hx hb dX2_peelOn_17 rfl hl (by decide) rfl (fun ls hl => ?_)
          refine lv_iload_n hx hb dX2_peelOn_18 rfl (lv_at hl 0 rfl) ?_
          refine lv_iconst (v := (-1)) hx hb dX2_peelOn_19 (by decide) ?_
          refine lv_icmp_ne (tgt := 26) hx hb dX2_peelOn_20 (by decide) (fun z20 => absurd z20 (fun h => h rfl)) (fun z20 => ?_)
          have e : (q_pn msk nn 38 (po, pb, pk, ps)) = (po1, pb1, pk1, ps1) := by rw [← he, show 38 - k = (38 - (k + 1)) + 1 from by omega]; simp only [q_pn, hf]
          refine lv_goto (tgt := 37) hx hb dX2_peelOn_23 (by decide) ?_
          refine lv_aload_n hx hb dX2_peelOn_37 rfl (lv_at hl 3 rfl) ?_
          refine q_get (Cn := RX2) (T := TX2) (N := 6) (ci := 2) (v := .int (nI pk1)) C h iX2 0 rfl rfl 4 (by decide) f26 rfl dX2_peelOn_38 ?_
          refine lv_iload_n hx hb dX2_peelOn_41 rfl (lv_at hl 2 rfl) ?_
          refine q_isub hx hb (by omega) dX2_peelOn_42 ?_
          exact q_reti C h rfl (by simp only [e]) (by simp only [e]) dX2_peelOn_43
        · refine q_callVi C h (c_X2_lowestReady_s l G o0 ae ao ab nn pk1 ps1 msk po1 pb1 i (by omega) (q_fr_some hf).1 (q_fr_some hf).2.1 (q_fr_some hf).2.2) (cwV 0 hts gX2_peelOn_X2_lowestReady rfl rfl rfl (by decide +kernel) ⟨Nat.le_of_ble_eq_true rfl, Nat.le_of_ble_eq_true rfl⟩) [0, 1, 2, 3] rfl rfl [] (wr := []) rfl rfl (by decide) 0 rfl rfl rfl hl.1 rfl (Nat.le_of_ble_eq_true rfl) dX2_peelOn_14 ⟨Nat.zero_le _, Nat.zero_le _⟩ [0, 1, 2, 3] (w' := [(o0, .inr (2, [.ref ae, .int (nI nn), .ref ao, .ref ab, .int (nI pk1), .long ps1])), (ae, .inl (G.2.2, 126, .inr (.inl msk))), (ao, .inl (G.2.1, 38, .inl (fun zz => nI (po1 zz)))), (ab, .inl (G.2.1, 38, .inl pb1))]) rfl rfl (fun H locs h => ?_)
          refine lv_istore_n (lv' := [(3, .int (nI i)), (2, .int (nI k)), (1, .int (nI pk)), (0, .ref o0)]) hx hb dX2_peelOn_17 rfl hl (by decide) rfl (fun ls hl => ?_)
          refine lv_iload_n hx hb dX2_peelOn_18 rfl (lv_at hl 0 rfl) ?_
          refine lv_iconst (v := (-1)) hx hb dX2_peelOn_19 (by decide) ?_
          refine lv_icmp_ne (tgt := 26) hx hb dX2_peelOn_20 (by decide) (fun z20 => ?_) (fun z20 => absurd z20 (q_nI_m1 (by have := hi126 i hf; omega)))
          have hr := q_ready hM (q_fr_some hf).1 (q_fr_some hf).2.1
          refine lv_aload_n hx hb dX2_peelOn_26 rfl (lv_at hl 3 rfl) ?_
          refine lv_iload_n hx hb dX2_peelOn_27 rfl (lv_at hl 0 rfl) ?_
          refine q_callVv C h (c_X2_peelWith l G o0 ae ao ab nn pk1 ps1 msk po1 pb1 i (hi126 i hf) hr.1 (by have := q_pop_lt hr.2 38 hr.1; omega)) (cwV 1 hts gX2_peelOn_X2_peelWith rfl rfl rfl (by decide +kernel) ⟨Nat.le_of_ble_eq_true rfl, Nat.le_of_ble_eq_true rfl⟩) [0, 1, 2, 3] rfl rfl [] (wr := []) rfl rfl (by decide) 0 rfl rfl rfl hl.1 rfl (Nat.le_of_ble_eq_true rfl) dX2_peelOn_28 ⟨Nat.zero_le _, Nat.zero_le _⟩ [0, 1, 2, 3] (w' := [(o0, .inr (2, [.ref ae, .int (nI nn), .ref ao, .ref ab, .int (nI (pk1 + 1)), .long (ps1 ||| (q_bit (q_low (q_lf msk ps1 i))))])), (ae, .inl (G.2.2, 126, .inr (.inl msk))), (ao, .inl (G.2.1, 38, .inl (fun zz => nI ((va_up po1 pk1 (q_low (q_lf msk ps1 i))) zz)))), (ab, .inl (G.2.1, 38, .inl (upd pb1 (q_low (q_lf msk ps1 i)) (nI i))))]) rfl rfl (fun H locs h => ?_)
          refine lv_iinc (v := nI (k + 1)) (lv' := [(2, .int (nI (k + 1))), (3, .int (nI i)), (1, .int (nI pk)), (0, .ref o0)]) hx hb dX2_peelOn_31 hl (k := 1) rfl (q_inc k) (by decide) rfl (fun ls hl => ?_)
          refine lv_goto (tgt := 7) hx hb dX2_peelOn_34 (by decide) ?_
          exact ih7 (k + 1) (va_up po1 pk1 (q_low (q_lf msk ps1 i))) (upd pb1 (q_low (q_lf msk ps1 i)) (nI i)) (pk1 + 1) (ps1 ||| (q_bit (q_low (q_lf msk ps1 i)))) (by omega) (show (k + 1) ≤ 38 from (by omega)) (show q_pn msk nn (38 - (k + 1)) ((va_up po1 pk1 (q_low (q_lf msk ps1 i))), (upd pb1 (q_low (q_lf msk ps1 i)) (nI i)), (pk1 + 1), (ps1 ||| (q_bit (q_low (q_lf msk ps1 i))))) = (q_pn msk nn 38 (po, pb, pk, ps)) from (by rw [← he, show 38 - k = (38 - (k + 1)) + 1 from by omega]; simp only [q_pn, hf, q_ps1])) (show (pk1 + 1) = q_pop (ps1 ||| (q_bit (q_low (q_lf msk ps1 i)))) 38 from (by rw [q_pop_set (by omega) hr.2 38 hr.1, ← hp1])) (show pk ≤ (pk1 + 1) from (by omega)) _ _ h _ (lv_sub hl [0, 2, 3] rfl)
  exact loop7 (38 - 0 + 1) 0 po pb pk ps (Nat.lt_succ_self _) (show 0 ≤ 38 from (Nat.zero_le _)) (show q_pn msk nn (38 - 0) (po, pb, pk, ps) = (q_pn msk nn 38 (po, pb, pk, ps)) from rfl) (show pk = q_pop ps 38 from hp) (show pk ≤ pk from (Nat.le_refl _)) _ _ h _ (lv_sub hl [0, 1, 2] rfl)

set_option maxHeartbeats 4000000 in
set_option maxRecDepth 100000 in
theorem c_X1_addEquation (l : Launch) (G : vq_G) (o0 ar av : Nat) (rows : Nat → Int64) (rv : Nat → Int32) (rk : Nat) (x : Int64) (v : Int32) : vq_v l yX1_addEquation wsX1_addEquation 3 67 G [.ref o0, .long x, .int v] [(o0, .inr (1, [.ref ar, .ref av, .int (nI rk)])), (ar, .inl (G.2.2, 38, .inr (.inl rows))), (av, .inl (G.2.1, 38, .inl rv))]  [(o0, .inr (1, [.ref ar, .ref av, .int (nI (q_addK (q_rem rows x 38) rk))])), (ar, .inl (G.2.2, 38, .inr (.inl (q_addR rows (q_rem rows x 38))))), (av, .inl (G.2.1, 38, .inl (q_addV rows rv (q_rem rows x 38) (v ^^^ (q_kv rv x 38)))))] := by
  refine vq_openv (cc := cX1_addEquation) (maxL := 9) (ret := none) (Ts' := wsX1_addEquation.tail) (by decide) rfl (Nat.le_of_ble_eq_true rfl) ?_
  intro p e s m args below meth c A ls C h hnm hl
  have hx := C.1.1
  have hb := C.1.2.1
  have hts := C.1.2.2.2.2
  have hl : lv_has ls 9 [(0, .ref o0), (1, .long x), (3, .int v)] := hl
  have iniX5 := C.1.2.2.2.2 (.initialized RX5) (by decide +kernel)
  have stX5_lowestOf := C.1.2.2.2.2 (.static yX5_lowestOf) (by decide +kernel)
  have f9 := C.1.2.2.2.2 (.fieldLink RX1 9 "FountainCode$Elimination" "rows" "[J") (by decide +kernel)
  have iX1 : ∀ w ∈ u_ws RX1 TX1 3, w ∈ wsX1_addEquation := by decide +kernel
  have f15 := C.1.2.2.2.2 (.fieldLink RX1 15 "FountainCode$Elimination" "values" "[I") (by decide +kernel)
  have f19 := C.1.2.2.2.2 (.fieldLink RX1 19 "FountainCode$Elimination" "rowCount" "I") (by decide +kernel)
  have stX5_holds := C.1.2.2.2.2 (.static yX5_holds) (by decide +kernel)
  refine lv_aload_n hx hb dX1_addEquation_0 rfl (lv_at hl 0 rfl) ?_
  refine lv_lload_n hx hb dX1_addEquation_1 rfl (lv_at hl 1 rfl) ?_
  refine q_callVl C h (c_X1_remainder l G o0 ar av rows rv rk x) (cwV 1 hts gX1_addEquation_X1_remainder rfl rfl rfl (by decide +kernel) ⟨Nat.le_of_ble_eq_true rfl, Nat.le_of_ble_eq_true rfl⟩) [0, 1, 2] rfl rfl [] (wr := []) rfl rfl (by decide) 0 rfl rfl rfl hl.1 rfl (Nat.le_of_ble_eq_true rfl) dX1_addEquation_2 ⟨Nat.zero_le _, Nat.zero_le _⟩ [0, 1, 2] (w' := [(o0, .inr (1, [.ref ar, .ref av, .int (nI rk)])), (ar, .inl (G.2.2, 38, .inr (.inl rows))), (av, .inl (G.2.1, 38, .inl rv))]) rfl rfl (fun H locs h => ?_)
  refine lv_lstore (lv' := [(4, .long (q_rem rows x 38)), (0, .ref o0), (1, .long x), (3, .int v)]) hx hb dX1_addEquation_5 hl (by decide) rfl (fun ls hl => ?_)
  refine lv_lload hx hb dX1_addEquation_7 (lv_at hl 0 rfl) ?_
  refine q_callNi C h (c_X5_lowestOf l G (q_rem rows x 38)) ⟨va_cnB 1 hts gX1_addEquation_X5_lowestOf_n48 rfl rfl rfl (C.2.2.1.at 7 rfl) iniX5 (by decide +kernel) ⟨Nat.le_of_ble_eq_true rfl, Nat.le_of_ble_eq_true rfl⟩, stX5_lowestOf, trivial⟩ [] rfl rfl [0, 1, 2] (wr := [(o0, .inr (1, [.ref ar, .ref av, .int (nI rk)])), (ar, .inl (G.2.2, 38, .inr (.inl rows))), (av, .inl (G.2.1, 38, .inl rv))]) rfl rfl (by decide) rfl hl.1 rfl (Nat.le_of_ble_eq_true rfl) dX1_addEquation_9 ⟨Nat.zero_le _, Nat.zero_le _⟩ [0, 1, 2] (w' := [(o0, .inr (1, [.ref ar, .ref av, .int (nI rk)])), (ar, .inl (G.2.2, 38, .inr (.inl rows))), (av, .inl (G.2.1, 38, .inl rv))]) rfl rfl (fun H locs h => ?_)
  refine lv_istore (lv' := [(6, .int (nI (q_low (q_rem rows x 38)))), (4, .long (q_rem rows x 38)), (0, .ref o0), (1, .long x), (3, .int v)]) hx hb dX1_addEquation_12 hl (by decide) rfl (fun ls hl => ?_)
  refine lv_lload hx hb dX1_addEquation_14 (lv_at hl 1 rfl) ?_
  refine lv_lconst (v := 0) hx hb dX1_addEquation_16 (by decide) ?_
  refine q_lif_eq (tgt := 28) hx hb dX1_addEquation_17 dX1_addEquation_18 (by decide) (fun z18 => ?_) (fun z18 => ?_)
  · exact q_retv C h rfl (by have en : q_new (q_rem rows x 38) = false := (by first | simp [q_new, z18, Nat.not_lt.mpr z25] | simp [q_new, z18]); simp [q_addR, q_addV, q_addK, en]) dX1_addEquation_28
  · refine lv_iload hx hb dX1_addEquation_21 (lv_at hl 0 rfl) ?_
    refine lv_bipush (v := nI 38) hx hb dX1_addEquation_23 (by decide) ?_
    refine q_icmp_lt (tgt := 29) hx hb (Nat.lt_of_le_of_lt (q_low_le (q_rem rows x 38)) (by decide)) (by omega) dX1_addEquation_25 (by decide) (fun z25 => ?_) (fun z25 => ?_)
    · refine lv_iload_n hx hb dX1_addEquation_29 rfl (lv_at hl 4 rfl) ?_
      refine lv_aload_n hx hb dX1_addEquation_30 rfl (lv_at hl 2 rfl) ?_
      refine lv_lload_n hx hb dX1_addEquation_31 rfl (lv_at hl 3 rfl) ?_
      refine q_callVi C h (c_X1_knownValue l G o0 ar av rows rv rk x) (cwV 1 hts gX1_addEquation_X1_knownValue rfl rfl rfl (by decide +kernel) ⟨Nat.le_of_ble_eq_true rfl, Nat.le_of_ble_eq_true rfl⟩) [0, 1, 2] rfl rfl [] (wr := []) rfl rfl (by decide) 0 rfl rfl rfl hl.1 rfl (Nat.le_of_ble_eq_true rfl) dX1_addEquation_32 ⟨Nat.zero_le _, Nat.zero_le _⟩ [0, 1, 2] (w' := [(o0, .inr (1, [.ref ar, .ref av, .int (nI rk)])), (ar, .inl (G.2.2, 38, .inr (.inl rows))), (av, .inl (G.2.1, 38, .inl rv))]) rfl rfl (fun H locs h => ?_)
      refine lv_ixor hx hb dX1_addEquation_35 ?_
      refine lv_istore (lv' := [(7, .int (v ^^^ (q_kv rv x 38))), (6, .int (nI (q_low (q_rem rows x 38)))), (4, .long (q_rem rows x 38)), (0, .ref o0), (1, .long x), (3, .int v)]) hx hb dX1_addEquation_36 hl (by decide) rfl (fun ls hl => ?_)
      refine lv_iconst (v := nI 0) hx hb dX1_addEquation_38 (by decide) ?_
      refine lv_istore (lv' := [(8, .int (nI 0)), (7, .int (v ^^^ (q_kv rv x 38))), (6, .int (nI (q_low (q_rem rows x 38)))), (4, .long (q_rem rows x 38)), (0, .ref o0), (1, .long x), (3, .int v)]) hx hb dX1_addEquation_39 hl (by decide) rfl (fun ls hl => ?_)
      have loop41 : ∀ (fu : Nat) (k : Nat) (f : Nat → Int64) (g : Nat → Int32), 38 - k < fu → f = q_elR rows (q_rem rows x 38) (q_low (q_rem rows x 38)) k → g = q_elV rows rv (v ^^^ (q_kv rv x 38)) (q_low (q_rem rows x 38)) k → (k ≤ 38) → ∀ (H : Heap) (locs : List Loc), vq_H G A s [(o0, .inr (1, [.ref ar, .ref av, .int (nI rk)])), (ar, .inl (G.2.2, 38, .inr (.inl f))), (av, .inl (G.2.1, 38, .inl g))] H locs → ∀ (ls : Array Slot), lv_has ls 9 [(8, .int (nI k)), (7, .int (v ^^^ (q_kv rv x 38))), (6, .int (nI (q_low (q_rem rows x 38)))), (4, .long (q_rem rows x 38)), (0, .ref o0), (1, .long x), (3, .int v)] → W p l e ({ frames := 3, cells := 0, slots := 0, locals := 67 } : Room) s m args below meth c H locs 0 0 (MQ below (va_Qv (fun (_ : Unit) => True) (fun _ => vq_T G A [(o0, .inr (1, [.ref ar, .ref av, .int (nI (q_addK (q_rem rows x 38) rk))])), (ar, .inl (G.2.2, 38, .inr (.inl (q_addR rows (q_rem rows x 38))))), (av, .inl (G.2.1, 38, .inl (q_addV rows rv (q_rem rows x 38) (v ^^^ (q_kv rv x 38)))))]) A) args s 0 0 A) (F0 m 41 ls []) := by
        intro fu
        induction fu with
        | zero => exact fun k f g hm => absurd hm (Nat.not_lt_zero _)
        | succ fu ih =>
          intro k f g hm41 e_f e_g hk H locs h ls hl
          have ih41 := ih
          clear ih
          refine lv_iload hx hb dX1_addEquation_41 (lv_at hl 0 rfl) ?_
          refine lv_bipush (v := nI 38) hx hb dX1_addEquation_43 (by decide) ?_
          refine q_icmp_ge (tgt := 93) hx hb (by omega) (by omega) dX1_addEquation_45 (by decide) (fun z45 => ?_) (fun z45 => ?_)
          · refine lv_aload_n hx hb dX1_addEquation_93 rfl (lv_at hl 4 rfl) ?_
            refine q_get (Cn := RX1) (T := TX1) (N := 3) (ci := 1) (v := .ref ar) C h iX1 0 rfl rfl 0 (by decide) f9 rfl dX1_addEquation_94 ?_
            refine lv_iload hx hb dX1_addEquation_97 (lv_at hl 2 rfl) ?_
            refine lv_lload hx hb dX1_addEquation_99 (lv_at hl 3 rfl) ?_
            refine q_last (i := q_low (q_rem rows x 38)) (g := vp_updL f (q_low (q_rem rows x 38)) (q_rem rows x 38)) (w' := [(o0, .inr (1, [.ref ar, .ref av, .int (nI rk)])), (ar, .inl (G.2.2, 38, .inr (.inl (vp_updL f (q_low (q_rem rows x 38)) (q_rem rows x 38))))), (av, .inl (G.2.1, 38, .inl g))]) C h 1 rfl (by omega) (by omega) rfl rfl dX1_addEquation_101 (fun H locs h => ?_)
            refine lv_aload_n hx hb dX1_addEquation_102 rfl (lv_at hl 4 rfl) ?_
            refine q_get (Cn := RX1) (T := TX1) (N := 3) (ci := 1) (v := .ref av) C h iX1 0 rfl rfl 1 (by decide) f15 rfl dX1_addEquation_103 ?_
            refine lv_iload hx hb dX1_addEquation_106 (lv_at hl 2 rfl) ?_
            refine lv_iload hx hb dX1_addEquation_108 (lv_at hl 1 rfl) ?_
            refine q_iast (i := q_low (q_rem rows x 38)) (g := upd g (q_low (q_rem rows x 38)) (v ^^^ (q_kv rv x 38))) (w' := [(o0, .inr (1, [.ref ar, .ref av, .int (nI rk)])), (ar, .inl (G.2.2, 38, .inr (.inl (vp_updL f (q_low (q_rem rows x 38)) (q_rem rows x 38))))), (av, .inl (G.2.1, 38, .inl (upd g (q_low (q_rem rows x 38)) (v ^^^ (q_kv rv x 38)))))]) C h 2 rfl (by omega) (by omega) rfl rfl dX1_addEquation_110 (fun H locs h => ?_)
            refine lv_aload_n hx hb dX1_addEquation_111 rfl (lv_at hl 4 rfl) ?_
            refine lv_dup hx hb dX1_addEquation_112 rfl ?_
            refine q_get (Cn := RX1) (T := TX1) (N := 3) (ci := 1) (v := .int (nI rk)) C h iX1 0 rfl rfl 2 (by decide) f19 rfl dX1_addEquation_113 ?_
            refine lv_iconst (v := nI 1) hx hb dX1_addEquation_116 (by decide) ?_
            refine q_iadd hx hb dX1_addEquation_117 ?_
            refine q_put (Cn := RX1) (T := TX1) (N := 3) (ci := 1) (v := .int (nI (rk + 1))) (w' := [(o0, .inr (1, [.ref ar, .ref av, .int (nI (rk + 1))])), (ar, .inl (G.2.2, 38, .inr (.inl (vp_updL f (q_low (q_rem rows x 38)) (q_rem rows x 38))))), (av, .inl (G.2.1, 38, .inl (upd g (q_low (q_rem rows x 38)) (v ^^^ (q_kv rv x 38)))))]) C h iX1 tyX1 tyX1_ok nmX1 0 rfl rfl 2 (by decide) f19 rfl rfl rfl (Nat.le_of_ble_eq_true rfl) dX1_addEquation_118 rfl (fun H locs h => ?_)
            exact q_retv C h rfl (by have en : q_new (q_rem rows x 38) = true := (by simp [q_new, z18, z25]); rw [e_f, e_g, show k = 38 from by omega]; simp [q_addR, q_addV, q_addK, en]) dX1_addEquation_121
          · refine lv_aload_n hx hb dX1_addEquation_48 rfl (lv_at hl 4 rfl) ?_
            refine q_get (Cn := RX1) (T := TX1) (N := 3) (ci := 1) (v := .ref ar) C h iX1 0 rfl rfl 0 (by decide) f9 rfl dX1_addEquation_49 ?_
            refine lv_iload hx hb dX1_addEquation_52 (lv_at hl 0 rfl) ?_
            refine q_lald (i := k) (v := f k) C h 1 rfl (by omega) (by omega) rfl dX1_addEquation_54 ?_
            refine lv_iload hx hb dX1_addEquation_55 (lv_at hl 2 rfl) ?_
            refine q_callNi C h (c_X5_holds l G (f k) (q_low (q_rem rows x 38)) (by omega)) ⟨va_cnB 2 hts gX1_addEquation_X5_holds_n32 rfl rfl rfl (C.2.2.1.at 6 rfl) iniX5 (by decide +kernel) ⟨Nat.le_of_ble_eq_true rfl, Nat.le_of_ble_eq_true rfl⟩, stX5_holds, trivial⟩ [] rfl rfl [0, 1, 2] (wr := [(o0, .inr (1, [.ref ar, .ref av, .int (nI rk)])), (ar, .inl (G.2.2, 38, .inr (.inl f))), (av, .inl (G.2.1, 38, .inl g))]) rfl rfl (by decide) rfl hl.1 rfl (Nat.le_of_ble_eq_true rfl) dX1_addEquation_57 ⟨Nat.zero_le _, Nat.zero_le _⟩ [0, 1, 2] (w' := [(o0, .inr (1, [.ref ar, .ref av, .int (nI rk)])), (ar, .inl (G.2.2, 38, .inr (.inl f))), (av, .inl (G.2.1, 38, .inl g))]) rfl rfl (fun H locs h => ?_)
            refine q_ifb_eq (tgt := 87) hx hb dX1_addEquation_60 (by decide) (fun z60 => ?_) (fun z60 => ?_)
            · refine lv_iinc (v := nI (k + 1)) (lv' := [(8, .int (nI (k + 1))), (7, .int (v ^^^ (q_kv rv x 38))), (6, .int (nI (q_low (q_rem rows x 38)))), (4, .long (q_rem rows x 38)), (0, .ref o0), (1, .long x), (3, .int v)]) hx hb dX1_addEquation_87 hl (k := 0) rfl (q_inc k) (by decide) rfl (fun ls hl => ?_)
              refine lv_goto (tgt := 41) hx hb dX1_addEquation_90 (by decide) ?_
              exact ih41 (k + 1) f g (by omega) (show f = q_elR rows (q_rem rows x 38) (q_low (q_rem rows x 38)) (k + 1) from (by subst e_f; first | exact q_elR_1 z60 | exact q_elR_2 z60)) (show g = q_elV rows rv (v ^^^ (q_kv rv x 38)) (q_low (q_rem rows x 38)) (k + 1) from (by subst e_f; subst e_g; first | exact q_elV_1 z60 | exact q_elV_2 z60)) (show (k + 1) ≤ 38 from (by omega)) _ _ h _ (lv_sub hl [0, 1, 2, 3, 4, 5, 6] rfl)
            · refine lv_aload_n hx hb dX1_addEquation_63 rfl (lv_at hl 4 rfl) ?_
              refine q_get (Cn := RX1) (T := TX1) (N := 3) (ci := 1) (v := .ref ar) C h iX1 0 rfl rfl 0 (by decide) f9 rfl dX1_addEquation_64 ?_
              refine lv_iload hx hb dX1_addEquation_67 (lv_at hl 0 rfl) ?_
              refine lv_dup2_11 hx hb dX1_addEquation_69 rfl rfl ?_
              refine q_lald (i := k) (v := f k) C h 1 rfl (by omega) (by omega) rfl dX1_addEquation_70 ?_
              refine lv_lload hx hb dX1_addEquation_71 (lv_at hl 3 rfl) ?_
              refine lv_lxor hx hb dX1_addEquation_73 ?_
              refine q_last (i := k) (g := vp_updL f k ((f k) ^^^ (q_rem rows x 38))) (w' := [(o0, .inr (1, [.ref ar, .ref av, .int (nI rk)])), (ar, .inl (G.2.2, 38, .inr (.inl (vp_updL f k ((f k) ^^^ (q_rem rows x 38)))))), (av, .inl (G.2.1, 38, .inl g))]) C h 1 rfl (by omega) (by omega) rfl rfl dX1_addEquation_74 (fun H locs h => ?_)
              refine lv_aload_n hx hb dX1_addEquation_75 rfl (lv_at hl 4 rfl) ?_
              refine q_get (Cn := RX1) (T := TX1) (N := 3) (ci := 1) (v := .ref av) C h iX1 0 rfl rfl 1 (by decide) f15 rfl dX1_addEquation_76 ?_
              refine lv_iload hx hb dX1_addEquation_79 (lv_at hl 0 rfl) ?_
              refine lv_dup2_11 hx hb dX1_addEquation_81 rfl rfl ?_
              refine q_iald (i := k) (v := (g k)) C h 2 rfl (by omega) (by omega) rfl dX1_addEquation_82 ?_
              refine lv_iload hx hb dX1_addEquation_83 (lv_at hl 1 rfl) ?_
              refine lv_ixor hx hb dX1_addEquation_85 ?_
              refine q_iast (i := k) (g := upd g k ((g k) ^^^ (v ^^^ (q_kv rv x 38)))) (w' := [(o0, .inr (1, [.ref ar, .ref av, .int (nI rk)])), (ar, .inl (G.2.2, 38, .inr (.inl (vp_updL f k ((f k) ^^^ (q_rem rows x 38)))))), (av, .inl (G.2.1, 38, .inl (upd g k ((g k) ^^^ (v ^^^ (q_kv rv x 38))))))]) C h 2 rfl (by omega) (by omega) rfl rfl dX1_addEquation_86 (fun H locs h => ?_)
              refine lv_iinc (v := nI (k + 1)) (lv' := [(8, .int (nI (k + 1))), (7, .int (v ^^^ (q_kv rv x 38))), (6, .int (nI (q_low (q_rem rows x 38)))), (4, .long (q_rem rows x 38)), (0, .ref o0), (1, .long x), (3, .int v)]) hx hb dX1_addEquation_87 hl (k := 0) rfl (q_inc k) (by decide) rfl (fun ls hl => ?_)
              refine lv_goto (tgt := 41) hx hb dX1_addEquation_90 (by decide) ?_
              exact ih41 (k + 1) (vp_updL f k ((f k) ^^^ (q_rem rows x 38))) (upd g k ((g k) ^^^ (v ^^^ (q_kv rv x 38)))) (by omega) (show (vp_updL f k ((f k) ^^^ (q_rem rows x 38))) = q_elR rows (q_rem rows x 38) (q_low (q_rem rows x 38)) (k + 1) from (by subst e_f; first | exact q_elR_1 z60 | exact q_elR_2 z60)) (show (upd g k ((g k) ^^^ (v ^^^ (q_kv rv x 38)))) = q_elV rows rv (v ^^^ (q_kv rv x 38)) (q_low (q_rem rows x 38)) (k + 1) from (by subst e_f; subst e_g; first | exact q_elV_1 z60 | exact q_elV_2 z60)) (show (k + 1) ≤ 38 from (by omega)) _ _ h _ (lv_sub hl [0, 1, 2, 3, 4, 5, 6] rfl)
      exact loop41 (38 - 0 + 1) 0 rows rv (Nat.lt_succ_self _) (show rows = q_elR rows (q_rem rows x 38) (q_low (q_rem rows x 38)) 0 from (q_elR_0 rows (q_rem rows x 38) (q_low (q_rem rows x 38)))) (show rv = q_elV rows rv (v ^^^ (q_kv rv x 38)) (q_low (q_rem rows x 38)) 0 from (q_elV_0 rows rv (v ^^^ (q_kv rv x 38)) (q_low (q_rem rows x 38)))) (show 0 ≤ 38 from (Nat.zero_le _)) _ _ h _ (lv_sub hl [0, 1, 2, 3, 4, 5, 6] rfl)
    · exact q_retv C h rfl (by have en : q_new (q_rem rows x 38) = false := (by first | simp [q_new, z18, Nat.not_lt.mpr z25] | simp [q_new, z18]); simp [q_addR, q_addV, q_addK, en]) dX1_addEquation_28
