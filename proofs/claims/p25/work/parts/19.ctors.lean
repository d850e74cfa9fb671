/-! the constructors: laid by wip/whole/genc.py -/
theorem q_pn_0 (msk : Nat → Int64) (f : Nat) (s : q_PS) : q_pn msk 0 f s = s := by
  cases f with
  | zero => rfl
  | succ f => rfl

set_option maxHeartbeats 4000000 in
set_option maxRecDepth 100000 in
theorem c_X0_init (l : Launch) (G : vq_G) (o0 : Nat) : vq_c false l yX0_init wsX0_init 1 12 1 38 G [.ref o0] [(o0, .inr (0, [.null, .long 0, .int (nI 0), .long 0]))] (fun (ux : Nat) => [(o0, .inr (0, [.ref ux, .long 0, .int (nI 0), .long 0])), (ux, .inl (G.2.1, 38, .inl (fun zz => nI ((fun _ => 0) zz))))]) := by
  refine vq_openc (cc := cX0_init) (maxL := 1) (ret := none) (Ts' := wsX0_init.tail) (by decide) rfl (Nat.le_of_ble_eq_true rfl) ?_
  intro p e s m args below meth c A ls C h hnm hE hl
  have hx := C.1.1
  have hb := C.1.2.1
  have hts := C.1.2.2.2.2
  have hl : lv_has ls 1 [(0, .ref o0)] := hl
  have oi1 := C.1.2.2.2.2 (.methodLink RX0 3 objectInit) (by decide +kernel)
  have oi2 := C.1.2.2.2.2 (.instanceMethod objectInit) (by decide +kernel)
  have acint := C.1.2.2.2.2 (.arrayClass .int) (by decide +kernel)
  have f9 := C.1.2.2.2.2 (.fieldLink RX0 9 "FountainCode$Drop" "row" "[I") (by decide +kernel)
  have iX0 : ∀ w ∈ u_ws RX0 TX0 4, w ∈ wsX0_init := by decide +kernel
  refine lv_aload_n hx hb dX0_init_0 rfl (lv_at hl 0 rfl) ?_
  refine q_oinit C h oi1 oi2 (C.1.2.2.2.2 _ (List.mem_of_getElem? (i := 3) rfl)) hl.1 dX0_init_1 (Nat.le_of_ble_eq_true rfl) (Nat.le_of_ble_eq_true rfl) ?_
  refine lv_aload_n hx hb dX0_init_4 rfl (lv_at hl 0 rfl) ?_
  refine lv_bipush (v := nI 38) hx hb dX0_init_5 (by decide) ?_
  refine q_newI C h acint (n := 38) (by decide) (Nat.le_of_ble_eq_true rfl) (Nat.le_of_ble_eq_true rfl) dX0_init_7 (w' := fun q1 => [(o0, .inr (0, [.null, .long 0, .int (nI 0), .long 0])), (q1, .inl (G.2.1, 38, .inl (fun zz => nI ((fun _ => 0) zz))))]) (fun _ => rfl) (fun q1 H h => ?_)
  refine W.widen (k := 1) (n := 38) (Nat.le_of_ble_eq_true rfl) (Nat.le_of_ble_eq_true rfl) ?_
  refine q_putF (Cn := RX0) (T := TX0) (N := 4) (ci := 0) (v := .ref q1) (w' := [(o0, .inr (0, [.ref q1, .long 0, .int (nI 0), .long 0])), (q1, .inl (G.2.1, 38, .inl (fun zz => nI ((fun _ => 0) zz))))]) C h iX0 tyX0 tyX0_ok nmX0 0 rfl rfl 0 (by decide) f9 rfl (hnm) rfl rfl rfl (Nat.le_of_ble_eq_true rfl) dX0_init_9 rfl (fun H locs h => ?_)
  exact q_retc C h rfl q1 rfl (Nat.le_of_ble_eq_true rfl) (Nat.le_of_ble_eq_true rfl) dX0_init_12

set_option maxHeartbeats 4000000 in
set_option maxRecDepth 100000 in
theorem c_X1_init (l : Launch) (G : vq_G) (o0 : Nat) : vq_c false l yX1_init wsX1_init 1 12 2 76 G [.ref o0] [(o0, .inr (1, [.null, .null, .int (nI 0)]))] (fun (ux : Nat × Nat) => [(o0, .inr (1, [.ref ux.1, .ref ux.2, .int (nI 0)])), (ux.1, .inl (G.2.2, 38, .inr (.inl (fun _ => 0)))), (ux.2, .inl (G.2.1, 38, .inl (fun _ => 0)))]) := by
  refine vq_openc (cc := cX1_init) (maxL := 1) (ret := none) (Ts' := wsX1_init.tail) (by decide) rfl (Nat.le_of_ble_eq_true rfl) ?_
  intro p e s m args below meth c A ls C h hnm hE hl
  have hx := C.1.1
  have hb := C.1.2.1
  have hts := C.1.2.2.2.2
  have hl : lv_has ls 1 [(0, .ref o0)] := hl
  have oi1 := C.1.2.2.2.2 (.methodLink RX1 3 objectInit) (by decide +kernel)
  have oi2 := C.1.2.2.2.2 (.instanceMethod objectInit) (by decide +kernel)
  have aclong := C.1.2.2.2.2 (.arrayClass .long) (by decide +kernel)
  have f9 := C.1.2.2.2.2 (.fieldLink RX1 9 "FountainCode$Elimination" "rows" "[J") (by decide +kernel)
  have iX1 : ∀ w ∈ u_ws RX1 TX1 3, w ∈ wsX1_init := by decide +kernel
  have acint := C.1.2.2.2.2 (.arrayClass .int) (by decide +kernel)
  have f15 := C.1.2.2.2.2 (.fieldLink RX1 15 "FountainCode$Elimination" "values" "[I") (by decide +kernel)
  refine lv_aload_n hx hb dX1_init_0 rfl (lv_at hl 0 rfl) ?_
  refine q_oinit C h oi1 oi2 (C.1.2.2.2.2 _ (List.mem_of_getElem? (i := 3) rfl)) hl.1 dX1_init_1 (Nat.le_of_ble_eq_true rfl) (Nat.le_of_ble_eq_true rfl) ?_
  refine lv_aload_n hx hb dX1_init_4 rfl (lv_at hl 0 rfl) ?_
  refine lv_bipush (v := nI 38) hx hb dX1_init_5 (by decide) ?_
  refine q_newL C h aclong (n := 38) (by decide) (Nat.le_of_ble_eq_true rfl) (Nat.le_of_ble_eq_true rfl) dX1_init_7 (w' := fun q1 => [(o0, .inr (1, [.null, .null, .int (nI 0)])), (q1, .inl (G.2.2, 38, .inr (.inl (fun _ => 0))))]) (fun _ => rfl) (fun q1 H h => ?_)
  refine W.widen (k := 1) (n := 38) (Nat.le_of_ble_eq_true rfl) (Nat.le_of_ble_eq_true rfl) ?_
  refine q_putF (Cn := RX1) (T := TX1) (N := 3) (ci := 1) (v := .ref q1) (w' := [(o0, .inr (1, [.ref q1, .null, .int (nI 0)])), (q1, .inl (G.2.2, 38, .inr (.inl (fun _ => 0))))]) C h iX1 tyX1 tyX1_ok nmX1 0 rfl rfl 0 (by decide) f9 rfl (hnm) rfl rfl rfl (Nat.le_of_ble_eq_true rfl) dX1_init_9 rfl (fun H locs h => ?_)
  refine lv_aload_n hx hb dX1_init_12 rfl (lv_at hl 0 rfl) ?_
  refine lv_bipush (v := nI 38) hx hb dX1_init_13 (by decide) ?_
  refine q_newI C h acint (n := 38) (by decide) (Nat.le_of_ble_eq_true rfl) (Nat.le_of_ble_eq_true rfl) dX1_init_15 (w' := fun q2 => [(o0, .inr (1, [.ref q1, .null, .int (nI 0)])), (q1, .inl (G.2.2, 38, .inr (.inl (fun _ => 0)))), (q2, .inl (G.2.1, 38, .inl (fun _ => 0)))]) (fun _ => rfl) (fun q2 H h => ?_)
  refine W.widen (k := 2) (n := 76) (Nat.le_of_ble_eq_true rfl) (Nat.le_of_ble_eq_true rfl) ?_
  refine q_putF (Cn := RX1) (T := TX1) (N := 3) (ci := 1) (v := .ref q2) (w' := [(o0, .inr (1, [.ref q1, .ref q2, .int (nI 0)])), (q1, .inl (G.2.2, 38, .inr (.inl (fun _ => 0)))), (q2, .inl (G.2.1, 38, .inl (fun _ => 0)))]) C h iX1 tyX1 tyX1_ok nmX1 0 rfl rfl 1 (by decide) f15 rfl (hnm) rfl rfl rfl (Nat.le_of_ble_eq_true rfl) dX1_init_17 rfl (fun H locs h => ?_)
  exact q_retc C h rfl ⟨q1, q2⟩ rfl (Nat.le_of_ble_eq_true rfl) (Nat.le_of_ble_eq_true rfl) dX1_init_20

set_option maxHeartbeats 4000000 in
set_option maxRecDepth 100000 in
theorem c_X2_init (l : Launch) (G : vq_G) (o0 : Nat) : vq_c false l yX2_init wsX2_init 1 12 3 202 G [.ref o0] [(o0, .inr (2, [.null, .int (nI 0), .null, .null, .int (nI 0), .long 0]))] (fun (ux : Nat × Nat × Nat) => [(o0, .inr (2, [.ref ux.1, .int (nI 0), .ref ux.2.1, .ref ux.2.2, .int (nI 0), .long 0])), (ux.1, .inl (G.2.2, 126, .inr (.inl (fun _ => 0)))), (ux.2.1, .inl (G.2.1, 38, .inl (fun zz => nI ((fun _ => 0) zz)))), (ux.2.2, .inl (G.2.1, 38, .inl (fun _ => 0)))]) := by
  refine vq_openc (cc := cX2_init) (maxL := 1) (ret := none) (Ts' := wsX2_init.tail) (by decide) rfl (Nat.le_of_ble_eq_true rfl) ?_
  intro p e s m args below meth c A ls C h hnm hE hl
  have hx := C.1.1
  have hb := C.1.2.1
  have hts := C.1.2.2.2.2
  have hl : lv_has ls 1 [(0, .ref o0)] := hl
  have oi1 := C.1.2.2.2.2 (.methodLink RX2 3 objectInit) (by decide +kernel)
  have oi2 := C.1.2.2.2.2 (.instanceMethod objectInit) (by decide +kernel)
  have aclong := C.1.2.2.2.2 (.arrayClass .long) (by decide +kernel)
  have f9 := C.1.2.2.2.2 (.fieldLink RX2 9 "FountainCode$Peeler" "equationSets" "[J") (by decide +kernel)
  have iX2 : ∀ w ∈ u_ws RX2 TX2 6, w ∈ wsX2_init := by decide +kernel
  have acint := C.1.2.2.2.2 (.arrayClass .int) (by decide +kernel)
  have f15 := C.1.2.2.2.2 (.fieldLink RX2 15 "FountainCode$Peeler" "peelOrder" "[I") (by decide +kernel)
  have f19 := C.1.2.2.2.2 (.fieldLink RX2 19 "FountainCode$Peeler" "peelEquations" "[I") (by decide +kernel)
  refine lv_aload_n hx hb dX2_init_0 rfl (lv_at hl 0 rfl) ?_
  refine q_oinit C h oi1 oi2 (C.1.2.2.2.2 _ (List.mem_of_getElem? (i := 3) rfl)) hl.1 dX2_init_1 (Nat.le_of_ble_eq_true rfl) (Nat.le_of_ble_eq_true rfl) ?_
  refine lv_aload_n hx hb dX2_init_4 rfl (lv_at hl 0 rfl) ?_
  refine lv_bipush (v := nI 126) hx hb dX2_init_5 (by decide) ?_
  refine q_newL C h aclong (n := 126) (by decide) (Nat.le_of_ble_eq_true rfl) (Nat.le_of_ble_eq_true rfl) dX2_init_7 (w' := fun q1 => [(o0, .inr (2, [.null, .int (nI 0), .null, .null, .int (nI 0), .long 0])), (q1, .inl (G.2.2, 126, .inr (.inl (fun _ => 0))))]) (fun _ => rfl) (fun q1 H h => ?_)
  refine W.widen (k := 1) (n := 126) (Nat.le_of_ble_eq_true rfl) (Nat.le_of_ble_eq_true rfl) ?_
  refine q_putF (Cn := RX2) (T := TX2) (N := 6) (ci := 2) (v := .ref q1) (w' := [(o0, .inr (2, [.ref q1, .int (nI 0), .null, .null, .int (nI 0), .long 0])), (q1, .inl (G.2.2, 126, .inr (.inl (fun _ => 0))))]) C h iX2 tyX2 tyX2_ok nmX2 0 rfl rfl 0 (by decide) f9 rfl (hnm) rfl rfl rfl (Nat.le_of_ble_eq_true rfl) dX2_init_9 rfl (fun H locs h => ?_)
  refine lv_aload_n hx hb dX2_init_12 rfl (lv_at hl 0 rfl) ?_
  refine lv_bipush (v := nI 38) hx hb dX2_init_13 (by decide) ?_
  refine q_newI C h acint (n := 38) (by decide) (Nat.le_of_ble_eq_true rfl) (Nat.le_of_ble_eq_true rfl) dX2_init_15 (w' := fun q2 => [(o0, .inr (2, [.ref q1, .int (nI 0), .null, .null, .int (nI 0), .long 0])), (q1, .inl (G.2.2, 126, .inr (.inl (fun _ => 0)))), (q2, .inl (G.2.1, 38, .inl (fun zz => nI ((fun _ => 0) zz))))]) (fun _ => rfl) (fun q2 H h => ?_)
  refine W.widen (k := 2) (n := 164) (Nat.le_of_ble_eq_true rfl) (Nat.le_of_ble_eq_true rfl) ?_
  refine q_putF (Cn := RX2) (T := TX2) (N := 6) (ci := 2) (v := .ref q2) (w' := [(o0, .inr (2, [.ref q1, .int (nI 0), .ref q2, .null, .int (nI 0), .long 0])), (q1, .inl (G.2.2, 126, .inr (.inl (fun _ => 0)))), (q2, .inl (G.2.1, 38, .inl (fun zz => nI ((fun _ => 0) zz))))]) C h iX2 tyX2 tyX2_ok nmX2 0 rfl rfl 2 (by decide) f15 rfl (hnm) rfl rfl rfl (Nat.le_of_ble_eq_true rfl) dX2_init_17 rfl (fun H locs h => ?_)
  refine lv_aload_n hx hb dX2_init_20 rfl (lv_at hl 0 rfl) ?_
  refine lv_bipush (v := nI 38) hx hb dX2_init_21 (by decide) ?_
  refine q_newI C h acint (n := 38) (by decide) (Nat.le_of_ble_eq_true rfl) (Nat.le_of_ble_eq_true rfl) dX2_init_23 (w' := fun q3 => [(o0, .inr (2, [.ref q1, .int (nI 0), .ref q2, .null, .int (nI 0), .long 0])), (q1, .inl (G.2.2, 126, .inr (.inl (fun _ => 0)))), (q2, .inl (G.2.1, 38, .inl (fun zz => nI ((fun _ => 0) zz)))), (q3, .inl (G.2.1, 38, .inl (fun _ => 0)))]) (fun _ => rfl) (fun q3 H h => ?_)
  refine W.widen (k := 3) (n := 202) (Nat.le_of_ble_eq_true rfl) (Nat.le_of_ble_eq_true rfl) ?_
  refine q_putF (Cn := RX2) (T := TX2) (N := 6) (ci := 2) (v := .ref q3) (w' := [(o0, .inr (2, [.ref q1, .int (nI 0), .ref q2, .ref q3, .int (nI 0), .long 0])), (q1, .inl (G.2.2, 126, .inr (.inl (fun _ => 0)))), (q2, .inl (G.2.1, 38, .inl (fun zz => nI ((fun _ => 0) zz)))), (q3, .inl (G.2.1, 38, .inl (fun _ => 0)))]) C h iX2 tyX2 tyX2_ok nmX2 0 rfl rfl 3 (by decide) f19 rfl (hnm) rfl rfl rfl (Nat.le_of_ble_eq_true rfl) dX2_init_25 rfl (fun H locs h => ?_)
  exact q_retc C h rfl ⟨q1, q2, q3⟩ rfl (Nat.le_of_ble_eq_true rfl) (Nat.le_of_ble_eq_true rfl) dX2_init_28

set_option maxHeartbeats 4000000 in
set_option maxRecDepth 100000 in
theorem c_X3_init (l : Launch) (G : vq_G) (o0 : Nat) : vq_c false l yX3_init wsX3_init 1 12 1 32 G [.ref o0] [(o0, .inr (3, [.null, .int (nI 0), .int (nI 0)]))] (fun (ux : Nat) => [(o0, .inr (3, [.ref ux, .int (nI 0), .int (nI 0)])), (ux, .inl (G.2.1, 32, .inl (fun _ => 0)))]) := by
  refine vq_openc (cc := cX3_init) (maxL := 1) (ret := none) (Ts' := wsX3_init.tail) (by decide) rfl (Nat.le_of_ble_eq_true rfl) ?_
  intro p e s m args below meth c A ls C h hnm hE hl
  have hx := C.1.1
  have hb := C.1.2.1
  have hts := C.1.2.2.2.2
  have hl : lv_has ls 1 [(0, .ref o0)] := hl
  have oi1 := C.1.2.2.2.2 (.methodLink RX3 3 objectInit) (by decide +kernel)
  have oi2 := C.1.2.2.2.2 (.instanceMethod objectInit) (by decide +kernel)
  have acint := C.1.2.2.2.2 (.arrayClass .int) (by decide +kernel)
  have f9 := C.1.2.2.2.2 (.fieldLink RX3 9 "FountainCode$Sender" "sourceValues" "[I") (by decide +kernel)
  have iX3 : ∀ w ∈ u_ws RX3 TX3 3, w ∈ wsX3_init := by decide +kernel
  refine lv_aload_n hx hb dX3_init_0 rfl (lv_at hl 0 rfl) ?_
  refine q_oinit C h oi1 oi2 (C.1.2.2.2.2 _ (List.mem_of_getElem? (i := 3) rfl)) hl.1 dX3_init_1 (Nat.le_of_ble_eq_true rfl) (Nat.le_of_ble_eq_true rfl) ?_
  refine lv_aload_n hx hb dX3_init_4 rfl (lv_at hl 0 rfl) ?_
  refine lv_bipush (v := nI 32) hx hb dX3_init_5 (by decide) ?_
  refine q_newI C h acint (n := 32) (by decide) (Nat.le_of_ble_eq_true rfl) (Nat.le_of_ble_eq_true rfl) dX3_init_7 (w' := fun q1 => [(o0, .inr (3, [.null, .int (nI 0), .int (nI 0)])), (q1, .inl (G.2.1, 32, .inl (fun _ => 0)))]) (fun _ => rfl) (fun q1 H h => ?_)
  refine W.widen (k := 1) (n := 32) (Nat.le_of_ble_eq_true rfl) (Nat.le_of_ble_eq_true rfl) ?_
  refine q_putF (Cn := RX3) (T := TX3) (N := 3) (ci := 3) (v := .ref q1) (w' := [(o0, .inr (3, [.ref q1, .int (nI 0), .int (nI 0)])), (q1, .inl (G.2.1, 32, .inl (fun _ => 0)))]) C h iX3 tyX3 tyX3_ok nmX3 0 rfl rfl 0 (by decide) f9 rfl (hnm) rfl rfl rfl (Nat.le_of_ble_eq_true rfl) dX3_init_9 rfl (fun H locs h => ?_)
  exact q_retc C h rfl q1 rfl (Nat.le_of_ble_eq_true rfl) (Nat.le_of_ble_eq_true rfl) dX3_init_12

set_option maxHeartbeats 4000000 in
set_option maxRecDepth 100000 in
theorem c_X4_init (l : Launch) (G : vq_G) (o0 : Nat) : vq_c true l yX4_init wsX4_init 1 15 1 12 G [.ref o0] [(o0, .inr (4, [.null]))] (fun (ux : Nat) => [(o0, .inr (4, [.ref ux])), (ux, .inl (G.2.1, 12, .inl (fun zz => nI (q_w0 zz))))]) := by
  refine vq_openc (cc := cX4_init) (maxL := 1) (ret := none) (Ts' := wsX4_init.tail) (by decide) rfl (Nat.le_of_ble_eq_true rfl) ?_
  intro p e s m args below meth c A ls C h hnm hE hl
  have hx := C.1.1
  have hb := C.1.2.1
  have hts := C.1.2.2.2.2
  have hl : lv_has ls 1 [(0, .ref o0)] := hl
  have oi1 := C.1.2.2.2.2 (.methodLink RX4 3 objectInit) (by decide +kernel)
  have oi2 := C.1.2.2.2.2 (.instanceMethod objectInit) (by decide +kernel)
  have w1 := C.1.2.2.2.2 (.fieldLink RX4 9 "FountainCode$Weights" "FIRST_WEIGHTS" "[I") (by decide +kernel)
  have w2 := C.1.2.2.2.2 (.methodLink RX4 15 ⟨"[I", "clone", "()Ljava/lang/Object;"⟩) (by decide +kernel)
  have w3 := C.1.2.2.2.2 (.sameMethod "[I" "java/lang/Object" "clone" "()Ljava/lang/Object;") (by decide +kernel)
  have w4 := C.1.2.2.2.2 (.native ⟨"java/lang/Object", "clone", "()Ljava/lang/Object;"⟩) (by decide +kernel)
  have w5 := C.1.2.2.2.2 (.instanceMethod ⟨"java/lang/Object", "clone", "()Ljava/lang/Object;"⟩) (by decide +kernel)
  have w6 := C.1.2.2.2.2 (.selects "[I" ⟨"[I", "clone", "()Ljava/lang/Object;"⟩ ⟨"java/lang/Object", "clone", "()Ljava/lang/Object;"⟩) (by decide +kernel)
  have w7 := C.1.2.2.2.2 (.classLink RX4 16 "[I") (by decide +kernel)
  have f20 := C.1.2.2.2.2 (.fieldLink RX4 20 "FountainCode$Weights" "list" "[I") (by decide +kernel)
  have iX4 : ∀ w ∈ u_ws RX4 TX4 1, w ∈ wsX4_init := by decide +kernel
  refine lv_aload_n hx hb dX4_init_0 rfl (lv_at hl 0 rfl) ?_
  refine q_oinit C h oi1 oi2 (C.1.2.2.2.2 _ (List.mem_of_getElem? (i := 3) rfl)) hl.1 dX4_init_1 (Nat.le_of_ble_eq_true rfl) (Nat.le_of_ble_eq_true rfl) ?_
  refine lv_aload_n hx hb dX4_init_4 rfl (lv_at hl 0 rfl) ?_
  refine q_cloneF C h (hE rfl) rfl w1 w2 w3 w4 w5 w6 w7 hl.1 (Nat.le_of_ble_eq_true rfl) (Nat.le_of_ble_eq_true rfl) (Nat.le_of_ble_eq_true rfl) (Nat.le_of_ble_eq_true rfl) dX4_init_5 dX4_init_8 dX4_init_11 (w' := fun q1 => [(o0, .inr (4, [.null])), (q1, .inl (G.2.1, 12, .inl (fun zz => nI (q_w0 zz))))]) (fun _ => rfl) (fun q1 H h => ?_)
  refine W.widen (k := 1) (n := 12) (Nat.le_of_ble_eq_true rfl) (Nat.le_of_ble_eq_true rfl) ?_
  refine q_putF (Cn := RX4) (T := TX4) (N := 1) (ci := 4) (v := .ref q1) (w' := [(o0, .inr (4, [.ref q1])), (q1, .inl (G.2.1, 12, .inl (fun zz => nI (q_w0 zz))))]) C h iX4 tyX4 tyX4_ok nmX4 0 rfl rfl 0 (by decide) f20 rfl (hnm) rfl rfl rfl (Nat.le_of_ble_eq_true rfl) dX4_init_14 rfl (fun H locs h => ?_)
  exact q_retc C h rfl q1 rfl (Nat.le_of_ble_eq_true rfl) (Nat.le_of_ble_eq_true rfl) dX4_init_17

set_option maxHeartbeats 4000000 in
set_option maxRecDepth 100000 in
theorem c_X5_init (l : Launch) (G : vq_G) (o0 : Nat) : vq_c true l yX5_init wsX5_init 6 141 13 377 G [.ref o0] [(o0, .inr (5, [.null, .null, .null, .null, .null]))] (fun (ux : Nat × Nat × Nat × Nat × Nat × Nat × Nat × Nat × Nat × Nat × Nat × Nat × Nat) => [(o0, .inr (5, [.ref ux.1, .ref ux.2.2.1, .ref ux.2.2.2.2.1, .ref ux.2.2.2.2.2.2.2.2.1, .ref ux.2.2.2.2.2.2.2.2.2.2.2.1])), (ux.1, .inr (4, [.ref ux.2.1])), (ux.2.1, .inl (G.2.1, 12, .inl (fun zz => nI (q_w0 zz)))), (ux.2.2.1, .inr (3, [.ref ux.2.2.2.1, .int (nI 1), .int (nI 0)])), (ux.2.2.2.1, .inl (G.2.1, 32, .inl (fun _ => (nI 0)))), (ux.2.2.2.2.1, .inr (2, [.ref ux.2.2.2.2.2.1, .int (nI 0), .ref ux.2.2.2.2.2.2.1, .ref ux.2.2.2.2.2.2.2.1, .int (nI 0), .long 0])), (ux.2.2.2.2.2.1, .inl (G.2.2, 126, .inr (.inl (fun _ => 0)))), (ux.2.2.2.2.2.2.1, .inl (G.2.1, 38, .inl (fun zz => nI ((fun _ => 0) zz)))), (ux.2.2.2.2.2.2.2.1, .inl (G.2.1, 38, .inl (fun _ => (-1)))), (ux.2.2.2.2.2.2.2.2.1, .inr (1, [.ref ux.2.2.2.2.2.2.2.2.2.1, .ref ux.2.2.2.2.2.2.2.2.2.2.1, .int (nI 0)])), (ux.2.2.2.2.2.2.2.2.2.1, .inl (G.2.2, 38, .inr (.inl (fun _ => 0)))), (ux.2.2.2.2.2.2.2.2.2.2.1, .inl (G.2.1, 38, .inl (fun _ => (nI 0)))), (ux.2.2.2.2.2.2.2.2.2.2.2.1, .inr (0, [.ref ux.2.2.2.2.2.2.2.2.2.2.2.2, .long 0, .int (nI 0), .long 0])), (ux.2.2.2.2.2.2.2.2.2.2.2.2, .inl (G.2.1, 38, .inl (fun zz => nI ((fun _ => 0) zz))))]) := by
  refine vq_openc (cc := cX5_init) (maxL := 1) (ret := none) (Ts' := wsX5_init.tail) (by decide) rfl (Nat.le_of_ble_eq_true rfl) ?_
  intro p e s m args below meth c A ls C h hnm hE hl
  have hx := C.1.1
  have hb := C.1.2.1
  have hts := C.1.2.2.2.2
  have hl : lv_has ls 1 [(0, .ref o0)] := hl
  have oi1 := C.1.2.2.2.2 (.methodLink RX5 3 objectInit) (by decide +kernel)
  have oi2 := C.1.2.2.2.2 (.instanceMethod objectInit) (by decide +kernel)
  have cl9 := C.1.2.2.2.2 (.classLink RX5 9 RX4) (by decide +kernel)
  have inX4 := C.1.2.2.2.2 (.instantiable RX4 1) (by decide +kernel)
  have iniX4 := C.1.2.2.2.2 (.initialized RX4) (by decide +kernel)
  have iX4 : ∀ w ∈ u_ws RX4 TX4 1, w ∈ wsX5_init := by decide +kernel
  have imX4_init := C.1.2.2.2.2 (.instanceMethod yX4_init) (by decide +kernel)
  have f12 := C.1.2.2.2.2 (.fieldLink RX5 12 "FountainCode" "weights" "LFountainCode$Weights;") (by decide +kernel)
  have iX5 : ∀ w ∈ u_ws RX5 TX5 5, w ∈ wsX5_init := by decide +kernel
  have cl16 := C.1.2.2.2.2 (.classLink RX5 16 RX3) (by decide +kernel)
  have inX3 := C.1.2.2.2.2 (.instantiable RX3 3) (by decide +kernel)
  have iniX3 := C.1.2.2.2.2 (.initialized RX3) (by decide +kernel)
  have iX3 : ∀ w ∈ u_ws RX3 TX3 3, w ∈ wsX5_init := by decide +kernel
  have imX3_init := C.1.2.2.2.2 (.instanceMethod yX3_init) (by decide +kernel)
  have f19 := C.1.2.2.2.2 (.fieldLink RX5 19 "FountainCode" "sender" "LFountainCode$Sender;") (by decide +kernel)
  have cl23 := C.1.2.2.2.2 (.classLink RX5 23 RX2) (by decide +kernel)
  have inX2 := C.1.2.2.2.2 (.instantiable RX2 6) (by decide +kernel)
  have iniX2 := C.1.2.2.2.2 (.initialized RX2) (by decide +kernel)
  have iX2 : ∀ w ∈ u_ws RX2 TX2 6, w ∈ wsX5_init := by decide +kernel
  have imX2_init := C.1.2.2.2.2 (.instanceMethod yX2_init) (by decide +kernel)
  have f26 := C.1.2.2.2.2 (.fieldLink RX5 26 "FountainCode" "peeler" "LFountainCode$Peeler;") (by decide +kernel)
  have cl30 := C.1.2.2.2.2 (.classLink RX5 30 RX1) (by decide +kernel)
  have inX1 := C.1.2.2.2.2 (.instantiable RX1 3) (by decide +kernel)
  have iniX1 := C.1.2.2.2.2 (.initialized RX1) (by decide +kernel)
  have iX1 : ∀ w ∈ u_ws RX1 TX1 3, w ∈ wsX5_init := by decide +kernel
  have imX1_init := C.1.2.2.2.2 (.instanceMethod yX1_init) (by decide +kernel)
  have f33 := C.1.2.2.2.2 (.fieldLink RX5 33 "FountainCode" "elimination" "LFountainCode$Elimination;") (by decide +kernel)
  have cl37 := C.1.2.2.2.2 (.classLink RX5 37 RX0) (by decide +kernel)
  have inX0 := C.1.2.2.2.2 (.instantiable RX0 4) (by decide +kernel)
  have iniX0 := C.1.2.2.2.2 (.initialized RX0) (by decide +kernel)
  have iX0 : ∀ w ∈ u_ws RX0 TX0 4, w ∈ wsX5_init := by decide +kernel
  have imX0_init := C.1.2.2.2.2 (.instanceMethod yX0_init) (by decide +kernel)
  have f40 := C.1.2.2.2.2 (.fieldLink RX5 40 "FountainCode" "scratchDrop" "LFountainCode$Drop;") (by decide +kernel)
  refine lv_aload_n hx hb dX5_init_0 rfl (lv_at hl 0 rfl) ?_
  refine q_oinit C h oi1 oi2 (C.1.2.2.2.2 _ (List.mem_of_getElem? (i := 3) rfl)) hl.1 dX5_init_1 (Nat.le_of_ble_eq_true rfl) (Nat.le_of_ble_eq_true rfl) ?_
  refine lv_aload_n hx hb dX5_init_4 rfl (lv_at hl 0 rfl) ?_
  refine q_newO (Cn := RX4) (T := TX4) (N := 1) (ci := 4) (fs := [.null]) C h iX4 tyX4 tyX4_ok cl9 inX4 iniX4 rfl (fun j hj => by rcases (show j = 0 by omega) with rfl <;> rfl) (Nat.le_of_ble_eq_true rfl) (Nat.le_of_ble_eq_true rfl) dX5_init_5 (w' := fun q1 => [(o0, .inr (5, [.null, .null, .null, .null, .null])), (q1, .inr (4, [.null]))]) (fun _ => rfl) (fun q1 H h => ?_)
  refine W.widen (k := 1) (n := 1) (Nat.le_of_ble_eq_true rfl) (Nat.le_of_ble_eq_true rfl) ?_
  refine lv_dup hx hb dX5_init_8 rfl ?_
  refine q_callIN C h (c_X4_init l G q1) hE ⟨va_cnB 0 hts gX5_init_X4_init_n11 rfl rfl rfl (C.2.2.1.at 0 rfl) iniX4 (by decide +kernel) ⟨Nat.le_of_ble_eq_true rfl, Nat.le_of_ble_eq_true rfl⟩, rfl, imX4_init⟩ [1] rfl rfl [0] (wr := [(o0, .inr (5, [.null, .null, .null, .null, .null]))]) rfl rfl (by decide) rfl hl.1 rfl (Nat.le_of_ble_eq_true rfl) dX5_init_9 ⟨Nat.le_of_ble_eq_true rfl, Nat.le_of_ble_eq_true rfl⟩ [0, 1, 2] (w' := fun u1 => [(o0, .inr (5, [.null, .null, .null, .null, .null])), (q1, .inr (4, [.ref u1])), (u1, .inl (G.2.1, 12, .inl (fun zz => nI (q_w0 zz))))]) (fun _ => rfl) rfl (fun u1 H locs h => ?_)
  refine W.widen (k := 2) (n := 13) (Nat.le_of_ble_eq_true rfl) (Nat.le_of_ble_eq_true rfl) ?_
  refine q_putF (Cn := RX5) (T := TX5) (N := 5) (ci := 5) (v := .ref q1) (w' := [(o0, .inr (5, [.ref q1, .null, .null, .null, .null])), (q1, .inr (4, [.ref u1])), (u1, .inl (G.2.1, 12, .inl (fun zz => nI (q_w0 zz))))]) C h iX5 tyX5 tyX5_ok nmX5 0 rfl rfl 0 (by decide) f12 rfl (hnm) rfl rfl rfl (Nat.le_of_ble_eq_true rfl) dX5_init_12 rfl (fun H locs h => ?_)
  refine lv_aload_n hx hb dX5_init_15 rfl (lv_at hl 0 rfl) ?_
  refine q_newO (Cn := RX3) (T := TX3) (N := 3) (ci := 3) (fs := [.null, .int (nI 0), .int (nI 0)]) C h iX3 tyX3 tyX3_ok cl16 inX3 iniX3 rfl (fun j hj => by rcases (show j = 0 ∨ j = 1 ∨ j = 2 by omega) with rfl | rfl | rfl <;> rfl) (Nat.le_of_ble_eq_true rfl) (Nat.le_of_ble_eq_true rfl) dX5_init_16 (w' := fun q2 => [(o0, .inr (5, [.ref q1, .null, .null, .null, .null])), (q1, .inr (4, [.ref u1])), (u1, .inl (G.2.1, 12, .inl (fun zz => nI (q_w0 zz)))), (q2, .inr (3, [.null, .int (nI 0), .int (nI 0)]))]) (fun _ => rfl) (fun q2 H h => ?_)
  refine W.widen (k := 3) (n := 16) (Nat.le_of_ble_eq_true rfl) (Nat.le_of_ble_eq_true rfl) ?_
  refine lv_dup hx hb dX5_init_19 rfl ?_
  refine q_callIN C h (c_X3_init l G q2) (fun h => nomatch h) ⟨va_cnB 0 hts gX5_init_X3_init_n18 rfl rfl rfl (C.2.2.1.at 1 rfl) iniX3 (by decide +kernel) ⟨Nat.le_of_ble_eq_true rfl, Nat.le_of_ble_eq_true rfl⟩, rfl, imX3_init⟩ [3] rfl rfl [0, 1, 2] (wr := [(o0, .inr (5, [.ref q1, .null, .null, .null, .null])), (q1, .inr (4, [.ref u1])), (u1, .inl (G.2.1, 12, .inl (fun zz => nI (q_w0 zz))))]) rfl rfl (by decide) rfl hl.1 rfl (Nat.le_of_ble_eq_true rfl) dX5_init_20 ⟨Nat.le_of_ble_eq_true rfl, Nat.le_of_ble_eq_true rfl⟩ [0, 1, 2, 3, 4] (w' := fun u2 => [(o0, .inr (5, [.ref q1, .null, .null, .null, .null])), (q1, .inr (4, [.ref u1])), (u1, .inl (G.2.1, 12, .inl (fun zz => nI (q_w0 zz)))), (q2, .inr (3, [.ref u2, .int (nI 0), .int (nI 0)])), (u2, .inl (G.2.1, 32, .inl (fun _ => 0)))]) (fun _ => rfl) rfl (fun u2 H locs h => ?_)
  refine W.widen (k := 4) (n := 48) (Nat.le_of_ble_eq_true rfl) (Nat.le_of_ble_eq_true rfl) ?_
  refine q_putF (Cn := RX5) (T := TX5) (N := 5) (ci := 5) (v := .ref q2) (w' := [(o0, .inr (5, [.ref q1, .ref q2, .null, .null, .null])), (q1, .inr (4, [.ref u1])), (u1, .inl (G.2.1, 12, .inl (fun zz => nI (q_w0 zz)))), (q2, .inr (3, [.ref u2, .int (nI 0), .int (nI 0)])), (u2, .inl (G.2.1, 32, .inl (fun _ => 0)))]) C h iX5 tyX5 tyX5_ok nmX5 0 rfl rfl 1 (by decide) f19 rfl (hnm) rfl rfl rfl (Nat.le_of_ble_eq_true rfl) dX5_init_23 rfl (fun H locs h => ?_)
  refine lv_aload_n hx hb dX5_init_26 rfl (lv_at hl 0 rfl) ?_
  refine q_newO (Cn := RX2) (T := TX2) (N := 6) (ci := 2) (fs := [.null, .int (nI 0), .null, .null, .int (nI 0), .long 0]) C h iX2 tyX2 tyX2_ok cl23 inX2 iniX2 rfl (fun j hj => by rcases (show j = 0 ∨ j = 1 ∨ j = 2 ∨ j = 3 ∨ j = 4 ∨ j = 5 by omega) with rfl | rfl | rfl | rfl | rfl | rfl <;> rfl) (Nat.le_of_ble_eq_true rfl) (Nat.le_of_ble_eq_true rfl) dX5_init_27 (w' := fun q3 => [(o0, .inr (5, [.ref q1, .ref q2, .null, .null, .null])), (q1, .inr (4, [.ref u1])), (u1, .inl (G.2.1, 12, .inl (fun zz => nI (q_w0 zz)))), (q2, .inr (3, [.ref u2, .int (nI 0), .int (nI 0)])), (u2, .inl (G.2.1, 32, .inl (fun _ => 0))), (q3, .inr (2, [.null, .int (nI 0), .null, .null, .int (nI 0), .long 0]))]) (fun _ => rfl) (fun q3 H h => ?_)
  refine W.widen (k := 5) (n := 54) (Nat.le_of_ble_eq_true rfl) (Nat.le_of_ble_eq_true rfl) ?_
  refine lv_dup hx hb dX5_init_30 rfl ?_
  refine q_callIN C h (c_X2_init l G q3) (fun h => nomatch h) ⟨va_cnB 0 hts gX5_init_X2_init_n25 rfl rfl rfl (C.2.2.1.at 2 rfl) iniX2 (by decide +kernel) ⟨Nat.le_of_ble_eq_true rfl, Nat.le_of_ble_eq_true rfl⟩, rfl, imX2_init⟩ [5] rfl rfl [0, 1, 2, 3, 4] (wr := [(o0, .inr (5, [.ref q1, .ref q2, .null, .null, .null])), (q1, .inr (4, [.ref u1])), (u1, .inl (G.2.1, 12, .inl (fun zz => nI (q_w0 zz)))), (q2, .inr (3, [.ref u2, .int (nI 0), .int (nI 0)])), (u2, .inl (G.2.1, 32, .inl (fun _ => 0)))]) rfl rfl (by decide) rfl hl.1 rfl (Nat.le_of_ble_eq_true rfl) dX5_init_31 ⟨Nat.le_of_ble_eq_true rfl, Nat.le_of_ble_eq_true rfl⟩ [0, 1, 2, 3, 4, 5, 6, 7, 8] (w' := fun u3 => [(o0, .inr (5, [.ref q1, .ref q2, .null, .null, .null])), (q1, .inr (4, [.ref u1])), (u1, .inl (G.2.1, 12, .inl (fun zz => nI (q_w0 zz)))), (q2, .inr (3, [.ref u2, .int (nI 0), .int (nI 0)])), (u2, .inl (G.2.1, 32, .inl (fun _ => 0))), (q3, .inr (2, [.ref u3.1, .int (nI 0), .ref u3.2.1, .ref u3.2.2, .int (nI 0), .long 0])), (u3.1, .inl (G.2.2, 126, .inr (.inl (fun _ => 0)))), (u3.2.1, .inl (G.2.1, 38, .inl (fun zz => nI ((fun _ => 0) zz)))), (u3.2.2, .inl (G.2.1, 38, .inl (fun _ => 0)))]) (fun _ => rfl) rfl (fun u3 H locs h => ?_)
  refine W.widen (k := 8) (n := 256) (Nat.le_of_ble_eq_true rfl) (Nat.le_of_ble_eq_true rfl) ?_
  refine q_putF (Cn := RX5) (T := TX5) (N := 5) (ci := 5) (v := .ref q3) (w' := [(o0, .inr (5, [.ref q1, .ref q2, .ref q3, .null, .null])), (q1, .inr (4, [.ref u1])), (u1, .inl (G.2.1, 12, .inl (fun zz => nI (q_w0 zz)))), (q2, .inr (3, [.ref u2, .int (nI 0), .int (nI 0)])), (u2, .inl (G.2.1, 32, .inl (fun _ => 0))), (q3, .inr (2, [.ref u3.1, .int (nI 0), .ref u3.2.1, .ref u3.2.2, .int (nI 0), .long 0])), (u3.1, .inl (G.2.2, 126, .inr (.inl (fun _ => 0)))), (u3.2.1, .inl (G.2.1, 38, .inl (fun zz => nI ((fun _ => 0) zz)))), (u3.2.2, .inl (G.2.1, 38, .inl (fun _ => 0)))]) C h iX5 tyX5 tyX5_ok nmX5 0 rfl rfl 2 (by decide) f26 rfl (hnm) rfl rfl rfl (Nat.le_of_ble_eq_true rfl) dX5_init_34 rfl (fun H locs h => ?_)
  refine lv_aload_n hx hb dX5_init_37 rfl (lv_at hl 0 rfl) ?_
  refine q_newO (Cn := RX1) (T := TX1) (N := 3) (ci := 1) (fs := [.null, .null, .int (nI 0)]) C h iX1 tyX1 tyX1_ok cl30 inX1 iniX1 rfl (fun j hj => by rcases (show j = 0 ∨ j = 1 ∨ j = 2 by omega) with rfl | rfl | rfl <;> rfl) (Nat.le_of_ble_eq_true rfl) (Nat.le_of_ble_eq_true rfl) dX5_init_38 (w' := fun q4 => [(o0, .inr (5, [.ref q1, .ref q2, .ref q3, .null, .null])), (q1, .inr (4, [.ref u1])), (u1, .inl (G.2.1, 12, .inl (fun zz => nI (q_w0 zz)))), (q2, .inr (3, [.ref u2, .int (nI 0), .int (nI 0)])), (u2, .inl (G.2.1, 32, .inl (fun _ => 0))), (q3, .inr (2, [.ref u3.1, .int (nI 0), .ref u3.2.1, .ref u3.2.2, .int (nI 0), .long 0])), (u3.1, .inl (G.2.2, 126, .inr (.inl (fun _ => 0)))), (u3.2.1, .inl (G.2.1, 38, .inl (fun zz => nI ((fun _ => 0) zz)))), (u3.2.2, .inl (G.2.1, 38, .inl (fun _ => 0))), (q4, .inr (1, [.null, .null, .int (nI 0)]))]) (fun _ => rfl) (fun q4 H h => ?_)
  refine W.widen (k := 9) (n := 259) (Nat.le_of_ble_eq_true rfl) (Nat.le_of_ble_eq_true rfl) ?_
  refine lv_dup hx hb dX5_init_41 rfl ?_
  refine q_callIN C h (c_X1_init l G q4) (fun h => nomatch h) ⟨va_cnB 0 hts gX5_init_X1_init_n32 rfl rfl rfl (C.2.2.1.at 3 rfl) iniX1 (by decide +kernel) ⟨Nat.le_of_ble_eq_true rfl, Nat.le_of_ble_eq_true rfl⟩, rfl, imX1_init⟩ [9] rfl rfl [0, 1, 2, 3, 4, 5, 6, 7, 8] (wr := [(o0, .inr (5, [.ref q1, .ref q2, .ref q3, .null, .null])), (q1, .inr (4, [.ref u1])), (u1, .inl (G.2.1, 12, .inl (fun zz => nI (q_w0 zz)))), (q2, .inr (3, [.ref u2, .int (nI 0), .int (nI 0)])), (u2, .inl (G.2.1, 32, .inl (fun _ => 0))), (q3, .inr (2, [.ref u3.1, .int (nI 0), .ref u3.2.1, .ref u3.2.2, .int (nI 0), .long 0])), (u3.1, .inl (G.2.2, 126, .inr (.inl (fun _ => 0)))), (u3.2.1, .inl (G.2.1, 38, .inl (fun zz => nI ((fun _ => 0) zz)))), (u3.2.2, .inl (G.2.1, 38, .inl (fun _ => 0)))]) rfl rfl (by decide) rfl hl.1 rfl (Nat.le_of_ble_eq_true rfl) dX5_init_42 ⟨Nat.le_of_ble_eq_true rfl, Nat.le_of_ble_eq_true rfl⟩ [0, 1, 2, 3, 4, 5, 6, 7, 8, 9, 10, 11] (w' := fun u4 => [(o0, .inr (5, [.ref q1, .ref q2, .ref q3, .null, .null])), (q1, .inr (4, [.ref u1])), (u1, .inl (G.2.1, 12, .inl (fun zz => nI (q_w0 zz)))), (q2, .inr (3, [.ref u2, .int (nI 0), .int (nI 0)])), (u2, .inl (G.2.1, 32, .inl (fun _ => 0))), (q3, .inr (2, [.ref u3.1, .int (nI 0), .ref u3.2.1, .ref u3.2.2, .int (nI 0), .long 0])), (u3.1, .inl (G.2.2, 126, .inr (.inl (fun _ => 0)))), (u3.2.1, .inl (G.2.1, 38, .inl (fun zz => nI ((fun _ => 0) zz)))), (u3.2.2, .inl (G.2.1, 38, .inl (fun _ => 0))), (q4, .inr (1, [.ref u4.1, .ref u4.2, .int (nI 0)])), (u4.1, .inl (G.2.2, 38, .inr (.inl (fun _ => 0)))), (u4.2, .inl (G.2.1, 38, .inl (fun _ => 0)))]) (fun _ => rfl) rfl (fun u4 H locs h => ?_)
  refine W.widen (k := 11) (n := 335) (Nat.le_of_ble_eq_true rfl) (Nat.le_of_ble_eq_true rfl) ?_
  refine q_putF (Cn := RX5) (T := TX5) (N := 5) (ci := 5) (v := .ref q4) (w' := [(o0, .inr (5, [.ref q1, .ref q2, .ref q3, .ref q4, .null])), (q1, .inr (4, [.ref u1])), (u1, .inl (G.2.1, 12, .inl (fun zz => nI (q_w0 zz)))), (q2, .inr (3, [.ref u2, .int (nI 0), .int (nI 0)])), (u2, .inl (G.2.1, 32, .inl (fun _ => 0))), (q3, .inr (2, [.ref u3.1, .int (nI 0), .ref u3.2.1, .ref u3.2.2, .int (nI 0), .long 0])), (u3.1, .inl (G.2.2, 126, .inr (.inl (fun _ => 0)))), (u3.2.1, .inl (G.2.1, 38, .inl (fun zz => nI ((fun _ => 0) zz)))), (u3.2.2, .inl (G.2.1, 38, .inl (fun _ => 0))), (q4, .inr (1, [.ref u4.1, .ref u4.2, .int (nI 0)])), (u4.1, .inl (G.2.2, 38, .inr (.inl (fun _ => 0)))), (u4.2, .inl (G.2.1, 38, .inl (fun _ => 0)))]) C h iX5 tyX5 tyX5_ok nmX5 0 rfl rfl 3 (by decide) f33 rfl (hnm) rfl rfl rfl (Nat.le_of_ble_eq_true rfl) dX5_init_45 rfl (fun H locs h => ?_)
  refine lv_aload_n hx hb dX5_init_48 rfl (lv_at hl 0 rfl) ?_
  refine q_newO (Cn := RX0) (T := TX0) (N := 4) (ci := 0) (fs := [.null, .long 0, .int (nI 0), .long 0]) C h iX0 tyX0 tyX0_ok cl37 inX0 iniX0 rfl (fun j hj => by rcases (show j = 0 ∨ j = 1 ∨ j = 2 ∨ j = 3 by omega) with rfl | rfl | rfl | rfl <;> rfl) (Nat.le_of_ble_eq_true rfl) (Nat.le_of_ble_eq_true rfl) dX5_init_49 (w' := fun q5 => [(o0, .inr (5, [.ref q1, .ref q2, .ref q3, .ref q4, .null])), (q1, .inr (4, [.ref u1])), (u1, .inl (G.2.1, 12, .inl (fun zz => nI (q_w0 zz)))), (q2, .inr (3, [.ref u2, .int (nI 0), .int (nI 0)])), (u2, .inl (G.2.1, 32, .inl (fun _ => 0))), (q3, .inr (2, [.ref u3.1, .int (nI 0), .ref u3.2.1, .ref u3.2.2, .int (nI 0), .long 0])), (u3.1, .inl (G.2.2, 126, .inr (.inl (fun _ => 0)))), (u3.2.1, .inl (G.2.1, 38, .inl (fun zz => nI ((fun _ => 0) zz)))), (u3.2.2, .inl (G.2.1, 38, .inl (fun _ => 0))), (q4, .inr (1, [.ref u4.1, .ref u4.2, .int (nI 0)])), (u4.1, .inl (G.2.2, 38, .inr (.inl (fun _ => 0)))), (u4.2, .inl (G.2.1, 38, .inl (fun _ => 0))), (q5, .inr (0, [.null, .long 0, .int (nI 0), .long 0]))]) (fun _ => rfl) (fun q5 H h => ?_)
  refine W.widen (k := 12) (n := 339) (Nat.le_of_ble_eq_true rfl) (Nat.le_of_ble_eq_true rfl) ?_
  refine lv_dup hx hb dX5_init_52 rfl ?_
  refine q_callIN C h (c_X0_init l G q5) (fun h => nomatch h) ⟨va_cnB 0 hts gX5_init_X0_init_n39 rfl rfl rfl (C.2.2.1.at 4 rfl) iniX0 (by decide +kernel) ⟨Nat.le_of_ble_eq_true rfl, Nat.le_of_ble_eq_true rfl⟩, rfl, imX0_init⟩ [12] rfl rfl [0, 1, 2, 3, 4, 5, 6, 7, 8, 9, 10, 11] (wr := [(o0, .inr (5, [.ref q1, .ref q2, .ref q3, .ref q4, .null])), (q1, .inr (4, [.ref u1])), (u1, .inl (G.2.1, 12, .inl (fun zz => nI (q_w0 zz)))), (q2, .inr (3, [.ref u2, .int (nI 0), .int (nI 0)])), (u2, .inl (G.2.1, 32, .inl (fun _ => 0))), (q3, .inr (2, [.ref u3.1, .int (nI 0), .ref u3.2.1, .ref u3.2.2, .int (nI 0), .long 0])), (u3.1, .inl (G.2.2, 126, .inr (.inl (fun _ => 0)))), (u3.2.1, .inl (G.2.1, 38, .inl (fun zz => nI ((fun _ => 0) zz)))), (u3.2.2, .inl (G.2.1, 38, .inl (fun _ => 0))), (q4, .inr (1, [.ref u4.1, .ref u4.2, .int (nI 0)])), (u4.1, .inl (G.2.2, 38, .inr (.inl (fun _ => 0)))), (u4.2, .inl (G.2.1, 38, .inl (fun _ => 0)))]) rfl rfl (by decide) rfl hl.1 rfl (Nat.le_of_ble_eq_true rfl) dX5_init_53 ⟨Nat.le_of_ble_eq_true rfl, Nat.le_of_ble_eq_true rfl⟩ [0, 1, 2, 3, 4, 5, 6, 7, 8, 9, 10, 11, 12, 13] (w' := fun u5 => [(o0, .inr (5, [.ref q1, .ref q2, .ref q3, .ref q4, .null])), (q1, .inr (4, [.ref u1])), (u1, .inl (G.2.1, 12, .inl (fun zz => nI (q_w0 zz)))), (q2, .inr (3, [.ref u2, .int (nI 0), .int (nI 0)])), (u2, .inl (G.2.1, 32, .inl (fun _ => 0))), (q3, .inr (2, [.ref u3.1, .int (nI 0), .ref u3.2.1, .ref u3.2.2, .int (nI 0), .long 0])), (u3.1, .inl (G.2.2, 126, .inr (.inl (fun _ => 0)))), (u3.2.1, .inl (G.2.1, 38, .inl (fun zz => nI ((fun _ => 0) zz)))), (u3.2.2, .inl (G.2.1, 38, .inl (fun _ => 0))), (q4, .inr (1, [.ref u4.1, .ref u4.2, .int (nI 0)])), (u4.1, .inl (G.2.2, 38, .inr (.inl (fun _ => 0)))), (u4.2, .inl (G.2.1, 38, .inl (fun _ => 0))), (q5, .inr (0, [.ref u5, .long 0, .int (nI 0), .long 0])), (u5, .inl (G.2.1, 38, .inl (fun zz => nI ((fun _ => 0) zz))))]) (fun _ => rfl) rfl (fun u5 H locs h => ?_)
  refine W.widen (k := 13) (n := 377) (Nat.le_of_ble_eq_true rfl) (Nat.le_of_ble_eq_true rfl) ?_
  refine q_putF (Cn := RX5) (T := TX5) (N := 5) (ci := 5) (v := .ref q5) (w' := [(o0, .inr (5, [.ref q1, .ref q2, .ref q3, .ref q4, .ref q5])), (q1, .inr (4, [.ref u1])), (u1, .inl (G.2.1, 12, .inl (fun zz => nI (q_w0 zz)))), (q2, .inr (3, [.ref u2, .int (nI 0), .int (nI 0)])), (u2, .inl (G.2.1, 32, .inl (fun _ => 0))), (q3, .inr (2, [.ref u3.1, .int (nI 0), .ref u3.2.1, .ref u3.2.2, .int (nI 0), .long 0])), (u3.1, .inl (G.2.2, 126, .inr (.inl (fun _ => 0)))), (u3.2.1, .inl (G.2.1, 38, .inl (fun zz => nI ((fun _ => 0) zz)))), (u3.2.2, .inl (G.2.1, 38, .inl (fun _ => 0))), (q4, .inr (1, [.ref u4.1, .ref u4.2, .int (nI 0)])), (u4.1, .inl (G.2.2, 38, .inr (.inl (fun _ => 0)))), (u4.2, .inl (G.2.1, 38, .inl (fun _ => 0))), (q5, .inr (0, [.ref u5, .long 0, .int (nI 0), .long 0])), (u5, .inl (G.2.1, 38, .inl (fun zz => nI ((fun _ => 0) zz))))]) C h iX5 tyX5 tyX5_ok nmX5 0 rfl rfl 4 (by decide) f40 rfl (hnm) rfl rfl rfl (Nat.le_of_ble_eq_true rfl) dX5_init_56 rfl (fun H locs h => ?_)
  refine lv_aload_n hx hb dX5_init_59 rfl (lv_at hl 0 rfl) ?_
  refine lv_iconst (v := nI 1) hx hb dX5_init_60 (by decide) ?_
  refine lv_iconst (v := nI 0) hx hb dX5_init_61 (by decide) ?_
  refine q_callVi C h (c_X5_beginTransfer l G o0 q1 q2 q3 q4 q5 u1 u2 u3.1 u3.2.1 u3.2.2 u4.1 u4.2 u5 q_w0 (fun _ => 0) 0 0 0 0 0 (fun _ => 0) (fun _ => 0) (fun _ => 0) 0 (fun _ => 0) (fun _ => 0) 0 0 0 (fun _ => 0) 1 0 (by omega) (by omega) (by omega)) (cwV 2 hts gX5_init_X5_beginTransfer rfl rfl rfl (by decide +kernel) ⟨Nat.le_of_ble_eq_true rfl, Nat.le_of_ble_eq_true rfl⟩) [0, 1, 2, 3, 4, 5, 6, 7, 8, 9, 10, 11, 12, 13] rfl rfl [] (wr := []) rfl rfl (by decide) 0 rfl rfl rfl hl.1 rfl (Nat.le_of_ble_eq_true rfl) dX5_init_62 ⟨Nat.le_of_ble_eq_true rfl, Nat.le_of_ble_eq_true rfl⟩ [0, 1, 2, 3, 4, 5, 6, 7, 8, 9, 10, 11, 12, 13] (w' := [(o0, .inr (5, [.ref q1, .ref q2, .ref q3, .ref q4, .ref q5])), (q1, .inr (4, [.ref u1])), (u1, .inl (G.2.1, 12, .inl (fun zz => nI (q_w0 zz)))), (q2, .inr (3, [.ref u2, .int (nI 1), .int (nI 0)])), (u2, .inl (G.2.1, 32, .inl (fun _ => (nI 0)))), (q3, .inr (2, [.ref u3.1, .int (nI 0), .ref u3.2.1, .ref u3.2.2, .int (nI ((q_pn (q_bgM 1 (fun _ => 0) 0) 0 38 ((fun _ => 0), (fun _ => (-1)), 0, 0)).2.2.1)), .long ((q_pn (q_bgM 1 (fun _ => 0) 0) 0 38 ((fun _ => 0), (fun _ => (-1)), 0, 0)).2.2.2)])), (u3.1, .inl (G.2.2, 126, .inr (.inl (q_bgM 1 (fun _ => 0) 0)))), (u3.2.1, .inl (G.2.1, 38, .inl (fun zz => nI ((q_pn (q_bgM 1 (fun _ => 0) 0) 0 38 ((fun _ => 0), (fun _ => (-1)), 0, 0)).1 zz)))), (u3.2.2, .inl (G.2.1, 38, .inl ((q_pn (q_bgM 1 (fun _ => 0) 0) 0 38 ((fun _ => 0), (fun _ => (-1)), 0, 0)).2.1))), (q4, .inr (1, [.ref u4.1, .ref u4.2, .int (nI ((q_bgR 1 0).2.2))])), (u4.1, .inl (G.2.2, 38, .inr (.inl ((q_bgR 1 0).1)))), (u4.2, .inl (G.2.1, 38, .inl ((q_bgR 1 0).2.1))), (q5, .inr (0, [.ref u5, .long 0, .int (nI 0), .long 0])), (u5, .inl (G.2.1, 38, .inl (fun zz => nI ((fun _ => 0) zz))))]) rfl rfl (fun H locs h => ?_)
  refine lv_pop hx hb dX5_init_65 rfl ?_
  exact q_retc C h rfl ⟨q1, u1, q2, u2, q3, u3.1, u3.2.1, u3.2.2, q4, u4.1, u4.2, q5, u5⟩ (by simp only [q_pn_0]; rfl) (Nat.le_of_ble_eq_true rfl) (Nat.le_of_ble_eq_true rfl) dX5_init_66

