/-! the leaves of the landed class: laid by wip/whole/gen1.py -/
set_option maxHeartbeats 4000000 in
set_option maxRecDepth 100000 in
theorem c_X5_setOf (l : Launch) (G : vq_G) (k : Nat) (hk : k < 64) : vq_l l yX5_setOf wsX5_setOf 0 0 G [.int (nI k)] [] (q_bit k) [] := by
  refine vq_openl (cc := cX5_setOf) (maxL := 1) (ret := (some .long)) (Ts' := wsX5_setOf.tail) (by decide) rfl (Nat.le_of_ble_eq_true rfl) ?_
  intro p e s m args below meth c A ls C h hnm hl
  have hx := C.1.1
  have hb := C.1.2.1
  have hts := C.1.2.2.2.2
  have hl : lv_has ls 1 [(0, .int (nI k))] := hl
  refine lv_lconst (v := 1) hx hb dX5_setOf_0 (by decide) ?_
  refine lv_iload_n hx hb dX5_setOf_1 rfl (lv_at hl 0 rfl) ?_
  refine lv_lshl (v := q_bit k) hx hb dX5_setOf_2 (q_shl k hk) ?_
  exact q_retl C h rfl rfl rfl dX5_setOf_3

set_option maxHeartbeats 4000000 in
set_option maxRecDepth 100000 in
theorem c_X5_holds (l : Launch) (G : vq_G) (x : Int64) (k : Nat) (hk : k < 64) : vq_i l yX5_holds wsX5_holds 1 20 G [.long x, .int (nI k)] [] (q_b (tb x k)) [] := by
  refine vq_openi (cc := cX5_holds) (maxL := 3) (ret := (some .boolean)) (Ts' := wsX5_holds.tail) (by decide) rfl (Nat.le_of_ble_eq_true rfl) ?_
  intro p e s m args below meth c A ls C h hnm hl
  have hx := C.1.1
  have hb := C.1.2.1
  have hts := C.1.2.2.2.2
  have hl : lv_has ls 3 [(0, .long x), (2, .int (nI k))] := hl
  refine lv_lload_n hx hb dX5_holds_0 rfl (lv_at hl 0 rfl) ?_
  refine lv_iload_n hx hb dX5_holds_1 rfl (lv_at hl 1 rfl) ?_
  refine q_callSl C h (c_X5_setOf l G k (by omega)) (va_cwS 1 hts gX5_holds_X5_setOf rfl rfl rfl (by decide +kernel) ⟨Nat.le_of_ble_eq_true rfl, Nat.le_of_ble_eq_true rfl⟩) [] rfl rfl [] (wr := []) rfl rfl (by decide) rfl hl.1 rfl (Nat.le_of_ble_eq_true rfl) dX5_holds_2 ⟨Nat.zero_le _, Nat.zero_le _⟩ [] (w' := []) rfl rfl (fun H locs h => ?_)
  refine lv_land hx hb dX5_holds_5 ?_
  refine lv_lconst (v := 0) hx hb dX5_holds_6 (by decide) ?_
  refine q_lif_eq (tgt := 15) hx hb dX5_holds_7 dX5_holds_8 (by decide) (fun z8 => ?_) (fun z8 => ?_)
  · refine lv_iconst (v := nI 0) hx hb dX5_holds_15 (by decide) ?_
    refine q_top (v' := .int (q_b false)) rfl ?_
    exact q_retz C h rfl (q_and0 hk z8).symm rfl dX5_holds_16
  · refine lv_iconst (v := nI 1) hx hb dX5_holds_11 (by decide) ?_
    refine lv_goto (tgt := 16) hx hb dX5_holds_12 (by decide) ?_
    refine q_top (v' := .int (q_b true)) rfl ?_
    exact q_retz C h rfl (q_and1 z8).symm rfl dX5_holds_16

set_option maxHeartbeats 4000000 in
set_option maxRecDepth 100000 in
theorem c_J7_fill_53178 (l : Launch) (G : vq_G) (a N : Nat) (f : Nat → Int32) (v : Int32) (hN : N < 2 ^ 31) : vq_v l yJ7_fill_53178 wsJ7_fill_53178 0 0 G [.ref a, .int v] [(a, .inl (G.2.1, N, .inl f))]  [(a, .inl (G.2.1, N, .inl (fun _ => v)))] := by
  refine vq_openv (cc := cJ7_fill_53178) (maxL := 4) (ret := none) (Ts' := wsJ7_fill_53178.tail) (by decide) rfl (Nat.le_of_ble_eq_true rfl) ?_
  intro p e s m args below meth c A ls C h hnm hl
  have hx := C.1.1
  have hb := C.1.2.1
  have hts := C.1.2.2.2.2
  have hl : lv_has ls 4 [(0, .ref a), (1, .int v)] := hl
  refine lv_iconst (v := nI 0) hx hb dJ7_fill_53178_0 (by decide) ?_
  refine lv_istore_n (lv' := [(2, .int (nI 0)), (0, .ref a), (1, .int v)]) hx hb dJ7_fill_53178_1 rfl hl (by decide) rfl (fun ls hl => ?_)
  refine lv_aload_n hx hb dJ7_fill_53178_2 rfl (lv_at hl 1 rfl) ?_
  refine q_alen (n := N) C h 0 rfl dJ7_fill_53178_3 ?_
  refine lv_istore_n (lv' := [(3, .int (nI N)), (2, .int (nI 0)), (0, .ref a), (1, .int v)]) hx hb dJ7_fill_53178_4 rfl hl (by decide) rfl (fun ls hl => ?_)
  have loop5 : ∀ (fu : Nat) (k : Nat) (g : Nat → Int32), N - k < fu → g = q_fill f v k → (k ≤ N) → ∀ (H : Heap) (locs : List Loc), vq_H G A s [(a, .inl (G.2.1, N, .inl g))] H locs → ∀ (ls : Array Slot), lv_has ls 4 [(3, .int (nI N)), (2, .int (nI k)), (0, .ref a), (1, .int v)] → W p l e ({ frames := 0, cells := 0, slots := 0, locals := 0 } : Room) s m args below meth c H locs 0 0 (MQ below (va_Qv (fun (_ : Unit) => True) (fun _ => vq_T G A [(a, .inl (G.2.1, N, .inl (fun _ => v)))]) A) args s 0 0 A) (F0 m 5 ls []) := by
    intro fu
    induction fu with
    | zero => exact fun k g hm => absurd hm (Nat.not_lt_zero _)
    | succ fu ih =>
      intro k g hm5 e_g hk H locs h ls hl
      have ih5 := ih
      clear ih
      refine lv_iload_n hx hb dJ7_fill_53178_5 rfl (lv_at hl 1 rfl) ?_
      refine lv_iload_n hx hb dJ7_fill_53178_6 rfl (lv_at hl 0 rfl) ?_
      refine q_icmp_ge (tgt := 20) hx hb (by omega) (by omega) dJ7_fill_53178_7 (by decide) (fun z7 => ?_) (fun z7 => ?_)
      · have h := q_reI h 0 (fun _ => v) rfl (fun j hj => by rw [e_g]; exact q_fill_at f v (by omega))
        have h : vq_H G A s [(a, .inl (G.2.1, N, .inl (fun _ => v)))] H locs := h
        exact q_retv C h rfl rfl dJ7_fill_53178_20
      · refine lv_aload_n hx hb dJ7_fill_53178_10 rfl (lv_at hl 2 rfl) ?_
        refine lv_iload_n hx hb dJ7_fill_53178_11 rfl (lv_at hl 1 rfl) ?_
        refine lv_iload_n hx hb dJ7_fill_53178_12 rfl (lv_at hl 3 rfl) ?_
        refine q_iast (i := k) (g := upd g k v) (w' := [(a, .inl (G.2.1, N, .inl (upd g k v)))]) C h 0 rfl (by omega) (by omega) rfl rfl dJ7_fill_53178_13 (fun H locs h => ?_)
        refine lv_iinc (v := nI (k + 1)) (lv' := [(2, .int (nI (k + 1))), (3, .int (nI N)), (0, .ref a), (1, .int v)]) hx hb dJ7_fill_53178_14 hl (k := 1) rfl (q_inc k) (by decide) rfl (fun ls hl => ?_)
        refine lv_goto (tgt := 5) hx hb dJ7_fill_53178_17 (by decide) ?_
        exact ih5 (k + 1) (upd g k v) (by omega) (show (upd g k v) = q_fill f v (k + 1) from (by rw [e_g]; exact q_fill_1 f v k)) (show (k + 1) ≤ N from (by omega)) _ _ h _ (lv_sub hl [1, 0, 2, 3] rfl)
  exact loop5 (N - 0 + 1) 0 f (Nat.lt_succ_self _) (show f = q_fill f v 0 from (q_fill_0 f v)) (show 0 ≤ N from (Nat.zero_le _)) _ _ h _ (lv_sub hl [0, 1, 2, 3] rfl)

set_option maxHeartbeats 4000000 in
set_option maxRecDepth 100000 in
theorem c_J7_fill_d0a16 (l : Launch) (G : vq_G) (a N : Nat) (f : Nat → Int64) (v : Int64) (hN : N < 2 ^ 31) : vq_v l yJ7_fill_d0a16 wsJ7_fill_d0a16 0 0 G [.ref a, .long v] [(a, .inl (G.2.2, N, .inr (.inl f)))]  [(a, .inl (G.2.2, N, .inr (.inl (fun _ => v))))] := by
  refine vq_openv (cc := cJ7_fill_d0a16) (maxL := 5) (ret := none) (Ts' := wsJ7_fill_d0a16.tail) (by decide) rfl (Nat.le_of_ble_eq_true rfl) ?_
  intro p e s m args below meth c A ls C h hnm hl
  have hx := C.1.1
  have hb := C.1.2.1
  have hts := C.1.2.2.2.2
  have hl : lv_has ls 5 [(0, .ref a), (1, .long v)] := hl
  refine lv_iconst (v := nI 0) hx hb dJ7_fill_d0a16_0 (by decide) ?_
  refine lv_istore_n (lv' := [(3, .int (nI 0)), (0, .ref a), (1, .long v)]) hx hb dJ7_fill_d0a16_1 rfl hl (by decide) rfl (fun ls hl => ?_)
  refine lv_aload_n hx hb dJ7_fill_d0a16_2 rfl (lv_at hl 1 rfl) ?_
  refine q_alenL (n := N) C h 0 rfl dJ7_fill_d0a16_3 ?_
  refine lv_istore (lv' := [(4, .int (nI N)), (3, .int (nI 0)), (0, .ref a), (1, .long v)]) hx hb dJ7_fill_d0a16_4 hl (by decide) rfl (fun ls hl => ?_)
  have loop6 : ∀ (fu : Nat) (k : Nat) (g : Nat → Int64), N - k < fu → g = q_fillL f v k → (k ≤ N) → ∀ (H : Heap) (locs : List Loc), vq_H G A s [(a, .inl (G.2.2, N, .inr (.inl g)))] H locs → ∀ (ls : Array Slot), lv_has ls 5 [(4, .int (nI N)), (3, .int (nI k)), (0, .ref a), (1, .long v)] → W p l e ({ frames := 0, cells := 0, slots := 0, locals := 0 } : Room) s m args below meth c H locs 0 0 (MQ below (va_Qv (fun (_ : Unit) => True) (fun _ => vq_T G A [(a, .inl (G.2.2, N, .inr (.inl (fun _ => v))))]) A) args s 0 0 A) (F0 m 6 ls []) := by
    intro fu
    induction fu with
    | zero => exact fun k g hm => absurd hm (Nat.not_lt_zero _)
    | succ fu ih =>
      intro k g hm6 e_g hk H locs h ls hl
      have ih6 := ih
      clear ih
      refine lv_iload_n hx hb dJ7_fill_d0a16_6 rfl (lv_at hl 1 rfl) ?_
      refine lv_iload hx hb dJ7_fill_d0a16_7 (lv_at hl 0 rfl) ?_
      refine q_icmp_ge (tgt := 22) hx hb (by omega) (by omega) dJ7_fill_d0a16_9 (by decide) (fun z9 => ?_) (fun z9 => ?_)
      · have h := q_reL h 0 (fun _ => v) rfl (fun j hj => by rw [e_g]; exact q_fillL_at f v (by omega))
        have h : vq_H G A s [(a, .inl (G.2.2, N, .inr (.inl (fun _ => v))))] H locs := h
        exact q_retv C h rfl rfl dJ7_fill_d0a16_22
      · refine lv_aload_n hx hb dJ7_fill_d0a16_12 rfl (lv_at hl 2 rfl) ?_
        refine lv_iload_n hx hb dJ7_fill_d0a16_13 rfl (lv_at hl 1 rfl) ?_
        refine lv_lload_n hx hb dJ7_fill_d0a16_14 rfl (lv_at hl 3 rfl) ?_
        refine q_last (i := k) (g := vp_updL g k v) (w' := [(a, .inl (G.2.2, N, .inr (.inl (vp_updL g k v))))]) C h 0 rfl (by omega) (by omega) rfl rfl dJ7_fill_d0a16_15 (fun H locs h => ?_)
        refine lv_iinc (v := nI (k + 1)) (lv' := [(3, .int (nI (k + 1))), (4, .int (nI N)), (0, .ref a), (1, .long v)]) hx hb dJ7_fill_d0a16_16 hl (k := 1) rfl (q_inc k) (by decide) rfl (fun ls hl => ?_)
        refine lv_goto (tgt := 6) hx hb dJ7_fill_d0a16_19 (by decide) ?_
        exact ih6 (k + 1) (vp_updL g k v) (by omega) (show (vp_updL g k v) = q_fillL f v (k + 1) from (by rw [e_g]; exact q_fillL_1 f v k)) (show (k + 1) ≤ N from (by omega)) _ _ h _ (lv_sub hl [1, 0, 2, 3] rfl)
  exact loop6 (N - 0 + 1) 0 f (Nat.lt_succ_self _) (show f = q_fillL f v 0 from (q_fillL_0 f v)) (show 0 ≤ N from (Nat.zero_le _)) _ _ h _ (lv_sub hl [0, 1, 2, 3] rfl)

set_option maxHeartbeats 4000000 in
set_option maxRecDepth 100000 in
theorem c_X4_sum (l : Launch) (G : vq_G) (o0 al : Nat) (w : Nat → Nat) : vq_i l yX4_sum wsX4_sum 0 0 G [.ref o0] [(o0, .inr (4, [.ref al])), (al, .inl (G.2.1, 12, .inl (fun zz => nI (w zz))))] (nI (q_sum w 12)) [(o0, .inr (4, [.ref al])), (al, .inl (G.2.1, 12, .inl (fun zz => nI (w zz))))] := by
  refine vq_openi (cc := cX4_sum) (maxL := 3) (ret := (some .int)) (Ts' := wsX4_sum.tail) (by decide) rfl (Nat.le_of_ble_eq_true rfl) ?_
  intro p e s m args below meth c A ls C h hnm hl
  have hx := C.1.1
  have hb := C.1.2.1
  have hts := C.1.2.2.2.2
  have hl : lv_has ls 3 [(0, .ref o0)] := hl
  have f20 := C.1.2.2.2.2 (.fieldLink RX4 20 "FountainCode$Weights" "list" "[I") (by decide +kernel)
  have iX4 : ∀ w ∈ u_ws RX4 TX4 1, w ∈ wsX4_sum := by decide +kernel
  refine lv_iconst (v := nI 0) hx hb dX4_sum_0 (by decide) ?_
  refine lv_istore_n (lv' := [(1, .int (nI 0)), (0, .ref o0)]) hx hb dX4_sum_1 rfl hl (by decide) rfl (fun ls hl => ?_)
  refine lv_iconst (v := nI 0) hx hb dX4_sum_2 (by decide) ?_
  refine lv_istore_n (lv' := [(2, .int (nI 0)), (1, .int (nI 0)), (0, .ref o0)]) hx hb dX4_sum_3 rfl hl (by decide) rfl (fun ls hl => ?_)
  have loop4 : ∀ (fu : Nat) (k : Nat) (y : Nat), 12 - k < fu → y = q_sum w k → (k ≤ 12) → ∀ (H : Heap) (locs : List Loc), vq_H G A s [(o0, .inr (4, [.ref al])), (al, .inl (G.2.1, 12, .inl (fun zz => nI (w zz))))] H locs → ∀ (ls : Array Slot), lv_has ls 3 [(2, .int (nI k)), (1, .int (nI y)), (0, .ref o0)] → W p l e ({ frames := 0, cells := 0, slots := 0, locals := 0 } : Room) s m args below meth c H locs 0 0 (MQ below (va_Qi (fun zr (_ : Unit) => zr = (nI (q_sum w 12))) (fun _ => vq_T G A [(o0, .inr (4, [.ref al])), (al, .inl (G.2.1, 12, .inl (fun zz => nI (w zz))))]) A) args s 0 0 A) (F0 m 4 ls []) := by
    intro fu
    induction fu with
    | zero => exact fun k y hm => absurd hm (Nat.not_lt_zero _)
    | succ fu ih =>
      intro k y hm4 e_y hk H locs h ls hl
      have ih4 := ih
      clear ih
      refine lv_iload_n hx hb dX4_sum_4 rfl (lv_at hl 0 rfl) ?_
      refine lv_aload_n hx hb dX4_sum_5 rfl (lv_at hl 2 rfl) ?_
      refine q_get (Cn := RX4) (T := TX4) (N := 1) (ci := 4) (v := .ref al) C h iX4 0 rfl rfl 0 (by decide) f20 rfl dX4_sum_6 ?_
      refine q_alen (n := 12) C h 1 rfl dX4_sum_9 ?_
      refine q_icmp_ge (tgt := 28) hx hb (by omega) (by omega) dX4_sum_10 (by decide) (fun z10 => ?_) (fun z10 => ?_)
      · refine lv_iload_n hx hb dX4_sum_28 rfl (lv_at hl 1 rfl) ?_
        exact q_reti C h rfl (by rw [e_y, show k = 12 from by omega]) rfl dX4_sum_29
      · refine lv_iload_n hx hb dX4_sum_13 rfl (lv_at hl 1 rfl) ?_
        refine lv_aload_n hx hb dX4_sum_14 rfl (lv_at hl 2 rfl) ?_
        refine q_get (Cn := RX4) (T := TX4) (N := 1) (ci := 4) (v := .ref al) C h iX4 0 rfl rfl 0 (by decide) f20 rfl dX4_sum_15 ?_
        refine lv_iload_n hx hb dX4_sum_18 rfl (lv_at hl 0 rfl) ?_
        refine q_iald (i := k) (v := (nI (w k))) C h 1 rfl (by omega) (by omega) rfl dX4_sum_19 ?_
        refine q_iadd hx hb dX4_sum_20 ?_
        refine lv_istore_n (lv' := [(1, .int (nI (y + w k))), (2, .int (nI k)), (0, .ref o0)]) hx hb dX4_sum_21 rfl hl (by decide) rfl (fun ls hl => ?_)
        refine lv_iinc (v := nI (k + 1)) (lv' := [(2, .int (nI (k + 1))), (1, .int (nI (y + w k))), (0, .ref o0)]) hx hb dX4_sum_22 hl (k := 1) rfl (q_inc k) (by decide) rfl (fun ls hl => ?_)
        refine lv_goto (tgt := 4) hx hb dX4_sum_25 (by decide) ?_
        exact ih4 (k + 1) (y + w k) (by omega) (show (y + w k) = q_sum w (k + 1) from (by rw [e_y]; rfl)) (show (k + 1) ≤ 12 from (by omega)) _ _ h _ (lv_sub hl [0, 1, 2] rfl)
  exact loop4 (12 - 0 + 1) 0 0 (Nat.lt_succ_self _) (show 0 = q_sum w 0 from rfl) (show 0 ≤ 12 from (Nat.zero_le _)) _ _ h _ (lv_sub hl [0, 1, 2] rfl)

set_option maxHeartbeats 4000000 in
set_option maxRecDepth 100000 in
theorem c_X4_weightOf (l : Launch) (G : vq_G) (o0 al : Nat) (w : Nat → Nat) (d : Nat) (h1 : 1 ≤ d) (h2 : d ≤ 12) : vq_i l yX4_weightOf wsX4_weightOf 0 0 G [.ref o0, .int (nI d)] [(o0, .inr (4, [.ref al])), (al, .inl (G.2.1, 12, .inl (fun zz => nI (w zz))))] (nI (w (d - 1))) [(o0, .inr (4, [.ref al])), (al, .inl (G.2.1, 12, .inl (fun zz => nI (w zz))))] := by
  refine vq_openi (cc := cX4_weightOf) (maxL := 3) (ret := (some .int)) (Ts' := wsX4_weightOf.tail) (by decide) rfl (Nat.le_of_ble_eq_true rfl) ?_
  intro p e s m args below meth c A ls C h hnm hl
  have hx := C.1.1
  have hb := C.1.2.1
  have hts := C.1.2.2.2.2
  have hl : lv_has ls 3 [(0, .ref o0), (1, .int (nI d))] := hl
  have f20 := C.1.2.2.2.2 (.fieldLink RX4 20 "FountainCode$Weights" "list" "[I") (by decide +kernel)
  have iX4 : ∀ w ∈ u_ws RX4 TX4 1, w ∈ wsX4_weightOf := by decide +kernel
  refine lv_iload_n hx hb dX4_weightOf_0 rfl (lv_at hl 1 rfl) ?_
  refine lv_iconst (v := nI 1) hx hb dX4_weightOf_1 (by decide) ?_
  refine q_isub hx hb (by omega) dX4_weightOf_2 ?_
  refine lv_istore_n (lv' := [(2, .int (nI (d - 1))), (0, .ref o0), (1, .int (nI d))]) hx hb dX4_weightOf_3 rfl hl (by decide) rfl (fun ls hl => ?_)
  refine lv_iload_n hx hb dX4_weightOf_4 rfl (lv_at hl 0 rfl) ?_
  refine q_if_lt (tgt := 26) hx hb (by omega) dX4_weightOf_5 (by decide) (fun z5 => absurd z5 (by omega)) (fun z5 => ?_)
  refine lv_iload_n hx hb dX4_weightOf_8 rfl (lv_at hl 0 rfl) ?_
  refine lv_aload_n hx hb dX4_weightOf_9 rfl (lv_at hl 1 rfl) ?_
  refine q_get (Cn := RX4) (T := TX4) (N := 1) (ci := 4) (v := .ref al) C h iX4 0 rfl rfl 0 (by decide) f20 rfl dX4_weightOf_10 ?_
  refine q_alen (n := 12) C h 1 rfl dX4_weightOf_13 ?_
  refine q_icmp_ge (tgt := 26) hx hb (by omega) (by omega) dX4_weightOf_14 (by decide) (fun z14 => absurd z14 (by omega)) (fun z14 => ?_)
  refine lv_aload_n hx hb dX4_weightOf_17 rfl (lv_at hl 1 rfl) ?_
  refine q_get (Cn := RX4) (T := TX4) (N := 1) (ci := 4) (v := .ref al) C h iX4 0 rfl rfl 0 (by decide) f20 rfl dX4_weightOf_18 ?_
  refine lv_iload_n hx hb dX4_weightOf_21 rfl (lv_at hl 0 rfl) ?_
  refine q_iald (i := d - 1) (v := (nI (w (d - 1)))) C h 1 rfl (by omega) (by omega) rfl dX4_weightOf_22 ?_
  refine lv_goto (tgt := 27) hx hb dX4_weightOf_23 (by decide) ?_
  exact q_reti C h rfl rfl rfl dX4_weightOf_27

set_option maxHeartbeats 4000000 in
set_option maxRecDepth 100000 in
theorem c_X4_change (l : Launch) (G : vq_G) (o0 al : Nat) (w : Nat → Nat) (d x : Nat) (h1 : 1 ≤ d) (h2 : d ≤ 12) : vq_v l yX4_change wsX4_change 0 0 G [.ref o0, .int (nI d), .int (nI x)] [(o0, .inr (4, [.ref al])), (al, .inl (G.2.1, 12, .inl (fun zz => nI (w zz))))]  [(o0, .inr (4, [.ref al])), (al, .inl (G.2.1, 12, .inl (fun zz => nI (va_up w (d - 1) x zz))))] := by
  refine vq_openv (cc := cX4_change) (maxL := 4) (ret := none) (Ts' := wsX4_change.tail) (by decide) rfl (Nat.le_of_ble_eq_true rfl) ?_
  intro p e s m args below meth c A ls C h hnm hl
  have hx := C.1.1
  have hb := C.1.2.1
  have hts := C.1.2.2.2.2
  have hl : lv_has ls 4 [(0, .ref o0), (1, .int (nI d)), (2, .int (nI x))] := hl
  have f20 := C.1.2.2.2.2 (.fieldLink RX4 20 "FountainCode$Weights" "list" "[I") (by decide +kernel)
  have iX4 : ∀ w ∈ u_ws RX4 TX4 1, w ∈ wsX4_change := by decide +kernel
  refine lv_iload_n hx hb dX4_change_0 rfl (lv_at hl 1 rfl) ?_
  refine lv_iconst (v := nI 1) hx hb dX4_change_1 (by decide) ?_
  refine q_isub hx hb (by omega) dX4_change_2 ?_
  refine lv_istore_n (lv' := [(3, .int (nI (d - 1))), (0, .ref o0), (1, .int (nI d)), (2, .int (nI x))]) hx hb dX4_change_3 rfl hl (by decide) rfl (fun ls hl => ?_)
  refine lv_iload_n hx hb dX4_change_4 rfl (lv_at hl 0 rfl) ?_
  refine q_if_lt (tgt := 24) hx hb (by omega) dX4_change_5 (by decide) (fun z5 => absurd z5 (by omega)) (fun z5 => ?_)
  refine lv_iload_n hx hb dX4_change_8 rfl (lv_at hl 0 rfl) ?_
  refine lv_aload_n hx hb dX4_change_9 rfl (lv_at hl 1 rfl) ?_
  refine q_get (Cn := RX4) (T := TX4) (N := 1) (ci := 4) (v := .ref al) C h iX4 0 rfl rfl 0 (by decide) f20 rfl dX4_change_10 ?_
  refine q_alen (n := 12) C h 1 rfl dX4_change_13 ?_
  refine q_icmp_ge (tgt := 24) hx hb (by omega) (by omega) dX4_change_14 (by decide) (fun z14 => absurd z14 (by omega)) (fun z14 => ?_)
  refine lv_aload_n hx hb dX4_change_17 rfl (lv_at hl 1 rfl) ?_
  refine q_get (Cn := RX4) (T := TX4) (N := 1) (ci := 4) (v := .ref al) C h iX4 0 rfl rfl 0 (by decide) f20 rfl dX4_change_18 ?_
  refine lv_iload_n hx hb dX4_change_21 rfl (lv_at hl 0 rfl) ?_
  refine lv_iload_n hx hb dX4_change_22 rfl (lv_at hl 3 rfl) ?_
  refine q_iast (i := d - 1) (g := (fun zz => nI ((va_up w (d - 1) x) zz))) (w' := [(o0, .inr (4, [.ref al])), (al, .inl (G.2.1, 12, .inl (fun zz => nI ((va_up w (d - 1) x) zz))))]) C h 1 rfl (by omega) (by omega) (q_upN _ _ _) rfl dX4_change_23 (fun H locs h => ?_)
  exact q_retv C h rfl (by rfl) dX4_change_24

set_option maxHeartbeats 4000000 in
set_option maxRecDepth 100000 in
theorem c_X4_degreeFor (l : Launch) (G : vq_G) (o0 al : Nat) (w : Nat → Nat) (r : Nat) (hW : ∀ j, w j ≤ 1000) (hr : r < q_sum w 12) : vq_i l yX4_degreeFor wsX4_degreeFor 0 0 G [.ref o0, .int (nI r)] [(o0, .inr (4, [.ref al])), (al, .inl (G.2.1, 12, .inl (fun zz => nI (w zz))))] (nI (q_deg w r)) [(o0, .inr (4, [.ref al])), (al, .inl (G.2.1, 12, .inl (fun zz => nI (w zz))))] := by
  refine vq_openi (cc := cX4_degreeFor) (maxL := 4) (ret := (some .int)) (Ts' := wsX4_degreeFor.tail) (by decide) rfl (Nat.le_of_ble_eq_true rfl) ?_
  intro p e s m args below meth c A ls C h hnm hl
  have hx := C.1.1
  have hb := C.1.2.1
  have hts := C.1.2.2.2.2
  have hl : lv_has ls 4 [(0, .ref o0), (1, .int (nI r))] := hl
  have f20 := C.1.2.2.2.2 (.fieldLink RX4 20 "FountainCode$Weights" "list" "[I") (by decide +kernel)
  have iX4 : ∀ w ∈ u_ws RX4 TX4 1, w ∈ wsX4_degreeFor := by decide +kernel
  refine lv_iconst (v := nI 0) hx hb dX4_degreeFor_0 (by decide) ?_
  refine lv_istore_n (lv' := [(2, .int (nI 0)), (0, .ref o0), (1, .int (nI r))]) hx hb dX4_degreeFor_1 rfl hl (by decide) rfl (fun ls hl => ?_)
  refine lv_iconst (v := nI 0) hx hb dX4_degreeFor_2 (by decide) ?_
  refine lv_istore_n (lv' := [(3, .int (nI 0)), (2, .int (nI 0)), (0, .ref o0), (1, .int (nI r))]) hx hb dX4_degreeFor_3 rfl hl (by decide) rfl (fun ls hl => ?_)
  have loop4 : ∀ (fu : Nat) (k : Nat) (y : Nat), 12 - k < fu → y = q_sum w k → (k ≤ 12) → (∀ j, j ≤ k → q_sum w j ≤ r) → ∀ (H : Heap) (locs : List Loc), vq_H G A s [(o0, .inr (4, [.ref al])), (al, .inl (G.2.1, 12, .inl (fun zz => nI (w zz))))] H locs → ∀ (ls : Array Slot), lv_has ls 4 [(3, .int (nI k)), (2, .int (nI y)), (0, .ref o0), (1, .int (nI r))] → W p l e ({ frames := 0, cells := 0, slots := 0, locals := 0 } : Room) s m args below meth c H locs 0 0 (MQ below (va_Qi (fun zr (_ : Unit) => zr = (nI (q_deg w r))) (fun _ => vq_T G A [(o0, .inr (4, [.ref al])), (al, .inl (G.2.1, 12, .inl (fun zz => nI (w zz))))]) A) args s 0 0 A) (F0 m 4 ls []) := by
    intro fu
    induction fu with
    | zero => exact fun k y hm => absurd hm (Nat.not_lt_zero _)
    | succ fu ih =>
      intro k y hm4 e_y hk hall H locs h ls hl
      have ih4 := ih
      clear ih
      refine lv_iload_n hx hb dX4_degreeFor_4 rfl (lv_at hl 0 rfl) ?_
      refine lv_aload_n hx hb dX4_degreeFor_5 rfl (lv_at hl 2 rfl) ?_
      refine q_get (Cn := RX4) (T := TX4) (N := 1) (ci := 4) (v := .ref al) C h iX4 0 rfl rfl 0 (by decide) f20 rfl dX4_degreeFor_6 ?_
      refine q_alen (n := 12) C h 1 rfl dX4_degreeFor_9 ?_
      refine q_icmp_ge (tgt := 37) hx hb (by omega) (by omega) dX4_degreeFor_10 (by decide) (fun z10 => absurd z10 (fun z => by have := hall k (Nat.le_refl _); rw [show k = 12 from by omega] at this; omega)) (fun z10 => ?_)
      refine lv_iload_n hx hb dX4_degreeFor_13 rfl (lv_at hl 1 rfl) ?_
      refine lv_aload_n hx hb dX4_degreeFor_14 rfl (lv_at hl 2 rfl) ?_
      refine q_get (Cn := RX4) (T := TX4) (N := 1) (ci := 4) (v := .ref al) C h iX4 0 rfl rfl 0 (by decide) f20 rfl dX4_degreeFor_15 ?_
      refine lv_iload_n hx hb dX4_degreeFor_18 rfl (lv_at hl 0 rfl) ?_
      refine q_iald (i := k) (v := (nI (w k))) C h 1 rfl (by omega) (by omega) rfl dX4_degreeFor_19 ?_
      refine q_iadd hx hb dX4_degreeFor_20 ?_
      refine lv_istore_n (lv' := [(2, .int (nI (y + w k))), (3, .int (nI k)), (0, .ref o0), (1, .int (nI r))]) hx hb dX4_degreeFor_21 rfl hl (by decide) rfl (fun ls hl => ?_)
      refine lv_iload_n hx hb dX4_degreeFor_22 rfl (lv_at hl 0 rfl) ?_
      refine lv_iload_n hx hb dX4_degreeFor_23 rfl (lv_at hl 3 rfl) ?_
      refine q_icmp_le (tgt := 31) hx hb (by have := q_sum_le hW k; have := hW k; omega) (by have := q_sum_le hW 12; omega) dX4_degreeFor_24 (by decide) (fun z24 => ?_) (fun z24 => ?_)
      · refine lv_iinc (v := nI (k + 1)) (lv' := [(3, .int (nI (k + 1))), (2, .int (nI (y + w k))), (0, .ref o0), (1, .int (nI r))]) hx hb dX4_degreeFor_31 hl (k := 1) rfl (q_inc k) (by decide) rfl (fun ls hl => ?_)
        refine lv_goto (tgt := 4) hx hb dX4_degreeFor_34 (by decide) ?_
        exact ih4 (k + 1) (y + w k) (by omega) (show (y + w k) = q_sum w (k + 1) from (by rw [e_y]; rfl)) (show (k + 1) ≤ 12 from (by omega)) (show ∀ j, j ≤ (k + 1) → q_sum w j ≤ r from (fun j hj => by rcases Nat.lt_or_ge j (k + 1) with a | a; exact hall j (by omega); rw [show j = k + 1 from by omega]; show q_sum w k + w k ≤ r; omega)) _ _ h _ (lv_sub hl [0, 1, 2, 3] rfl)
      · refine lv_iload_n hx hb dX4_degreeFor_27 rfl (lv_at hl 1 rfl) ?_
        refine lv_iconst (v := nI 1) hx hb dX4_degreeFor_28 (by decide) ?_
        refine q_iadd hx hb dX4_degreeFor_29 ?_
        exact q_reti C h rfl (by rw [q_deg_eq (d := k + 1) (show r < q_sum w k + w k from by omega) (fun j hj => hall j (by omega))]) rfl dX4_degreeFor_30
  exact loop4 (12 - 0 + 1) 0 0 (Nat.lt_succ_self _) (show 0 = q_sum w 0 from rfl) (show 0 ≤ 12 from (Nat.zero_le _)) (show ∀ j, j ≤ 0 → q_sum w j ≤ r from (fun j hj => by rw [show j = 0 from by omega]; exact Nat.zero_le _)) _ _ h _ (lv_sub hl [0, 1, 2, 3] rfl)

set_option maxHeartbeats 4000000 in
set_option maxRecDepth 100000 in
theorem c_X3_sourceCount (l : Launch) (G : vq_G) (o0 av : Nat) (vals : Nat → Int32) (S P : Nat) : vq_i l yX3_sourceCount wsX3_sourceCount 0 0 G [.ref o0] [(o0, .inr (3, [.ref av, .int (nI S), .int (nI P)])), (av, .inl (G.2.1, 32, .inl vals))] (nI S) [(o0, .inr (3, [.ref av, .int (nI S), .int (nI P)])), (av, .inl (G.2.1, 32, .inl vals))] := by
  refine vq_openi (cc := cX3_sourceCount) (maxL := 1) (ret := (some .int)) (Ts' := wsX3_sourceCount.tail) (by decide) rfl (Nat.le_of_ble_eq_true rfl) ?_
  intro p e s m args below meth c A ls C h hnm hl
  have hx := C.1.1
  have hb := C.1.2.1
  have hts := C.1.2.2.2.2
  have hl : lv_has ls 1 [(0, .ref o0)] := hl
  have f15 := C.1.2.2.2.2 (.fieldLink RX3 15 "FountainCode$Sender" "sources" "I") (by decide +kernel)
  have iX3 : ∀ w ∈ u_ws RX3 TX3 3, w ∈ wsX3_sourceCount := by decide +kernel
  refine lv_aload_n hx hb dX3_sourceCount_0 rfl (lv_at hl 0 rfl) ?_
  refine q_get (Cn := RX3) (T := TX3) (N := 3) (ci := 3) (v := .int (nI S)) C h iX3 0 rfl rfl 1 (by decide) f15 rfl dX3_sourceCount_1 ?_
  exact q_reti C h rfl rfl rfl dX3_sourceCount_4

set_option maxHeartbeats 4000000 in
set_option maxRecDepth 100000 in
theorem c_X3_parityCount (l : Launch) (G : vq_G) (o0 av : Nat) (vals : Nat → Int32) (S P : Nat) : vq_i l yX3_parityCount wsX3_parityCount 0 0 G [.ref o0] [(o0, .inr (3, [.ref av, .int (nI S), .int (nI P)])), (av, .inl (G.2.1, 32, .inl vals))] (nI P) [(o0, .inr (3, [.ref av, .int (nI S), .int (nI P)])), (av, .inl (G.2.1, 32, .inl vals))] := by
  refine vq_openi (cc := cX3_parityCount) (maxL := 1) (ret := (some .int)) (Ts' := wsX3_parityCount.tail) (by decide) rfl (Nat.le_of_ble_eq_true rfl) ?_
  intro p e s m args below meth c A ls C h hnm hl
  have hx := C.1.1
  have hb := C.1.2.1
  have hts := C.1.2.2.2.2
  have hl : lv_has ls 1 [(0, .ref o0)] := hl
  have f19 := C.1.2.2.2.2 (.fieldLink RX3 19 "FountainCode$Sender" "parities" "I") (by decide +kernel)
  have iX3 : ∀ w ∈ u_ws RX3 TX3 3, w ∈ wsX3_parityCount := by decide +kernel
  refine lv_aload_n hx hb dX3_parityCount_0 rfl (lv_at hl 0 rfl) ?_
  refine q_get (Cn := RX3) (T := TX3) (N := 3) (ci := 3) (v := .int (nI P)) C h iX3 0 rfl rfl 2 (by decide) f19 rfl dX3_parityCount_1 ?_
  exact q_reti C h rfl rfl rfl dX3_parityCount_4

set_option maxHeartbeats 4000000 in
set_option maxRecDepth 100000 in
theorem c_X3_blockCount (l : Launch) (G : vq_G) (o0 av : Nat) (vals : Nat → Int32) (S P : Nat) : vq_i l yX3_blockCount wsX3_blockCount 0 0 G [.ref o0] [(o0, .inr (3, [.ref av, .int (nI S), .int (nI P)])), (av, .inl (G.2.1, 32, .inl vals))] (nI (S + P)) [(o0, .inr (3, [.ref av, .int (nI S), .int (nI P)])), (av, .inl (G.2.1, 32, .inl vals))] := by
  refine vq_openi (cc := cX3_blockCount) (maxL := 1) (ret := (some .int)) (Ts' := wsX3_blockCount.tail) (by decide) rfl (Nat.le_of_ble_eq_true rfl) ?_
  intro p e s m args below meth c A ls C h hnm hl
  have hx := C.1.1
  have hb := C.1.2.1
  have hts := C.1.2.2.2.2
  have hl : lv_has ls 1 [(0, .ref o0)] := hl
  have f15 := C.1.2.2.2.2 (.fieldLink RX3 15 "FountainCode$Sender" "sources" "I") (by decide +kernel)
  have iX3 : ∀ w ∈ u_ws RX3 TX3 3, w ∈ wsX3_blockCount := by decide +kernel
  have f19 := C.1.2.2.2.2 (.fieldLink RX3 19 "FountainCode$Sender" "parities" "I") (by decide +kernel)
  refine lv_aload_n hx hb dX3_blockCount_0 rfl (lv_at hl 0 rfl) ?_
  refine q_get (Cn := RX3) (T := TX3) (N := 3) (ci := 3) (v := .int (nI S)) C h iX3 0 rfl rfl 1 (by decide) f15 rfl dX3_blockCount_1 ?_
  refine lv_aload_n hx hb dX3_blockCount_4 rfl (lv_at hl 0 rfl) ?_
  refine q_get (Cn := RX3) (T := TX3) (N := 3) (ci := 3) (v := .int (nI P)) C h iX3 0 rfl rfl 2 (by decide) f19 rfl dX3_blockCount_5 ?_
  refine q_iadd hx hb dX3_blockCount_8 ?_
  exact q_reti C h rfl rfl rfl dX3_blockCount_9

set_option maxHeartbeats 4000000 in
set_option maxRecDepth 100000 in
theorem c_X3_begin (l : Launch) (G : vq_G) (o0 av : Nat) (vals : Nat → Int32) (S P : Nat) (S2 P2 : Nat) : vq_v l yX3_begin wsX3_begin 1 23 G [.ref o0, .int (nI S2), .int (nI P2)] [(o0, .inr (3, [.ref av, .int (nI S), .int (nI P)])), (av, .inl (G.2.1, 32, .inl vals))]  [(o0, .inr (3, [.ref av, .int (nI S2), .int (nI P2)])), (av, .inl (G.2.1, 32, .inl (fun _ => (nI 0))))] := by
  refine vq_openv (cc := cX3_begin) (maxL := 3) (ret := none) (Ts' := wsX3_begin.tail) (by decide) rfl (Nat.le_of_ble_eq_true rfl) ?_
  intro p e s m args below meth c A ls C h hnm hl
  have hx := C.1.1
  have hb := C.1.2.1
  have hts := C.1.2.2.2.2
  have hl : lv_has ls 3 [(0, .ref o0), (1, .int (nI S2)), (2, .int (nI P2))] := hl
  have f15 := C.1.2.2.2.2 (.fieldLink RX3 15 "FountainCode$Sender" "sources" "I") (by decide +kernel)
  have iX3 : ∀ w ∈ u_ws RX3 TX3 3, w ∈ wsX3_begin := by decide +kernel
  have f19 := C.1.2.2.2.2 (.fieldLink RX3 19 "FountainCode$Sender" "parities" "I") (by decide +kernel)
  have f9 := C.1.2.2.2.2 (.fieldLink RX3 9 "FountainCode$Sender" "sourceValues" "[I") (by decide +kernel)
  refine lv_aload_n hx hb dX3_begin_0 rfl (lv_at hl 0 rfl) ?_
  refine lv_iload_n hx hb dX3_begin_1 rfl (lv_at hl 1 rfl) ?_
  refine q_put (Cn := RX3) (T := TX3) (N := 3) (ci := 3) (v := .int (nI S2)) (w' := [(o0, .inr (3, [.ref av, .int (nI S2), .int (nI P)])), (av, .inl (G.2.1, 32, .inl vals))]) C h iX3 tyX3 tyX3_ok nmX3 0 rfl rfl 1 (by decide) f15 rfl rfl rfl (Nat.le_of_ble_eq_true rfl) dX3_begin_2 rfl (fun H locs h => ?_)
  refine lv_aload_n hx hb dX3_begin_5 rfl (lv_at hl 0 rfl) ?_
  refine lv_iload_n hx hb dX3_begin_6 rfl (lv_at hl 2 rfl) ?_
  refine q_put (Cn := RX3) (T := TX3) (N := 3) (ci := 3) (v := .int (nI P2)) (w' := [(o0, .inr (3, [.ref av, .int (nI S2), .int (nI P2)])), (av, .inl (G.2.1, 32, .inl vals))]) C h iX3 tyX3 tyX3_ok nmX3 0 rfl rfl 2 (by decide) f19 rfl rfl rfl (Nat.le_of_ble_eq_true rfl) dX3_begin_7 rfl (fun H locs h => ?_)
  refine lv_aload_n hx hb dX3_begin_10 rfl (lv_at hl 0 rfl) ?_
  refine q_get (Cn := RX3) (T := TX3) (N := 3) (ci := 3) (v := .ref av) C h iX3 0 rfl rfl 0 (by decide) f9 rfl dX3_begin_11 ?_
  refine lv_iconst (v := nI 0) hx hb dX3_begin_14 (by decide) ?_
  refine q_callSv C h (c_J7_fill_53178 l G av 32 vals (nI 0) (by decide)) (va_cwS 2 hts gX3_begin_J7_fill_53178 rfl rfl rfl (by decide +kernel) ⟨Nat.le_of_ble_eq_true rfl, Nat.le_of_ble_eq_true rfl⟩) [1] rfl rfl [0] (wr := [(o0, .inr (3, [.ref av, .int (nI S2), .int (nI P2)]))]) rfl rfl (by decide) rfl hl.1 rfl (Nat.le_of_ble_eq_true rfl) dX3_begin_15 ⟨Nat.zero_le _, Nat.zero_le _⟩ [0, 1] (w' := [(o0, .inr (3, [.ref av, .int (nI S2), .int (nI P2)])), (av, .inl (G.2.1, 32, .inl (fun _ => (nI 0))))]) rfl rfl (fun H locs h => ?_)
  exact q_retv C h rfl rfl dX3_begin_18

set_option maxHeartbeats 4000000 in
set_option maxRecDepth 100000 in
theorem c_X3_change (l : Launch) (G : vq_G) (o0 av : Nat) (vals : Nat → Int32) (S P : Nat) (b : Nat) (x : Int32) (hb2 : b < 32) : vq_v l yX3_change wsX3_change 0 0 G [.ref o0, .int (nI b), .int x] [(o0, .inr (3, [.ref av, .int (nI S), .int (nI P)])), (av, .inl (G.2.1, 32, .inl vals))]  [(o0, .inr (3, [.ref av, .int (nI S), .int (nI P)])), (av, .inl (G.2.1, 32, .inl (upd vals b x)))] := by
  refine vq_openv (cc := cX3_change) (maxL := 3) (ret := none) (Ts' := wsX3_change.tail) (by decide) rfl (Nat.le_of_ble_eq_true rfl) ?_
  intro p e s m args below meth c A ls C h hnm hl
  have hx := C.1.1
  have hb := C.1.2.1
  have hts := C.1.2.2.2.2
  have hl : lv_has ls 3 [(0, .ref o0), (1, .int (nI b)), (2, .int x)] := hl
  have f9 := C.1.2.2.2.2 (.fieldLink RX3 9 "FountainCode$Sender" "sourceValues" "[I") (by decide +kernel)
  have iX3 : ∀ w ∈ u_ws RX3 TX3 3, w ∈ wsX3_change := by decide +kernel
  refine lv_iload_n hx hb dX3_change_0 rfl (lv_at hl 1 rfl) ?_
  refine q_if_lt (tgt := 20) hx hb (by omega) dX3_change_1 (by decide) (fun z1 => absurd z1 (by omega)) (fun z1 => ?_)
  refine lv_iload_n hx hb dX3_change_4 rfl (lv_at hl 1 rfl) ?_
  refine lv_aload_n hx hb dX3_change_5 rfl (lv_at hl 0 rfl) ?_
  refine q_get (Cn := RX3) (T := TX3) (N := 3) (ci := 3) (v := .ref av) C h iX3 0 rfl rfl 0 (by decide) f9 rfl dX3_change_6 ?_
  refine q_alen (n := 32) C h 1 rfl dX3_change_9 ?_
  refine q_icmp_ge (tgt := 20) hx hb (by omega) (by omega) dX3_change_10 (by decide) (fun z10 => absurd z10 (by omega)) (fun z10 => ?_)
  refine lv_aload_n hx hb dX3_change_13 rfl (lv_at hl 0 rfl) ?_
  refine q_get (Cn := RX3) (T := TX3) (N := 3) (ci := 3) (v := .ref av) C h iX3 0 rfl rfl 0 (by decide) f9 rfl dX3_change_14 ?_
  refine lv_iload_n hx hb dX3_change_17 rfl (lv_at hl 1 rfl) ?_
  refine lv_iload_n hx hb dX3_change_18 rfl (lv_at hl 2 rfl) ?_
  refine q_iast (i := b) (g := upd vals b x) (w' := [(o0, .inr (3, [.ref av, .int (nI S), .int (nI P)])), (av, .inl (G.2.1, 32, .inl (upd vals b x)))]) C h 1 rfl (by omega) (by omega) rfl rfl dX3_change_19 (fun H locs h => ?_)
  exact q_retv C h rfl rfl dX3_change_20

set_option maxHeartbeats 4000000 in
set_option maxRecDepth 100000 in
theorem c_X3_coveredBy (l : Launch) (G : vq_G) (o0 av : Nat) (vals : Nat → Int32) (S P : Nat) (j : Nat) (hS : S ≤ 32) (hj : j < 31) : vq_l l yX3_coveredBy wsX3_coveredBy 1 20 G [.ref o0, .int (nI j)] [(o0, .inr (3, [.ref av, .int (nI S), .int (nI P)])), (av, .inl (G.2.1, 32, .inl vals))] (q_cov j S) [(o0, .inr (3, [.ref av, .int (nI S), .int (nI P)])), (av, .inl (G.2.1, 32, .inl vals))] := by
  refine vq_openl (cc := cX3_coveredBy) (maxL := 5) (ret := (some .long)) (Ts' := wsX3_coveredBy.tail) (by decide) rfl (Nat.le_of_ble_eq_true rfl) ?_
  intro p e s m args below meth c A ls C h hnm hl
  have hx := C.1.1
  have hb := C.1.2.1
  have hts := C.1.2.2.2.2
  have hl : lv_has ls 5 [(0, .ref o0), (1, .int (nI j))] := hl
  have f15 := C.1.2.2.2.2 (.fieldLink RX3 15 "FountainCode$Sender" "sources" "I") (by decide +kernel)
  have iX3 : ∀ w ∈ u_ws RX3 TX3 3, w ∈ wsX3_coveredBy := by decide +kernel
  have iniX5 := C.1.2.2.2.2 (.initialized RX5) (by decide +kernel)
  have stX5_setOf := C.1.2.2.2.2 (.static yX5_setOf) (by decide +kernel)
  refine lv_lconst (v := 0) hx hb dX3_coveredBy_0 (by decide) ?_
  refine lv_lstore_n (lv' := [(2, .long 0), (0, .ref o0), (1, .int (nI j))]) hx hb dX3_coveredBy_1 rfl hl (by decide) rfl (fun ls hl => ?_)
  refine lv_iconst (v := nI 0) hx hb dX3_coveredBy_2 (by decide) ?_
  refine lv_istore (lv' := [(4, .int (nI 0)), (2, .long 0), (0, .ref o0), (1, .int (nI j))]) hx hb dX3_coveredBy_3 hl (by decide) rfl (fun ls hl => ?_)
  have loop5 : ∀ (fu : Nat) (k : Nat) (y : Int64), S - k < fu → y = q_cov j k → (k ≤ S) → ∀ (H : Heap) (locs : List Loc), vq_H G A s [(o0, .inr (3, [.ref av, .int (nI S), .int (nI P)])), (av, .inl (G.2.1, 32, .inl vals))] H locs → ∀ (ls : Array Slot), lv_has ls 5 [(4, .int (nI k)), (2, .long y), (0, .ref o0), (1, .int (nI j))] → W p l e ({ frames := 1, cells := 0, slots := 0, locals := 20 } : Room) s m args below meth c H locs 0 0 (MQ below (va_Ql (fun zr (_ : Unit) => zr = (q_cov j S)) (fun _ => vq_T G A [(o0, .inr (3, [.ref av, .int (nI S), .int (nI P)])), (av, .inl (G.2.1, 32, .inl vals))]) A) args s 0 0 A) (F0 m 5 ls []) := by
    intro fu
    induction fu with
    | zero => exact fun k y hm => absurd hm (Nat.not_lt_zero _)
    | succ fu ih =>
      intro k y hm5 e_y hk H locs h ls hl
      have ih5 := ih
      clear ih
      refine lv_iload hx hb dX3_coveredBy_5 (lv_at hl 0 rfl) ?_
      refine lv_aload_n hx hb dX3_coveredBy_7 rfl (lv_at hl 2 rfl) ?_
      refine q_get (Cn := RX3) (T := TX3) (N := 3) (ci := 3) (v := .int (nI S)) C h iX3 0 rfl rfl 1 (by decide) f15 rfl dX3_coveredBy_8 ?_
      refine q_icmp_ge (tgt := 39) hx hb (by omega) (by omega) dX3_coveredBy_11 (by decide) (fun z11 => ?_) (fun z11 => ?_)
      · refine lv_lload_n hx hb dX3_coveredBy_39 rfl (lv_at hl 1 rfl) ?_
        exact q_retl C h rfl (by rw [e_y, show k = S from by omega]) rfl dX3_coveredBy_40
      · refine lv_iload hx hb dX3_coveredBy_14 (lv_at hl 0 rfl) ?_
        refine lv_iconst (v := nI 1) hx hb dX3_coveredBy_16 (by decide) ?_
        refine q_iadd hx hb dX3_coveredBy_17 ?_
        refine lv_iload_n hx hb dX3_coveredBy_18 rfl (lv_at hl 3 rfl) ?_
        refine lv_ishr hx hb dX3_coveredBy_19 ?_
        refine q_top (v' := .int (nI ((k + 1) / 2 ^ j))) (congrArg Value.int (q_ishr (by omega) (by omega))) ?_
        refine lv_iconst (v := nI 1) hx hb dX3_coveredBy_20 (by decide) ?_
        refine lv_iand hx hb dX3_coveredBy_21 ?_
        refine q_top (v' := .int (q_b (q_cv j k))) (congrArg Value.int (q_and1b (q_half (by omega)))) ?_
        refine q_ifb_eq (tgt := 33) hx hb dX3_coveredBy_22 (by decide) (fun z22 => ?_) (fun z22 => ?_)
        · refine lv_iinc (v := nI (k + 1)) (lv' := [(4, .int (nI (k + 1))), (2, .long y), (0, .ref o0), (1, .int (nI j))]) hx hb dX3_coveredBy_33 hl (k := 0) rfl (q_inc k) (by decide) rfl (fun ls hl => ?_)
          refine lv_goto (tgt := 5) hx hb dX3_coveredBy_36 (by decide) ?_
          exact ih5 (k + 1) y (by omega) (show y = q_cov j (k + 1) from (by rw [e_y]; simp [q_cov, z22])) (show (k + 1) ≤ S from (by omega)) _ _ h _ (lv_sub hl [0, 1, 2, 3] rfl)
        · refine lv_lload_n hx hb dX3_coveredBy_25 rfl (lv_at hl 1 rfl) ?_
          refine lv_iload hx hb dX3_coveredBy_26 (lv_at hl 0 rfl) ?_
          refine q_callNl C h (c_X5_setOf l G k (by omega)) ⟨va_cnB 1 hts gX3_coveredBy_X5_setOf_n28 rfl rfl rfl (C.2.2.1.at 5 rfl) iniX5 (by decide +kernel) ⟨Nat.le_of_ble_eq_true rfl, Nat.le_of_ble_eq_true rfl⟩, stX5_setOf, trivial⟩ [] rfl rfl [0, 1] (wr := [(o0, .inr (3, [.ref av, .int (nI S), .int (nI P)])), (av, .inl (G.2.1, 32, .inl vals))]) rfl rfl (by decide) rfl hl.1 rfl (Nat.le_of_ble_eq_true rfl) dX3_coveredBy_28 ⟨Nat.zero_le _, Nat.zero_le _⟩ [0, 1] (w' := [(o0, .inr (3, [.ref av, .int (nI S), .int (nI P)])), (av, .inl (G.2.1, 32, .inl vals))]) rfl rfl (fun H locs h => ?_)
          refine lv_lor hx hb dX3_coveredBy_31 ?_
          refine lv_lstore_n (lv' := [(2, .long (y ||| (q_bit k))), (4, .int (nI k)), (0, .ref o0), (1, .int (nI j))]) hx hb dX3_coveredBy_32 rfl hl (by decide) rfl (fun ls hl => ?_)
          refine lv_iinc (v := nI (k + 1)) (lv' := [(4, .int (nI (k + 1))), (2, .long (y ||| (q_bit k))), (0, .ref o0), (1, .int (nI j))]) hx hb dX3_coveredBy_33 hl (k := 1) rfl (q_inc k) (by decide) rfl (fun ls hl => ?_)
          refine lv_goto (tgt := 5) hx hb dX3_coveredBy_36 (by decide) ?_
          exact ih5 (k + 1) (y ||| (q_bit k)) (by omega) (show (y ||| (q_bit k)) = q_cov j (k + 1) from (by rw [e_y]; simp [q_cov, z22])) (show (k + 1) ≤ S from (by omega)) _ _ h _ (lv_sub hl [0, 1, 2, 3] rfl)
  exact loop5 (S - 0 + 1) 0 0 (Nat.lt_succ_self _) (show 0 = q_cov j 0 from rfl) (show 0 ≤ S from (Nat.zero_le _)) _ _ h _ (lv_sub hl [0, 1, 2, 3] rfl)

set_option maxHeartbeats 4000000 in
set_option maxRecDepth 100000 in
theorem c_X3_valueOfSources (l : Launch) (G : vq_G) (o0 av : Nat) (vals : Nat → Int32) (S P : Nat) (x : Int64) (hS : S ≤ 32) : vq_i l yX3_valueOfSources wsX3_valueOfSources 2 42 G [.ref o0, .long x] [(o0, .inr (3, [.ref av, .int (nI S), .int (nI P)])), (av, .inl (G.2.1, 32, .inl vals))] (q_kv vals x S) [(o0, .inr (3, [.ref av, .int (nI S), .int (nI P)])), (av, .inl (G.2.1, 32, .inl vals))] := by
  refine vq_openi (cc := cX3_valueOfSources) (maxL := 5) (ret := (some .int)) (Ts' := wsX3_valueOfSources.tail) (by decide) rfl (Nat.le_of_ble_eq_true rfl) ?_
  intro p e s m args below meth c A ls C h hnm hl
  have hx := C.1.1
  have hb := C.1.2.1
  have hts := C.1.2.2.2.2
  have hl : lv_has ls 5 [(0, .ref o0), (1, .long x)] := hl
  have f15 := C.1.2.2.2.2 (.fieldLink RX3 15 "FountainCode$Sender" "sources" "I") (by decide +kernel)
  have iX3 : ∀ w ∈ u_ws RX3 TX3 3, w ∈ wsX3_valueOfSources := by decide +kernel
  have f9 := C.1.2.2.2.2 (.fieldLink RX3 9 "FountainCode$Sender" "sourceValues" "[I") (by decide +kernel)
  have iniX5 := C.1.2.2.2.2 (.initialized RX5) (by decide +kernel)
  have stX5_holds := C.1.2.2.2.2 (.static yX5_holds) (by decide +kernel)
  refine lv_iconst (v := nI 0) hx hb dX3_valueOfSources_0 (by decide) ?_
  refine lv_istore_n (lv' := [(3, .int (nI 0)), (0, .ref o0), (1, .long x)]) hx hb dX3_valueOfSources_1 rfl hl (by decide) rfl (fun ls hl => ?_)
  refine lv_iconst (v := nI 0) hx hb dX3_valueOfSources_2 (by decide) ?_
  refine lv_istore (lv' := [(4, .int (nI 0)), (3, .int (nI 0)), (0, .ref o0), (1, .long x)]) hx hb dX3_valueOfSources_3 hl (by decide) rfl (fun ls hl => ?_)
  have loop5 : ∀ (fu : Nat) (k : Nat) (y : Int32), S - k < fu → y = q_kv vals x k → (k ≤ S) → ∀ (H : Heap) (locs : List Loc), vq_H G A s [(o0, .inr (3, [.ref av, .int (nI S), .int (nI P)])), (av, .inl (G.2.1, 32, .inl vals))] H locs → ∀ (ls : Array Slot), lv_has ls 5 [(4, .int (nI k)), (3, .int y), (0, .ref o0), (1, .long x)] → W p l e ({ frames := 2, cells := 0, slots := 0, locals := 42 } : Room) s m args below meth c H locs 0 0 (MQ below (va_Qi (fun zr (_ : Unit) => zr = (q_kv vals x S)) (fun _ => vq_T G A [(o0, .inr (3, [.ref av, .int (nI S), .int (nI P)])), (av, .inl (G.2.1, 32, .inl vals))]) A) args s 0 0 A) (F0 m 5 ls []) := by
    intro fu
    induction fu with
    | zero => exact fun k y hm => absurd hm (Nat.not_lt_zero _)
    | succ fu ih =>
      intro k y hm5 e_y hk H locs h ls hl
      have ih5 := ih
      clear ih
      refine lv_iload hx hb dX3_valueOfSources_5 (lv_at hl 0 rfl) ?_
      refine lv_aload_n hx hb dX3_valueOfSources_7 rfl (lv_at hl 2 rfl) ?_
      refine q_get (Cn := RX3) (T := TX3) (N := 3) (ci := 3) (v := .int (nI S)) C h iX3 0 rfl rfl 1 (by decide) f15 rfl dX3_valueOfSources_8 ?_
      refine q_icmp_ge (tgt := 49) hx hb (by omega) (by omega) dX3_valueOfSources_11 (by decide) (fun z11 => ?_) (fun z11 => ?_)
      · refine lv_iload_n hx hb dX3_valueOfSources_49 rfl (lv_at hl 1 rfl) ?_
        exact q_reti C h rfl (by rw [e_y, show k = S from by omega]) rfl dX3_valueOfSources_50
      · refine lv_iload hx hb dX3_valueOfSources_14 (lv_at hl 0 rfl) ?_
        refine lv_aload_n hx hb dX3_valueOfSources_16 rfl (lv_at hl 2 rfl) ?_
        refine q_get (Cn := RX3) (T := TX3) (N := 3) (ci := 3) (v := .ref av) C h iX3 0 rfl rfl 0 (by decide) f9 rfl dX3_valueOfSources_17 ?_
        refine q_alen (n := 32) C h 1 rfl dX3_valueOfSources_20 ?_
        refine q_icmp_ge (tgt := 49) hx hb (by omega) (by omega) dX3_valueOfSources_21 (by decide) (fun z21 => absurd z21 (by omega)) (fun z21 => ?_)
        refine lv_lload_n hx hb dX3_valueOfSources_24 rfl (lv_at hl 3 rfl) ?_
        refine lv_iload hx hb dX3_valueOfSources_25 (lv_at hl 0 rfl) ?_
        refine q_callNi C h (c_X5_holds l G x k (by omega)) ⟨va_cnB 2 hts gX3_valueOfSources_X5_holds_n43 rfl rfl rfl (C.2.2.1.at 11 rfl) iniX5 (by decide +kernel) ⟨Nat.le_of_ble_eq_true rfl, Nat.le_of_ble_eq_true rfl⟩, stX5_holds, trivial⟩ [] rfl rfl [0, 1] (wr := [(o0, .inr (3, [.ref av, .int (nI S), .int (nI P)])), (av, .inl (G.2.1, 32, .inl vals))]) rfl rfl (by decide) rfl hl.1 rfl (Nat.le_of_ble_eq_true rfl) dX3_valueOfSources_27 ⟨Nat.zero_le _, Nat.zero_le _⟩ [0, 1] (w' := [(o0, .inr (3, [.ref av, .int (nI S), .int (nI P)])), (av, .inl (G.2.1, 32, .inl vals))]) rfl rfl (fun H locs h => ?_)
        refine q_ifb_eq (tgt := 43) hx hb dX3_valueOfSources_30 (by decide) (fun z30 => ?_) (fun z30 => ?_)
        · refine lv_iinc (v := nI (k + 1)) (lv' := [(4, .int (nI (k + 1))), (3, .int y), (0, .ref o0), (1, .long x)]) hx hb dX3_valueOfSources_43 hl (k := 0) rfl (q_inc k) (by decide) rfl (fun ls hl => ?_)
          refine lv_goto (tgt := 5) hx hb dX3_valueOfSources_46 (by decide) ?_
          exact ih5 (k + 1) y (by omega) (show y = q_kv vals x (k + 1) from (by rw [e_y]; simp [q_kv, z30])) (show (k + 1) ≤ S from (by omega)) _ _ h _ (lv_sub hl [0, 1, 2, 3] rfl)
        · refine lv_iload_n hx hb dX3_valueOfSources_33 rfl (lv_at hl 1 rfl) ?_
          refine lv_aload_n hx hb dX3_valueOfSources_34 rfl (lv_at hl 2 rfl) ?_
          refine q_get (Cn := RX3) (T := TX3) (N := 3) (ci := 3) (v := .ref av) C h iX3 0 rfl rfl 0 (by decide) f9 rfl dX3_valueOfSources_35 ?_
          refine lv_iload hx hb dX3_valueOfSources_38 (lv_at hl 0 rfl) ?_
          refine q_iald (i := k) (v := (vals k)) C h 1 rfl (by omega) (by omega) rfl dX3_valueOfSources_40 ?_
          refine lv_ixor hx hb dX3_valueOfSources_41 ?_
          refine lv_istore_n (lv' := [(3, .int (y ^^^ (vals k))), (4, .int (nI k)), (0, .ref o0), (1, .long x)]) hx hb dX3_valueOfSources_42 rfl hl (by decide) rfl (fun ls hl => ?_)
          refine lv_iinc (v := nI (k + 1)) (lv' := [(4, .int (nI (k + 1))), (3, .int (y ^^^ (vals k))), (0, .ref o0), (1, .long x)]) hx hb dX3_valueOfSources_43 hl (k := 1) rfl (q_inc k) (by decide) rfl (fun ls hl => ?_)
          refine lv_goto (tgt := 5) hx hb dX3_valueOfSources_46 (by decide) ?_
          exact ih5 (k + 1) (y ^^^ (vals k)) (by omega) (show (y ^^^ (vals k)) = q_kv vals x (k + 1) from (by rw [e_y]; simp [q_kv, z30])) (show (k + 1) ≤ S from (by omega)) _ _ h _ (lv_sub hl [0, 1, 2, 3] rfl)
  exact loop5 (S - 0 + 1) 0 (nI 0) (Nat.lt_succ_self _) (show (nI 0) = q_kv vals x 0 from rfl) (show 0 ≤ S from (Nat.zero_le _)) _ _ h _ (lv_sub hl [0, 1, 2, 3] rfl)

set_option maxHeartbeats 4000000 in
set_option maxRecDepth 100000 in
theorem c_X3_valueOfBlock (l : Launch) (G : vq_G) (o0 av : Nat) (vals : Nat → Int32) (S P : Nat) (b : Nat) (hS : S ≤ 32) (hP : P ≤ 6) (hb2 : b < S + P) : vq_i l yX3_valueOfBlock wsX3_valueOfBlock 3 66 G [.ref o0, .int (nI b)] [(o0, .inr (3, [.ref av, .int (nI S), .int (nI P)])), (av, .inl (G.2.1, 32, .inl vals))] (q_vb vals S b) [(o0, .inr (3, [.ref av, .int (nI S), .int (nI P)])), (av, .inl (G.2.1, 32, .inl vals))] := by
  refine vq_openi (cc := cX3_valueOfBlock) (maxL := 2) (ret := (some .int)) (Ts' := wsX3_valueOfBlock.tail) (by decide) rfl (Nat.le_of_ble_eq_true rfl) ?_
  intro p e s m args below meth c A ls C h hnm hl
  have hx := C.1.1
  have hb := C.1.2.1
  have hts := C.1.2.2.2.2
  have hl : lv_has ls 2 [(0, .ref o0), (1, .int (nI b))] := hl
  have f15 := C.1.2.2.2.2 (.fieldLink RX3 15 "FountainCode$Sender" "sources" "I") (by decide +kernel)
  have iX3 : ∀ w ∈ u_ws RX3 TX3 3, w ∈ wsX3_valueOfBlock := by decide +kernel
  have iniX5 := C.1.2.2.2.2 (.initialized RX5) (by decide +kernel)
  have stX5_setOf := C.1.2.2.2.2 (.static yX5_setOf) (by decide +kernel)
  refine lv_iload_n hx hb dX3_valueOfBlock_0 rfl (lv_at hl 1 rfl) ?_
  refine lv_aload_n hx hb dX3_valueOfBlock_1 rfl (lv_at hl 0 rfl) ?_
  refine q_get (Cn := RX3) (T := TX3) (N := 3) (ci := 3) (v := .int (nI S)) C h iX3 0 rfl rfl 1 (by decide) f15 rfl dX3_valueOfBlock_2 ?_
  refine q_icmp_lt (tgt := 23) hx hb (by omega) (by omega) dX3_valueOfBlock_5 (by decide) (fun z5 => ?_) (fun z5 => ?_)
  · refine lv_aload_n hx hb dX3_valueOfBlock_23 rfl (lv_at hl 0 rfl) ?_
    refine lv_iload_n hx hb dX3_valueOfBlock_24 rfl (lv_at hl 1 rfl) ?_
    refine q_callNl C h (c_X5_setOf l G b (by omega)) ⟨va_cnB 1 hts gX3_valueOfBlock_X5_setOf_n28 rfl rfl rfl (C.2.2.1.at 5 rfl) iniX5 (by decide +kernel) ⟨Nat.le_of_ble_eq_true rfl, Nat.le_of_ble_eq_true rfl⟩, stX5_setOf, trivial⟩ [] rfl rfl [0, 1] (wr := [(o0, .inr (3, [.ref av, .int (nI S), .int (nI P)])), (av, .inl (G.2.1, 32, .inl vals))]) rfl rfl (by decide) rfl hl.1 rfl (Nat.le_of_ble_eq_true rfl) dX3_valueOfBlock_25 ⟨Nat.zero_le _, Nat.zero_le _⟩ [0, 1] (w' := [(o0, .inr (3, [.ref av, .int (nI S), .int (nI P)])), (av, .inl (G.2.1, 32, .inl vals))]) rfl rfl (fun H locs h => ?_)
    refine q_callVi C h (c_X3_valueOfSources l G o0 av vals S P (q_bit b) (by omega)) (cwV 1 hts gX3_valueOfBlock_X3_valueOfSources rfl rfl rfl (by decide +kernel) ⟨Nat.le_of_ble_eq_true rfl, Nat.le_of_ble_eq_true rfl⟩) [0, 1] rfl rfl [] (wr := []) rfl rfl (by decide) 0 rfl rfl rfl hl.1 rfl (Nat.le_of_ble_eq_true rfl) dX3_valueOfBlock_28 ⟨Nat.zero_le _, Nat.zero_le _⟩ [0, 1] (w' := [(o0, .inr (3, [.ref av, .int (nI S), .int (nI P)])), (av, .inl (G.2.1, 32, .inl vals))]) rfl rfl (fun H locs h => ?_)
    exact q_reti C h rfl (by simp [q_vb, show b < S from by omega]) rfl dX3_valueOfBlock_31
  · refine lv_aload_n hx hb dX3_valueOfBlock_8 rfl (lv_at hl 0 rfl) ?_
    refine lv_aload_n hx hb dX3_valueOfBlock_9 rfl (lv_at hl 0 rfl) ?_
    refine lv_iload_n hx hb dX3_valueOfBlock_10 rfl (lv_at hl 1 rfl) ?_
    refine lv_aload_n hx hb dX3_valueOfBlock_11 rfl (lv_at hl 0 rfl) ?_
    refine q_get (Cn := RX3) (T := TX3) (N := 3) (ci := 3) (v := .int (nI S)) C h iX3 0 rfl rfl 1 (by decide) f15 rfl dX3_valueOfBlock_12 ?_
    refine q_isub hx hb (by omega) dX3_valueOfBlock_15 ?_
    refine q_callVl C h (c_X3_coveredBy l G o0 av vals S P (b - S) (by omega) (by omega)) (cwV 1 hts gX3_valueOfBlock_X3_coveredBy rfl rfl rfl (by decide +kernel) ⟨Nat.le_of_ble_eq_true rfl, Nat.le_of_ble_eq_true rfl⟩) [0, 1] rfl rfl [] (wr := []) rfl rfl (by decide) 0 rfl rfl rfl hl.1 rfl (Nat.le_of_ble_eq_true rfl) dX3_valueOfBlock_16 ⟨Nat.zero_le _, Nat.zero_le _⟩ [0, 1] (w' := [(o0, .inr (3, [.ref av, .int (nI S), .int (nI P)])), (av, .inl (G.2.1, 32, .inl vals))]) rfl rfl (fun H locs h => ?_)
    refine q_callVi C h (c_X3_valueOfSources l G o0 av vals S P (q_cov (b - S) S) (by omega)) (cwV 1 hts gX3_valueOfBlock_X3_valueOfSources rfl rfl rfl (by decide +kernel) ⟨Nat.le_of_ble_eq_true rfl, Nat.le_of_ble_eq_true rfl⟩) [0, 1] rfl rfl [] (wr := []) rfl rfl (by decide) 0 rfl rfl rfl hl.1 rfl (Nat.le_of_ble_eq_true rfl) dX3_valueOfBlock_19 ⟨Nat.zero_le _, Nat.zero_le _⟩ [0, 1] (w' := [(o0, .inr (3, [.ref av, .int (nI S), .int (nI P)])), (av, .inl (G.2.1, 32, .inl vals))]) rfl rfl (fun H locs h => ?_)
    exact q_reti C h rfl (by simp [q_vb, show ¬ b < S from by omega]) rfl dX3_valueOfBlock_22

set_option maxHeartbeats 4000000 in
set_option maxRecDepth 100000 in
theorem c_X3_valueOfSet (l : Launch) (G : vq_G) (o0 av : Nat) (vals : Nat → Int32) (S P : Nat) (x : Int64) (hS : S ≤ 32) (hP : P ≤ 6) : vq_i l yX3_valueOfSet wsX3_valueOfSet 4 87 G [.ref o0, .long x] [(o0, .inr (3, [.ref av, .int (nI S), .int (nI P)])), (av, .inl (G.2.1, 32, .inl vals))] (q_vs vals S x P) [(o0, .inr (3, [.ref av, .int (nI S), .int (nI P)])), (av, .inl (G.2.1, 32, .inl vals))] := by
  refine vq_openi (cc := cX3_valueOfSet) (maxL := 5) (ret := (some .int)) (Ts' := wsX3_valueOfSet.tail) (by decide) rfl (Nat.le_of_ble_eq_true rfl) ?_
  intro p e s m args below meth c A ls C h hnm hl
  have hx := C.1.1
  have hb := C.1.2.1
  have hts := C.1.2.2.2.2
  have hl : lv_has ls 5 [(0, .ref o0), (1, .long x)] := hl
  have f15 := C.1.2.2.2.2 (.fieldLink RX3 15 "FountainCode$Sender" "sources" "I") (by decide +kernel)
  have iX3 : ∀ w ∈ u_ws RX3 TX3 3, w ∈ wsX3_valueOfSet := by decide +kernel
  have iniX5 := C.1.2.2.2.2 (.initialized RX5) (by decide +kernel)
  have stX5_holds := C.1.2.2.2.2 (.static yX5_holds) (by decide +kernel)
  refine lv_aload_n hx hb dX3_valueOfSet_0 rfl (lv_at hl 0 rfl) ?_
  refine lv_lload_n hx hb dX3_valueOfSet_1 rfl (lv_at hl 1 rfl) ?_
  refine q_callVi C h (c_X3_valueOfSources l G o0 av vals S P x (by omega)) (cwV 1 hts gX3_valueOfSet_X3_valueOfSources rfl rfl rfl (by decide +kernel) ⟨Nat.le_of_ble_eq_true rfl, Nat.le_of_ble_eq_true rfl⟩) [0, 1] rfl rfl [] (wr := []) rfl rfl (by decide) 0 rfl rfl rfl hl.1 rfl (Nat.le_of_ble_eq_true rfl) dX3_valueOfSet_2 ⟨Nat.zero_le _, Nat.zero_le _⟩ [0, 1] (w' := [(o0, .inr (3, [.ref av, .int (nI S), .int (nI P)])), (av, .inl (G.2.1, 32, .inl vals))]) rfl rfl (fun H locs h => ?_)
  refine lv_istore_n (lv' := [(3, .int (q_kv vals x S)), (0, .ref o0), (1, .long x)]) hx hb dX3_valueOfSet_5 rfl hl (by decide) rfl (fun ls hl => ?_)
  refine lv_aload_n hx hb dX3_valueOfSet_6 rfl (lv_at hl 1 rfl) ?_
  refine q_get (Cn := RX3) (T := TX3) (N := 3) (ci := 3) (v := .int (nI S)) C h iX3 0 rfl rfl 1 (by decide) f15 rfl dX3_valueOfSet_7 ?_
  refine lv_istore (lv' := [(4, .int (nI S)), (3, .int (q_kv vals x S)), (0, .ref o0), (1, .long x)]) hx hb dX3_valueOfSet_10 hl (by decide) rfl (fun ls hl => ?_)
  have loop12 : ∀ (fu : Nat) (k : Nat) (y : Int32), S + P - k < fu → y = q_vs vals S x (k - S) → (k ≤ S + P) → (S ≤ k) → ∀ (H : Heap) (locs : List Loc), vq_H G A s [(o0, .inr (3, [.ref av, .int (nI S), .int (nI P)])), (av, .inl (G.2.1, 32, .inl vals))] H locs → ∀ (ls : Array Slot), lv_has ls 5 [(4, .int (nI k)), (3, .int y), (0, .ref o0), (1, .long x)] → W p l e ({ frames := 4, cells := 0, slots := 0, locals := 87 } : Room) s m args below meth c H locs 0 0 (MQ below (va_Qi (fun zr (_ : Unit) => zr = (q_vs vals S x P)) (fun _ => vq_T G A [(o0, .inr (3, [.ref av, .int (nI S), .int (nI P)])), (av, .inl (G.2.1, 32, .inl vals))]) A) args s 0 0 A) (F0 m 12 ls []) := by
    intro fu
    induction fu with
    | zero => exact fun k y hm => absurd hm (Nat.not_lt_zero _)
    | succ fu ih =>
      intro k y hm12 e_y hk hk2 H locs h ls hl
      have ih12 := ih
      clear ih
      refine lv_iload hx hb dX3_valueOfSet_12 (lv_at hl 0 rfl) ?_
      refine lv_aload_n hx hb dX3_valueOfSet_14 rfl (lv_at hl 2 rfl) ?_
      refine q_callVi C h (c_X3_blockCount l G o0 av vals S P) (cwV 0 hts gX3_valueOfSet_X3_blockCount rfl rfl rfl (by decide +kernel) ⟨Nat.le_of_ble_eq_true rfl, Nat.le_of_ble_eq_true rfl⟩) [0, 1] rfl rfl [] (wr := []) rfl rfl (by decide) 0 rfl rfl rfl hl.1 rfl (Nat.le_of_ble_eq_true rfl) dX3_valueOfSet_15 ⟨Nat.zero_le _, Nat.zero_le _⟩ [0, 1] (w' := [(o0, .inr (3, [.ref av, .int (nI S), .int (nI P)])), (av, .inl (G.2.1, 32, .inl vals))]) rfl rfl (fun H locs h => ?_)
      refine q_icmp_ge (tgt := 45) hx hb (by omega) (by omega) dX3_valueOfSet_18 (by decide) (fun z18 => ?_) (fun z18 => ?_)
      · refine lv_iload_n hx hb dX3_valueOfSet_45 rfl (lv_at hl 1 rfl) ?_
        exact q_reti C h rfl (by rw [e_y, show k - S = P from by omega]) rfl dX3_valueOfSet_46
      · refine lv_lload_n hx hb dX3_valueOfSet_21 rfl (lv_at hl 3 rfl) ?_
        refine lv_iload hx hb dX3_valueOfSet_22 (lv_at hl 0 rfl) ?_
        refine q_callNi C h (c_X5_holds l G x k (by omega)) ⟨va_cnB 2 hts gX3_valueOfSet_X5_holds_n43 rfl rfl rfl (C.2.2.1.at 11 rfl) iniX5 (by decide +kernel) ⟨Nat.le_of_ble_eq_true rfl, Nat.le_of_ble_eq_true rfl⟩, stX5_holds, trivial⟩ [] rfl rfl [0, 1] (wr := [(o0, .inr (3, [.ref av, .int (nI S), .int (nI P)])), (av, .inl (G.2.1, 32, .inl vals))]) rfl rfl (by decide) rfl hl.1 rfl (Nat.le_of_ble_eq_true rfl) dX3_valueOfSet_24 ⟨Nat.zero_le _, Nat.zero_le _⟩ [0, 1] (w' := [(o0, .inr (3, [.ref av, .int (nI S), .int (nI P)])), (av, .inl (G.2.1, 32, .inl vals))]) rfl rfl (fun H locs h => ?_)
        refine q_ifb_eq (tgt := 39) hx hb dX3_valueOfSet_27 (by decide) (fun z27 => ?_) (fun z27 => ?_)
        · refine lv_iinc (v := nI (k + 1)) (lv' := [(4, .int (nI (k + 1))), (3, .int y), (0, .ref o0), (1, .long x)]) hx hb dX3_valueOfSet_39 hl (k := 0) rfl (q_inc k) (by decide) rfl (fun ls hl => ?_)
          refine lv_goto (tgt := 12) hx hb dX3_valueOfSet_42 (by decide) ?_
          exact ih12 (k + 1) y (by omega) (show y = q_vs vals S x ((k + 1) - S) from (by rw [e_y, show k + 1 - S = (k - S) + 1 from by omega]; simp [q_vs, show S + (k - S) = k from by omega, z27])) (show (k + 1) ≤ S + P from (by omega)) (show S ≤ (k + 1) from (by omega)) _ _ h _ (lv_sub hl [0, 1, 2, 3] rfl)
        · refine lv_iload_n hx hb dX3_valueOfSet_30 rfl (lv_at hl 1 rfl) ?_
          refine lv_aload_n hx hb dX3_valueOfSet_31 rfl (lv_at hl 2 rfl) ?_
          refine lv_iload hx hb dX3_valueOfSet_32 (lv_at hl 0 rfl) ?_
          refine q_callVi C h (c_X3_valueOfBlock l G o0 av vals S P k (by omega) (by omega) (by omega)) (cwV 1 hts gX3_valueOfSet_X3_valueOfBlock rfl rfl rfl (by decide +kernel) ⟨Nat.le_of_ble_eq_true rfl, Nat.le_of_ble_eq_true rfl⟩) [0, 1] rfl rfl [] (wr := []) rfl rfl (by decide) 0 rfl rfl rfl hl.1 rfl (Nat.le_of_ble_eq_true rfl) dX3_valueOfSet_34 ⟨Nat.zero_le _, Nat.zero_le _⟩ [0, 1] (w' := [(o0, .inr (3, [.ref av, .int (nI S), .int (nI P)])), (av, .inl (G.2.1, 32, .inl vals))]) rfl rfl (fun H locs h => ?_)
          refine lv_ixor hx hb dX3_valueOfSet_37 ?_
          refine lv_istore_n (lv' := [(3, .int (y ^^^ (q_vb vals S k))), (4, .int (nI k)), (0, .ref o0), (1, .long x)]) hx hb dX3_valueOfSet_38 rfl hl (by decide) rfl (fun ls hl => ?_)
          refine lv_iinc (v := nI (k + 1)) (lv' := [(4, .int (nI (k + 1))), (3, .int (y ^^^ (q_vb vals S k))), (0, .ref o0), (1, .long x)]) hx hb dX3_valueOfSet_39 hl (k := 1) rfl (q_inc k) (by decide) rfl (fun ls hl => ?_)
          refine lv_goto (tgt := 12) hx hb dX3_valueOfSet_42 (by decide) ?_
          exact ih12 (k + 1) (y ^^^ (q_vb vals S k)) (by omega) (show (y ^^^ (q_vb vals S k)) = q_vs vals S x ((k + 1) - S) from (by rw [e_y, show k + 1 - S = (k - S) + 1 from by omega]; simp [q_vs, show S + (k - S) = k from by omega, z27])) (show (k + 1) ≤ S + P from (by omega)) (show S ≤ (k + 1) from (by omega)) _ _ h _ (lv_sub hl [0, 1, 2, 3] rfl)
  exact loop12 (S + P - S + 1) S (q_kv vals x S) (Nat.lt_succ_self _) (show (q_kv vals x S) = q_vs vals S x (S - S) from (by rw [Nat.sub_self]; rfl)) (show S ≤ S + P from (by omega)) (show S ≤ S from (Nat.le_refl _)) _ _ h _ (lv_sub hl [0, 1, 2, 3] rfl)

set_option maxHeartbeats 4000000 in
set_option maxRecDepth 100000 in
theorem c_X0_size (l : Launch) (G : vq_G) (o0 ad : Nat) (gen : Int64) (sz : Nat) (bs : Int64) (row : Nat → Nat) : vq_i l yX0_size wsX0_size 0 0 G [.ref o0] [(o0, .inr (0, [.ref ad, .long gen, .int (nI sz), .long bs])), (ad, .inl (G.2.1, 38, .inl (fun zz => nI (row zz))))] (nI sz) [(o0, .inr (0, [.ref ad, .long gen, .int (nI sz), .long bs])), (ad, .inl (G.2.1, 38, .inl (fun zz => nI (row zz))))] := by
  refine vq_openi (cc := cX0_size) (maxL := 1) (ret := (some .int)) (Ts' := wsX0_size.tail) (by decide) rfl (Nat.le_of_ble_eq_true rfl) ?_
  intro p e s m args below meth c A ls C h hnm hl
  have hx := C.1.1
  have hb := C.1.2.1
  have hts := C.1.2.2.2.2
  have hl : lv_has ls 1 [(0, .ref o0)] := hl
  have f38 := C.1.2.2.2.2 (.fieldLink RX0 38 "FountainCode$Drop" "size" "I") (by decide +kernel)
  have iX0 : ∀ w ∈ u_ws RX0 TX0 4, w ∈ wsX0_size := by decide +kernel
  refine lv_aload_n hx hb dX0_size_0 rfl (lv_at hl 0 rfl) ?_
  refine q_get (Cn := RX0) (T := TX0) (N := 4) (ci := 0) (v := .int (nI sz)) C h iX0 0 rfl rfl 2 (by decide) f38 rfl dX0_size_1 ?_
  exact q_reti C h rfl rfl rfl dX0_size_4

set_option maxHeartbeats 4000000 in
set_option maxRecDepth 100000 in
theorem c_X0_blockSet (l : Launch) (G : vq_G) (o0 ad : Nat) (gen : Int64) (sz : Nat) (bs : Int64) (row : Nat → Nat) : vq_l l yX0_blockSet wsX0_blockSet 0 0 G [.ref o0] [(o0, .inr (0, [.ref ad, .long gen, .int (nI sz), .long bs])), (ad, .inl (G.2.1, 38, .inl (fun zz => nI (row zz))))] bs [(o0, .inr (0, [.ref ad, .long gen, .int (nI sz), .long bs])), (ad, .inl (G.2.1, 38, .inl (fun zz => nI (row zz))))] := by
  refine vq_openl (cc := cX0_blockSet) (maxL := 1) (ret := (some .long)) (Ts' := wsX0_blockSet.tail) (by decide) rfl (Nat.le_of_ble_eq_true rfl) ?_
  intro p e s m args below meth c A ls C h hnm hl
  have hx := C.1.1
  have hb := C.1.2.1
  have hts := C.1.2.2.2.2
  have hl : lv_has ls 1 [(0, .ref o0)] := hl
  have f46 := C.1.2.2.2.2 (.fieldLink RX0 46 "FountainCode$Drop" "blockSet" "J") (by decide +kernel)
  have iX0 : ∀ w ∈ u_ws RX0 TX0 4, w ∈ wsX0_blockSet := by decide +kernel
  refine lv_aload_n hx hb dX0_blockSet_0 rfl (lv_at hl 0 rfl) ?_
  refine q_get (Cn := RX0) (T := TX0) (N := 4) (ci := 0) (v := .long bs) C h iX0 0 rfl rfl 3 (by decide) f46 rfl dX0_blockSet_1 ?_
  exact q_retl C h rfl rfl rfl dX0_blockSet_4

set_option maxHeartbeats 4000000 in
set_option maxRecDepth 100000 in
theorem c_X0_blockInPlace (l : Launch) (G : vq_G) (o0 ad : Nat) (gen : Int64) (sz : Nat) (bs : Int64) (row : Nat → Nat) (i : Nat) (hi : i < 38) : vq_i l yX0_blockInPlace wsX0_blockInPlace 0 0 G [.ref o0, .int (nI i)] [(o0, .inr (0, [.ref ad, .long gen, .int (nI sz), .long bs])), (ad, .inl (G.2.1, 38, .inl (fun zz => nI (row zz))))] (nI (row i)) [(o0, .inr (0, [.ref ad, .long gen, .int (nI sz), .long bs])), (ad, .inl (G.2.1, 38, .inl (fun zz => nI (row zz))))] := by
  refine vq_openi (cc := cX0_blockInPlace) (maxL := 2) (ret := (some .int)) (Ts' := wsX0_blockInPlace.tail) (by decide) rfl (Nat.le_of_ble_eq_true rfl) ?_
  intro p e s m args below meth c A ls C h hnm hl
  have hx := C.1.1
  have hb := C.1.2.1
  have hts := C.1.2.2.2.2
  have hl : lv_has ls 2 [(0, .ref o0), (1, .int (nI i))] := hl
  have f9 := C.1.2.2.2.2 (.fieldLink RX0 9 "FountainCode$Drop" "row" "[I") (by decide +kernel)
  have iX0 : ∀ w ∈ u_ws RX0 TX0 4, w ∈ wsX0_blockInPlace := by decide +kernel
  refine lv_iload_n hx hb dX0_blockInPlace_0 rfl (lv_at hl 1 rfl) ?_
  refine q_if_lt (tgt := 22) hx hb (by omega) dX0_blockInPlace_1 (by decide) (fun z1 => absurd z1 (by omega)) (fun z1 => ?_)
  refine lv_iload_n hx hb dX0_blockInPlace_4 rfl (lv_at hl 1 rfl) ?_
  refine lv_aload_n hx hb dX0_blockInPlace_5 rfl (lv_at hl 0 rfl) ?_
  refine q_get (Cn := RX0) (T := TX0) (N := 4) (ci := 0) (v := .ref ad) C h iX0 0 rfl rfl 0 (by decide) f9 rfl dX0_blockInPlace_6 ?_
  refine q_alen (n := 38) C h 1 rfl dX0_blockInPlace_9 ?_
  refine q_icmp_ge (tgt := 22) hx hb (by omega) (by omega) dX0_blockInPlace_10 (by decide) (fun z10 => absurd z10 (by omega)) (fun z10 => ?_)
  refine lv_aload_n hx hb dX0_blockInPlace_13 rfl (lv_at hl 0 rfl) ?_
  refine q_get (Cn := RX0) (T := TX0) (N := 4) (ci := 0) (v := .ref ad) C h iX0 0 rfl rfl 0 (by decide) f9 rfl dX0_blockInPlace_14 ?_
  refine lv_iload_n hx hb dX0_blockInPlace_17 rfl (lv_at hl 1 rfl) ?_
  refine q_iald (i := i) (v := (nI (row i))) C h 1 rfl (by omega) (by omega) rfl dX0_blockInPlace_18 ?_
  refine lv_goto (tgt := 23) hx hb dX0_blockInPlace_19 (by decide) ?_
  exact q_reti C h rfl rfl rfl dX0_blockInPlace_23

set_option maxHeartbeats 4000000 in
set_option maxRecDepth 100000 in
theorem c_X0_numberBelow (l : Launch) (G : vq_G) (o0 ad : Nat) (gen : Int64) (sz : Nat) (bs : Int64) (row : Nat → Nat) (n : Nat) (h0 : 0 < n) (hn : n < 2 ^ 31) : vq_i l yX0_numberBelow wsX0_numberBelow 0 0 G [.ref o0, .int (nI n)] [(o0, .inr (0, [.ref ad, .long gen, .int (nI sz), .long bs])), (ad, .inl (G.2.1, 38, .inl (fun zz => nI (row zz))))] (nI (q_hi (q_step gen) % n)) [(o0, .inr (0, [.ref ad, .long (q_step gen), .int (nI sz), .long bs])), (ad, .inl (G.2.1, 38, .inl (fun zz => nI (row zz))))] := by
  refine vq_openi (cc := cX0_numberBelow) (maxL := 2) (ret := (some .int)) (Ts' := wsX0_numberBelow.tail) (by decide) rfl (Nat.le_of_ble_eq_true rfl) ?_
  intro p e s m args below meth c A ls C h hnm hl
  have hx := C.1.1
  have hb := C.1.2.1
  have hts := C.1.2.2.2.2
  have hl : lv_has ls 2 [(0, .ref o0), (1, .int (nI n))] := hl
  have f15 := C.1.2.2.2.2 (.fieldLink RX0 15 "FountainCode$Drop" "generator" "J") (by decide +kernel)
  have iX0 : ∀ w ∈ u_ws RX0 TX0 4, w ∈ wsX0_numberBelow := by decide +kernel
  have k57 := C.1.2.2.2.2 (.constantLong RX0 57 (6364136223846793005)) (by decide +kernel)
  have k59 := C.1.2.2.2.2 (.constantLong RX0 59 (1442695040888963407)) (by decide +kernel)
  refine lv_aload_n hx hb dX0_numberBelow_0 rfl (lv_at hl 0 rfl) ?_
  refine lv_aload_n hx hb dX0_numberBelow_1 rfl (lv_at hl 0 rfl) ?_
  refine q_get (Cn := RX0) (T := TX0) (N := 4) (ci := 0) (v := .long gen) C h iX0 0 rfl rfl 1 (by decide) f15 rfl dX0_numberBelow_2 ?_
  refine q_ldc2 C k57 dX0_numberBelow_5 ?_
  refine lv_lmul hx hb dX0_numberBelow_8 ?_
  refine q_ldc2 C k59 dX0_numberBelow_9 ?_
  refine lv_ladd hx hb dX0_numberBelow_12 ?_
  refine q_top (v' := .long (q_step gen)) rfl ?_
  refine q_put (Cn := RX0) (T := TX0) (N := 4) (ci := 0) (v := .long (q_step gen)) (w' := [(o0, .inr (0, [.ref ad, .long (q_step gen), .int (nI sz), .long bs])), (ad, .inl (G.2.1, 38, .inl (fun zz => nI (row zz))))]) C h iX0 tyX0 tyX0_ok nmX0 0 rfl rfl 1 (by decide) f15 rfl rfl rfl (Nat.le_of_ble_eq_true rfl) dX0_numberBelow_13 rfl (fun H locs h => ?_)
  refine lv_iload_n hx hb dX0_numberBelow_16 rfl (lv_at hl 1 rfl) ?_
  refine q_if_gt (tgt := 22) hx hb (by omega) dX0_numberBelow_17 (by decide) (fun z17 => ?_) (fun z17 => absurd z17 (by omega))
  refine lv_aload_n hx hb dX0_numberBelow_22 rfl (lv_at hl 0 rfl) ?_
  refine q_get (Cn := RX0) (T := TX0) (N := 4) (ci := 0) (v := .long (q_step gen)) C h iX0 0 rfl rfl 1 (by decide) f15 rfl dX0_numberBelow_23 ?_
  refine lv_bipush (v := nI 33) hx hb dX0_numberBelow_26 (by decide) ?_
  refine lv_lushr (v := lN (q_hi (q_step gen))) hx hb dX0_numberBelow_28 (q_ushr33 _) ?_
  refine lv_iload_n hx hb dX0_numberBelow_29 rfl (lv_at hl 1 rfl) ?_
  refine lv_i2l (v := lN n) hx hb dX0_numberBelow_30 (nI_l hn) ?_
  refine lv_lrem hx hb dX0_numberBelow_31 (q_lN0 h0 hn) ?_
  refine q_top (v' := .long (lN (q_hi (q_step gen) % n))) (congrArg Value.long (pk_lRem (Nat.lt_trans (q_hi_lt _) (by decide)) h0 (Nat.lt_trans hn (by decide)))) ?_
  refine lv_l2i (v := nI (q_hi (q_step gen) % n)) hx hb dX0_numberBelow_32 (lN_i _) ?_
  exact q_reti C h rfl rfl rfl dX0_numberBelow_33

set_option maxHeartbeats 4000000 in
set_option maxRecDepth 100000 in
theorem c_X0_lineUp (l : Launch) (G : vq_G) (o0 ad : Nat) (gen : Int64) (sz : Nat) (bs : Int64) (row : Nat → Nat) (B : Nat) (hB : B ≤ 38) : vq_v l yX0_lineUp wsX0_lineUp 0 0 G [.ref o0, .int (nI B)] [(o0, .inr (0, [.ref ad, .long gen, .int (nI sz), .long bs])), (ad, .inl (G.2.1, 38, .inl (fun zz => nI (row zz))))]  [(o0, .inr (0, [.ref ad, .long gen, .int (nI sz), .long bs])), (ad, .inl (G.2.1, 38, .inl (fun zz => nI ((q_line row B) zz))))] := by
  refine vq_openv (cc := cX0_lineUp) (maxL := 3) (ret := none) (Ts' := wsX0_lineUp.tail) (by decide) rfl (Nat.le_of_ble_eq_true rfl) ?_
  intro p e s m args below meth c A ls C h hnm hl
  have hx := C.1.1
  have hb := C.1.2.1
  have hts := C.1.2.2.2.2
  have hl : lv_has ls 3 [(0, .ref o0), (1, .int (nI B))] := hl
  have f9 := C.1.2.2.2.2 (.fieldLink RX0 9 "FountainCode$Drop" "row" "[I") (by decide +kernel)
  have iX0 : ∀ w ∈ u_ws RX0 TX0 4, w ∈ wsX0_lineUp := by decide +kernel
  refine lv_iconst (v := nI 0) hx hb dX0_lineUp_0 (by decide) ?_
  refine lv_istore_n (lv' := [(2, .int (nI 0)), (0, .ref o0), (1, .int (nI B))]) hx hb dX0_lineUp_1 rfl hl (by decide) rfl (fun ls hl => ?_)
  have loop2 : ∀ (fu : Nat) (k : Nat) (g : Nat → Nat), B - k < fu → g = q_line row k → (k ≤ B) → ∀ (H : Heap) (locs : List Loc), vq_H G A s [(o0, .inr (0, [.ref ad, .long gen, .int (nI sz), .long bs])), (ad, .inl (G.2.1, 38, .inl (fun zz => nI (g zz))))] H locs → ∀ (ls : Array Slot), lv_has ls 3 [(2, .int (nI k)), (0, .ref o0), (1, .int (nI B))] → W p l e ({ frames := 0, cells := 0, slots := 0, locals := 0 } : Room) s m args below meth c H locs 0 0 (MQ below (va_Qv (fun (_ : Unit) => True) (fun _ => vq_T G A [(o0, .inr (0, [.ref ad, .long gen, .int (nI sz), .long bs])), (ad, .inl (G.2.1, 38, .inl (fun zz => nI ((q_line row B) zz))))]) A) args s 0 0 A) (F0 m 2 ls []) := by
    intro fu
    induction fu with
    | zero => exact fun k g hm => absurd hm (Nat.not_lt_zero _)
    | succ fu ih =>
      intro k g hm2 e_g hk H locs h ls hl
      have ih2 := ih
      clear ih
      refine lv_iload_n hx hb dX0_lineUp_2 rfl (lv_at hl 0 rfl) ?_
      refine lv_iload_n hx hb dX0_lineUp_3 rfl (lv_at hl 2 rfl) ?_
      refine q_icmp_ge (tgt := 29) hx hb (by omega) (by omega) dX0_lineUp_4 (by decide) (fun z4 => ?_) (fun z4 => ?_)
      · exact q_retv C h rfl (by rw [e_g, show k = B from by omega]) dX0_lineUp_29
      · refine lv_iload_n hx hb dX0_lineUp_7 rfl (lv_at hl 0 rfl) ?_
        refine lv_aload_n hx hb dX0_lineUp_8 rfl (lv_at hl 1 rfl) ?_
        refine q_get (Cn := RX0) (T := TX0) (N := 4) (ci := 0) (v := .ref ad) C h iX0 0 rfl rfl 0 (by decide) f9 rfl dX0_lineUp_9 ?_
        refine q_alen (n := 38) C h 1 rfl dX0_lineUp_12 ?_
        refine q_icmp_ge (tgt := 29) hx hb (by omega) (by omega) dX0_lineUp_13 (by decide) (fun z13 => absurd z13 (by omega)) (fun z13 => ?_)
        refine lv_aload_n hx hb dX0_lineUp_16 rfl (lv_at hl 1 rfl) ?_
        refine q_get (Cn := RX0) (T := TX0) (N := 4) (ci := 0) (v := .ref ad) C h iX0 0 rfl rfl 0 (by decide) f9 rfl dX0_lineUp_17 ?_
        refine lv_iload_n hx hb dX0_lineUp_20 rfl (lv_at hl 0 rfl) ?_
        refine lv_iload_n hx hb dX0_lineUp_21 rfl (lv_at hl 0 rfl) ?_
        refine q_iast (i := k) (g := (fun zz => nI ((va_up g k k) zz))) (w' := [(o0, .inr (0, [.ref ad, .long gen, .int (nI sz), .long bs])), (ad, .inl (G.2.1, 38, .inl (fun zz => nI ((va_up g k k) zz))))]) C h 1 rfl (by omega) (by omega) (q_upN _ _ _) rfl dX0_lineUp_22 (fun H locs h => ?_)
        refine lv_iinc (v := nI (k + 1)) (lv' := [(2, .int (nI (k + 1))), (0, .ref o0), (1, .int (nI B))]) hx hb dX0_lineUp_23 hl (k := 0) rfl (q_inc k) (by decide) rfl (fun ls hl => ?_)
        refine lv_goto (tgt := 2) hx hb dX0_lineUp_26 (by decide) ?_
        exact ih2 (k + 1) (va_up g k k) (by omega) (show (va_up g k k) = q_line row (k + 1) from (by rw [e_g]; exact q_line_1 row k)) (show (k + 1) ≤ B from (by omega)) _ _ h _ (lv_sub hl [0, 1, 2] rfl)
  exact loop2 (B - 0 + 1) 0 row (Nat.lt_succ_self _) (show row = q_line row 0 from (q_line_0 row)) (show 0 ≤ B from (Nat.zero_le _)) _ _ h _ (lv_sub hl [0, 1, 2] rfl)

set_option maxHeartbeats 4000000 in
set_option maxRecDepth 100000 in
theorem c_X0_swap (l : Launch) (G : vq_G) (o0 ad : Nat) (gen : Int64) (sz : Nat) (bs : Int64) (row : Nat → Nat) (i j : Nat) (hi : i < 38) (hj : j < 38) : vq_v l yX0_swap wsX0_swap 0 0 G [.ref o0, .int (nI i), .int (nI j)] [(o0, .inr (0, [.ref ad, .long gen, .int (nI sz), .long bs])), (ad, .inl (G.2.1, 38, .inl (fun zz => nI (row zz))))]  [(o0, .inr (0, [.ref ad, .long gen, .int (nI sz), .long bs])), (ad, .inl (G.2.1, 38, .inl (fun zz => nI ((va_up (va_up row i (row j)) j (row i)) zz))))] := by
  refine vq_openv (cc := cX0_swap) (maxL := 4) (ret := none) (Ts' := wsX0_swap.tail) (by decide) rfl (Nat.le_of_ble_eq_true rfl) ?_
  intro p e s m args below meth c A ls C h hnm hl
  have hx := C.1.1
  have hb := C.1.2.1
  have hts := C.1.2.2.2.2
  have hl : lv_has ls 4 [(0, .ref o0), (1, .int (nI i)), (2, .int (nI j))] := hl
  have f9 := C.1.2.2.2.2 (.fieldLink RX0 9 "FountainCode$Drop" "row" "[I") (by decide +kernel)
  have iX0 : ∀ w ∈ u_ws RX0 TX0 4, w ∈ wsX0_swap := by decide +kernel
  refine lv_iload_n hx hb dX0_swap_0 rfl (lv_at hl 1 rfl) ?_
  refine q_if_lt (tgt := 26) hx hb (by omega) dX0_swap_1 (by decide) (fun z1 => absurd z1 (by omega)) (fun z1 => ?_)
  refine lv_iload_n hx hb dX0_swap_4 rfl (lv_at hl 1 rfl) ?_
  refine lv_aload_n hx hb dX0_swap_5 rfl (lv_at hl 0 rfl) ?_
  refine q_get (Cn := RX0) (T := TX0) (N := 4) (ci := 0) (v := .ref ad) C h iX0 0 rfl rfl 0 (by decide) f9 rfl dX0_swap_6 ?_
  refine q_alen (n := 38) C h 1 rfl dX0_swap_9 ?_
  refine q_icmp_ge (tgt := 26) hx hb (by omega) (by omega) dX0_swap_10 (by decide) (fun z10 => absurd z10 (by omega)) (fun z10 => ?_)
  refine lv_iload_n hx hb dX0_swap_13 rfl (lv_at hl 2 rfl) ?_
  refine q_if_lt (tgt := 26) hx hb (by omega) dX0_swap_14 (by decide) (fun z14 => absurd z14 (by omega)) (fun z14 => ?_)
  refine lv_iload_n hx hb dX0_swap_17 rfl (lv_at hl 2 rfl) ?_
  refine lv_aload_n hx hb dX0_swap_18 rfl (lv_at hl 0 rfl) ?_
  refine q_get (Cn := RX0) (T := TX0) (N := 4) (ci := 0) (v := .ref ad) C h iX0 0 rfl rfl 0 (by decide) f9 rfl dX0_swap_19 ?_
  refine q_alen (n := 38) C h 1 rfl dX0_swap_22 ?_
  refine q_icmp_lt (tgt := 27) hx hb (by omega) (by omega) dX0_swap_23 (by decide) (fun z23 => ?_) (fun z23 => absurd z23 (by omega))
  refine lv_aload_n hx hb dX0_swap_27 rfl (lv_at hl 0 rfl) ?_
  refine q_get (Cn := RX0) (T := TX0) (N := 4) (ci := 0) (v := .ref ad) C h iX0 0 rfl rfl 0 (by decide) f9 rfl dX0_swap_28 ?_
  refine lv_iload_n hx hb dX0_swap_31 rfl (lv_at hl 1 rfl) ?_
  refine q_iald (i := i) (v := (nI (row i))) C h 1 rfl (by omega) (by omega) rfl dX0_swap_32 ?_
  refine lv_istore_n (lv' := [(3, .int (nI (row i))), (0, .ref o0), (1, .int (nI i)), (2, .int (nI j))]) hx hb dX0_swap_33 rfl hl (by decide) rfl (fun ls hl => ?_)
  refine lv_aload_n hx hb dX0_swap_34 rfl (lv_at hl 1 rfl) ?_
  refine q_get (Cn := RX0) (T := TX0) (N := 4) (ci := 0) (v := .ref ad) C h iX0 0 rfl rfl 0 (by decide) f9 rfl dX0_swap_35 ?_
  refine lv_iload_n hx hb dX0_swap_38 rfl (lv_at hl 2 rfl) ?_
  refine lv_aload_n hx hb dX0_swap_39 rfl (lv_at hl 1 rfl) ?_
  refine q_get (Cn := RX0) (T := TX0) (N := 4) (ci := 0) (v := .ref ad) C h iX0 0 rfl rfl 0 (by decide) f9 rfl dX0_swap_40 ?_
  refine lv_iload_n hx hb dX0_swap_43 rfl (lv_at hl 3 rfl) ?_
  refine q_iald (i := j) (v := (nI (row j))) C h 1 rfl (by omega) (by omega) rfl dX0_swap_44 ?_
  refine q_iast (i := i) (g := (fun zz => nI ((va_up row i (row j)) zz))) (w' := [(o0, .inr (0, [.ref ad, .long gen, .int (nI sz), .long bs])), (ad, .inl (G.2.1, 38, .inl (fun zz => nI ((va_up row i (row j)) zz))))]) C h 1 rfl (by omega) (by omega) (q_upN _ _ _) rfl dX0_swap_45 (fun H locs h => ?_)
  refine lv_aload_n hx hb dX0_swap_46 rfl (lv_at hl 1 rfl) ?_
  refine q_get (Cn := RX0) (T := TX0) (N := 4) (ci := 0) (v := .ref ad) C h iX0 0 rfl rfl 0 (by decide) f9 rfl dX0_swap_47 ?_
  refine lv_iload_n hx hb dX0_swap_50 rfl (lv_at hl 3 rfl) ?_
  refine lv_iload_n hx hb dX0_swap_51 rfl (lv_at hl 0 rfl) ?_
  refine q_iast (i := j) (g := (fun zz => nI ((va_up (va_up row i (row j)) j (row i)) zz))) (w' := [(o0, .inr (0, [.ref ad, .long gen, .int (nI sz), .long bs])), (ad, .inl (G.2.1, 38, .inl (fun zz => nI ((va_up (va_up row i (row j)) j (row i)) zz))))]) C h 1 rfl (by omega) (by omega) (q_upN _ _ _) rfl dX0_swap_52 (fun H locs h => ?_)
  exact q_retv C h rfl rfl dX0_swap_53

set_option maxHeartbeats 4000000 in
set_option maxRecDepth 100000 in
theorem c_X1_rowCount (l : Launch) (G : vq_G) (o0 ar av : Nat) (rows : Nat → Int64) (rv : Nat → Int32) (rk : Nat) : vq_i l yX1_rowCount wsX1_rowCount 0 0 G [.ref o0] [(o0, .inr (1, [.ref ar, .ref av, .int (nI rk)])), (ar, .inl (G.2.2, 38, .inr (.inl rows))), (av, .inl (G.2.1, 38, .inl rv))] (nI rk) [(o0, .inr (1, [.ref ar, .ref av, .int (nI rk)])), (ar, .inl (G.2.2, 38, .inr (.inl rows))), (av, .inl (G.2.1, 38, .inl rv))] := by
  refine vq_openi (cc := cX1_rowCount) (maxL := 1) (ret := (some .int)) (Ts' := wsX1_rowCount.tail) (by decide) rfl (Nat.le_of_ble_eq_true rfl) ?_
  intro p e s m args below meth c A ls C h hnm hl
  have hx := C.1.1
  have hb := C.1.2.1
  have hts := C.1.2.2.2.2
  have hl : lv_has ls 1 [(0, .ref o0)] := hl
  have f19 := C.1.2.2.2.2 (.fieldLink RX1 19 "FountainCode$Elimination" "rowCount" "I") (by decide +kernel)
  have iX1 : ∀ w ∈ u_ws RX1 TX1 3, w ∈ wsX1_rowCount := by decide +kernel
  refine lv_aload_n hx hb dX1_rowCount_0 rfl (lv_at hl 0 rfl) ?_
  refine q_get (Cn := RX1) (T := TX1) (N := 3) (ci := 1) (v := .int (nI rk)) C h iX1 0 rfl rfl 2 (by decide) f19 rfl dX1_rowCount_1 ?_
  exact q_reti C h rfl rfl rfl dX1_rowCount_4

set_option maxHeartbeats 4000000 in
set_option maxRecDepth 100000 in
theorem c_X1_clear (l : Launch) (G : vq_G) (o0 ar av : Nat) (rows : Nat → Int64) (rv : Nat → Int32) (rk : Nat) : vq_v l yX1_clear wsX1_clear 1 24 G [.ref o0] [(o0, .inr (1, [.ref ar, .ref av, .int (nI rk)])), (ar, .inl (G.2.2, 38, .inr (.inl rows))), (av, .inl (G.2.1, 38, .inl rv))]  [(o0, .inr (1, [.ref ar, .ref av, .int (nI 0)])), (ar, .inl (G.2.2, 38, .inr (.inl (fun _ => 0)))), (av, .inl (G.2.1, 38, .inl (fun _ => (nI 0))))] := by
  refine vq_openv (cc := cX1_clear) (maxL := 1) (ret := none) (Ts' := wsX1_clear.tail) (by decide) rfl (Nat.le_of_ble_eq_true rfl) ?_
  intro p e s m args below meth c A ls C h hnm hl
  have hx := C.1.1
  have hb := C.1.2.1
  have hts := C.1.2.2.2.2
  have hl : lv_has ls 1 [(0, .ref o0)] := hl
  have f19 := C.1.2.2.2.2 (.fieldLink RX1 19 "FountainCode$Elimination" "rowCount" "I") (by decide +kernel)
  have iX1 : ∀ w ∈ u_ws RX1 TX1 3, w ∈ wsX1_clear := by decide +kernel
  have f9 := C.1.2.2.2.2 (.fieldLink RX1 9 "FountainCode$Elimination" "rows" "[J") (by decide +kernel)
  have f15 := C.1.2.2.2.2 (.fieldLink RX1 15 "FountainCode$Elimination" "values" "[I") (by decide +kernel)
  refine lv_aload_n hx hb dX1_clear_0 rfl (lv_at hl 0 rfl) ?_
  refine lv_iconst (v := nI 0) hx hb dX1_clear_1 (by decide) ?_
  refine q_put (Cn := RX1) (T := TX1) (N := 3) (ci := 1) (v := .int (nI 0)) (w' := [(o0, .inr (1, [.ref ar, .ref av, .int (nI 0)])), (ar, .inl (G.2.2, 38, .inr (.inl rows))), (av, .inl (G.2.1, 38, .inl rv))]) C h iX1 tyX1 tyX1_ok nmX1 0 rfl rfl 2 (by decide) f19 rfl rfl rfl (Nat.le_of_ble_eq_true rfl) dX1_clear_2 rfl (fun H locs h => ?_)
  refine lv_aload_n hx hb dX1_clear_5 rfl (lv_at hl 0 rfl) ?_
  refine q_get (Cn := RX1) (T := TX1) (N := 3) (ci := 1) (v := .ref ar) C h iX1 0 rfl rfl 0 (by decide) f9 rfl dX1_clear_6 ?_
  refine lv_lconst (v := 0) hx hb dX1_clear_9 (by decide) ?_
  refine q_callSv C h (c_J7_fill_d0a16 l G ar 38 rows 0 (by decide)) (va_cwS 2 hts gX1_clear_J7_fill_d0a16 rfl rfl rfl (by decide +kernel) ⟨Nat.le_of_ble_eq_true rfl, Nat.le_of_ble_eq_true rfl⟩) [1] rfl rfl [0, 2] (wr := [(o0, .inr (1, [.ref ar, .ref av, .int (nI 0)])), (av, .inl (G.2.1, 38, .inl rv))]) rfl rfl (by decide) rfl hl.1 rfl (Nat.le_of_ble_eq_true rfl) dX1_clear_10 ⟨Nat.zero_le _, Nat.zero_le _⟩ [0, 2, 1] (w' := [(o0, .inr (1, [.ref ar, .ref av, .int (nI 0)])), (ar, .inl (G.2.2, 38, .inr (.inl (fun _ => 0)))), (av, .inl (G.2.1, 38, .inl rv))]) rfl rfl (fun H locs h => ?_)
  refine lv_aload_n hx hb dX1_clear_13 rfl (lv_at hl 0 rfl) ?_
  refine q_get (Cn := RX1) (T := TX1) (N := 3) (ci := 1) (v := .ref av) C h iX1 0 rfl rfl 1 (by decide) f15 rfl dX1_clear_14 ?_
  refine lv_iconst (v := nI 0) hx hb dX1_clear_17 (by decide) ?_
  refine q_callSv C h (c_J7_fill_53178 l G av 38 rv (nI 0) (by decide)) (va_cwS 2 hts gX1_clear_J7_fill_53178 rfl rfl rfl (by decide +kernel) ⟨Nat.le_of_ble_eq_true rfl, Nat.le_of_ble_eq_true rfl⟩) [2] rfl rfl [0, 1] (wr := [(o0, .inr (1, [.ref ar, .ref av, .int (nI 0)])), (ar, .inl (G.2.2, 38, .inr (.inl (fun _ => 0))))]) rfl rfl (by decide) rfl hl.1 rfl (Nat.le_of_ble_eq_true rfl) dX1_clear_18 ⟨Nat.zero_le _, Nat.zero_le _⟩ [0, 1, 2] (w' := [(o0, .inr (1, [.ref ar, .ref av, .int (nI 0)])), (ar, .inl (G.2.2, 38, .inr (.inl (fun _ => 0)))), (av, .inl (G.2.1, 38, .inl (fun _ => (nI 0))))]) rfl rfl (fun H locs h => ?_)
  exact q_retv C h rfl rfl dX1_clear_21

set_option maxHeartbeats 4000000 in
set_option maxRecDepth 100000 in
theorem c_X1_remainder (l : Launch) (G : vq_G) (o0 ar av : Nat) (rows : Nat → Int64) (rv : Nat → Int32) (rk : Nat) (x : Int64) : vq_l l yX1_remainder wsX1_remainder 2 42 G [.ref o0, .long x] [(o0, .inr (1, [.ref ar, .ref av, .int (nI rk)])), (ar, .inl (G.2.2, 38, .inr (.inl rows))), (av, .inl (G.2.1, 38, .inl rv))] (q_rem rows x 38) [(o0, .inr (1, [.ref ar, .ref av, .int (nI rk)])), (ar, .inl (G.2.2, 38, .inr (.inl rows))), (av, .inl (G.2.1, 38, .inl rv))] := by
  refine vq_openl (cc := cX1_remainder) (maxL := 6) (ret := (some .long)) (Ts' := wsX1_remainder.tail) (by decide) rfl (Nat.le_of_ble_eq_true rfl) ?_
  intro p e s m args below meth c A ls C h hnm hl
  have hx := C.1.1
  have hb := C.1.2.1
  have hts := C.1.2.2.2.2
  have hl : lv_has ls 6 [(0, .ref o0), (1, .long x)] := hl
  have iniX5 := C.1.2.2.2.2 (.initialized RX5) (by decide +kernel)
  have stX5_holds := C.1.2.2.2.2 (.static yX5_holds) (by decide +kernel)
  have f9 := C.1.2.2.2.2 (.fieldLink RX1 9 "FountainCode$Elimination" "rows" "[J") (by decide +kernel)
  have iX1 : ∀ w ∈ u_ws RX1 TX1 3, w ∈ wsX1_remainder := by decide +kernel
  refine lv_lload_n hx hb dX1_remainder_0 rfl (lv_at hl 1 rfl) ?_
  refine lv_lstore_n (lv' := [(3, .long x), (0, .ref o0), (1, .long x)]) hx hb dX1_remainder_1 rfl hl (by decide) rfl (fun ls hl => ?_)
  refine lv_iconst (v := nI 0) hx hb dX1_remainder_2 (by decide) ?_
  refine lv_istore (lv' := [(5, .int (nI 0)), (3, .long x), (0, .ref o0), (1, .long x)]) hx hb dX1_remainder_3 hl (by decide) rfl (fun ls hl => ?_)
  have loop5 : ∀ (fu : Nat) (k : Nat) (y : Int64), 38 - k < fu → y = q_rem rows x k → (k ≤ 38) → ∀ (H : Heap) (locs : List Loc), vq_H G A s [(o0, .inr (1, [.ref ar, .ref av, .int (nI rk)])), (ar, .inl (G.2.2, 38, .inr (.inl rows))), (av, .inl (G.2.1, 38, .inl rv))] H locs → ∀ (ls : Array Slot), lv_has ls 6 [(5, .int (nI k)), (3, .long y), (0, .ref o0), (1, .long x)] → W p l e ({ frames := 2, cells := 0, slots := 0, locals := 42 } : Room) s m args below meth c H locs 0 0 (MQ below (va_Ql (fun zr (_ : Unit) => zr = (q_rem rows x 38)) (fun _ => vq_T G A [(o0, .inr (1, [.ref ar, .ref av, .int (nI rk)])), (ar, .inl (G.2.2, 38, .inr (.inl rows))), (av, .inl (G.2.1, 38, .inl rv))]) A) args s 0 0 A) (F0 m 5 ls []) := by
    intro fu
    induction fu with
    | zero => exact fun k y hm => absurd hm (Nat.not_lt_zero _)
    | succ fu ih =>
      intro k y hm5 e_y hk H locs h ls hl
      have ih5 := ih
      clear ih
      refine lv_iload hx hb dX1_remainder_5 (lv_at hl 0 rfl) ?_
      refine lv_bipush (v := nI 38) hx hb dX1_remainder_7 (by decide) ?_
      refine q_icmp_ge (tgt := 37) hx hb (by omega) (by omega) dX1_remainder_9 (by decide) (fun z9 => ?_) (fun z9 => ?_)
      · refine lv_lload_n hx hb dX1_remainder_37 rfl (lv_at hl 1 rfl) ?_
        exact q_retl C h rfl (by rw [e_y, show k = 38 from by omega]) rfl dX1_remainder_38
      · refine lv_lload_n hx hb dX1_remainder_12 rfl (lv_at hl 3 rfl) ?_
        refine lv_iload hx hb dX1_remainder_13 (lv_at hl 0 rfl) ?_
        refine q_callNi C h (c_X5_holds l G x k (by omega)) ⟨va_cnB 2 hts gX1_remainder_X5_holds_n32 rfl rfl rfl (C.2.2.1.at 6 rfl) iniX5 (by decide +kernel) ⟨Nat.le_of_ble_eq_true rfl, Nat.le_of_ble_eq_true rfl⟩, stX5_holds, trivial⟩ [] rfl rfl [0, 1, 2] (wr := [(o0, .inr (1, [.ref ar, .ref av, .int (nI rk)])), (ar, .inl (G.2.2, 38, .inr (.inl rows))), (av, .inl (G.2.1, 38, .inl rv))]) rfl rfl (by decide) rfl hl.1 rfl (Nat.le_of_ble_eq_true rfl) dX1_remainder_15 ⟨Nat.zero_le _, Nat.zero_le _⟩ [0, 1, 2] (w' := [(o0, .inr (1, [.ref ar, .ref av, .int (nI rk)])), (ar, .inl (G.2.2, 38, .inr (.inl rows))), (av, .inl (G.2.1, 38, .inl rv))]) rfl rfl (fun H locs h => ?_)
        refine q_ifb_eq (tgt := 31) hx hb dX1_remainder_18 (by decide) (fun z18 => ?_) (fun z18 => ?_)
        · refine lv_iinc (v := nI (k + 1)) (lv' := [(5, .int (nI (k + 1))), (3, .long y), (0, .ref o0), (1, .long x)]) hx hb dX1_remainder_31 hl (k := 0) rfl (q_inc k) (by decide) rfl (fun ls hl => ?_)
          refine lv_goto (tgt := 5) hx hb dX1_remainder_34 (by decide) ?_
          exact ih5 (k + 1) y (by omega) (show y = q_rem rows x (k + 1) from (by rw [e_y]; simp [q_rem, z18])) (show (k + 1) ≤ 38 from (by omega)) _ _ h _ (lv_sub hl [0, 1, 2, 3] rfl)
        · refine lv_lload_n hx hb dX1_remainder_21 rfl (lv_at hl 1 rfl) ?_
          refine lv_aload_n hx hb dX1_remainder_22 rfl (lv_at hl 2 rfl) ?_
          refine q_get (Cn := RX1) (T := TX1) (N := 3) (ci := 1) (v := .ref ar) C h iX1 0 rfl rfl 0 (by decide) f9 rfl dX1_remainder_23 ?_
          refine lv_iload hx hb dX1_remainder_26 (lv_at hl 0 rfl) ?_
          refine q_lald (i := k) (v := rows k) C h 1 rfl (by omega) (by omega) rfl dX1_remainder_28 ?_
          refine lv_lxor hx hb dX1_remainder_29 ?_
          refine lv_lstore_n (lv' := [(3, .long (y ^^^ (rows k))), (5, .int (nI k)), (0, .ref o0), (1, .long x)]) hx hb dX1_remainder_30 rfl hl (by decide) rfl (fun ls hl => ?_)
          refine lv_iinc (v := nI (k + 1)) (lv' := [(5, .int (nI (k + 1))), (3, .long (y ^^^ (rows k))), (0, .ref o0), (1, .long x)]) hx hb dX1_remainder_31 hl (k := 1) rfl (q_inc k) (by decide) rfl (fun ls hl => ?_)
          refine lv_goto (tgt := 5) hx hb dX1_remainder_34 (by decide) ?_
          exact ih5 (k + 1) (y ^^^ (rows k)) (by omega) (show (y ^^^ (rows k)) = q_rem rows x (k + 1) from (by rw [e_y]; simp [q_rem, z18])) (show (k + 1) ≤ 38 from (by omega)) _ _ h _ (lv_sub hl [0, 1, 2, 3] rfl)
  exact loop5 (38 - 0 + 1) 0 x (Nat.lt_succ_self _) (show x = q_rem rows x 0 from rfl) (show 0 ≤ 38 from (Nat.zero_le _)) _ _ h _ (lv_sub hl [0, 1, 2, 3] rfl)

set_option maxHeartbeats 4000000 in
set_option maxRecDepth 100000 in
theorem c_X1_knownValue (l : Launch) (G : vq_G) (o0 ar av : Nat) (rows : Nat → Int64) (rv : Nat → Int32) (rk : Nat) (x : Int64) : vq_i l yX1_knownValue wsX1_knownValue 2 42 G [.ref o0, .long x] [(o0, .inr (1, [.ref ar, .ref av, .int (nI rk)])), (ar, .inl (G.2.2, 38, .inr (.inl rows))), (av, .inl (G.2.1, 38, .inl rv))] (q_kv rv x 38) [(o0, .inr (1, [.ref ar, .ref av, .int (nI rk)])), (ar, .inl (G.2.2, 38, .inr (.inl rows))), (av, .inl (G.2.1, 38, .inl rv))] := by
  refine vq_openi (cc := cX1_knownValue) (maxL := 5) (ret := (some .int)) (Ts' := wsX1_knownValue.tail) (by decide) rfl (Nat.le_of_ble_eq_true rfl) ?_
  intro p e s m args below meth c A ls C h hnm hl
  have hx := C.1.1
  have hb := C.1.2.1
  have hts := C.1.2.2.2.2
  have hl : lv_has ls 5 [(0, .ref o0), (1, .long x)] := hl
  have iniX5 := C.1.2.2.2.2 (.initialized RX5) (by decide +kernel)
  have stX5_holds := C.1.2.2.2.2 (.static yX5_holds) (by decide +kernel)
  have f15 := C.1.2.2.2.2 (.fieldLink RX1 15 "FountainCode$Elimination" "values" "[I") (by decide +kernel)
  have iX1 : ∀ w ∈ u_ws RX1 TX1 3, w ∈ wsX1_knownValue := by decide +kernel
  refine lv_iconst (v := nI 0) hx hb dX1_knownValue_0 (by decide) ?_
  refine lv_istore_n (lv' := [(3, .int (nI 0)), (0, .ref o0), (1, .long x)]) hx hb dX1_knownValue_1 rfl hl (by decide) rfl (fun ls hl => ?_)
  refine lv_iconst (v := nI 0) hx hb dX1_knownValue_2 (by decide) ?_
  refine lv_istore (lv' := [(4, .int (nI 0)), (3, .int (nI 0)), (0, .ref o0), (1, .long x)]) hx hb dX1_knownValue_3 hl (by decide) rfl (fun ls hl => ?_)
  have loop5 : ∀ (fu : Nat) (k : Nat) (y : Int32), 38 - k < fu → y = q_kv rv x k → (k ≤ 38) → ∀ (H : Heap) (locs : List Loc), vq_H G A s [(o0, .inr (1, [.ref ar, .ref av, .int (nI rk)])), (ar, .inl (G.2.2, 38, .inr (.inl rows))), (av, .inl (G.2.1, 38, .inl rv))] H locs → ∀ (ls : Array Slot), lv_has ls 5 [(4, .int (nI k)), (3, .int y), (0, .ref o0), (1, .long x)] → W p l e ({ frames := 2, cells := 0, slots := 0, locals := 42 } : Room) s m args below meth c H locs 0 0 (MQ below (va_Qi (fun zr (_ : Unit) => zr = (q_kv rv x 38)) (fun _ => vq_T G A [(o0, .inr (1, [.ref ar, .ref av, .int (nI rk)])), (ar, .inl (G.2.2, 38, .inr (.inl rows))), (av, .inl (G.2.1, 38, .inl rv))]) A) args s 0 0 A) (F0 m 5 ls []) := by
    intro fu
    induction fu with
    | zero => exact fun k y hm => absurd hm (Nat.not_lt_zero _)
    | succ fu ih =>
      intro k y hm5 e_y hk H locs h ls hl
      have ih5 := ih
      clear ih
      refine lv_iload hx hb dX1_knownValue_5 (lv_at hl 0 rfl) ?_
      refine lv_bipush (v := nI 38) hx hb dX1_knownValue_7 (by decide) ?_
      refine q_icmp_ge (tgt := 37) hx hb (by omega) (by omega) dX1_knownValue_9 (by decide) (fun z9 => ?_) (fun z9 => ?_)
      · refine lv_iload_n hx hb dX1_knownValue_37 rfl (lv_at hl 1 rfl) ?_
        exact q_reti C h rfl (by rw [e_y, show k = 38 from by omega]) rfl dX1_knownValue_38
      · refine lv_lload_n hx hb dX1_knownValue_12 rfl (lv_at hl 3 rfl) ?_
        refine lv_iload hx hb dX1_knownValue_13 (lv_at hl 0 rfl) ?_
        refine q_callNi C h (c_X5_holds l G x k (by omega)) ⟨va_cnB 2 hts gX1_knownValue_X5_holds_n32 rfl rfl rfl (C.2.2.1.at 6 rfl) iniX5 (by decide +kernel) ⟨Nat.le_of_ble_eq_true rfl, Nat.le_of_ble_eq_true rfl⟩, stX5_holds, trivial⟩ [] rfl rfl [0, 1, 2] (wr := [(o0, .inr (1, [.ref ar, .ref av, .int (nI rk)])), (ar, .inl (G.2.2, 38, .inr (.inl rows))), (av, .inl (G.2.1, 38, .inl rv))]) rfl rfl (by decide) rfl hl.1 rfl (Nat.le_of_ble_eq_true rfl) dX1_knownValue_15 ⟨Nat.zero_le _, Nat.zero_le _⟩ [0, 1, 2] (w' := [(o0, .inr (1, [.ref ar, .ref av, .int (nI rk)])), (ar, .inl (G.2.2, 38, .inr (.inl rows))), (av, .inl (G.2.1, 38, .inl rv))]) rfl rfl (fun H locs h => ?_)
        refine q_ifb_eq (tgt := 31) hx hb dX1_knownValue_18 (by decide) (fun z18 => ?_) (fun z18 => ?_)
        · refine lv_iinc (v := nI (k + 1)) (lv' := [(4, .int (nI (k + 1))), (3, .int y), (0, .ref o0), (1, .long x)]) hx hb dX1_knownValue_31 hl (k := 0) rfl (q_inc k) (by decide) rfl (fun ls hl => ?_)
          refine lv_goto (tgt := 5) hx hb dX1_knownValue_34 (by decide) ?_
          exact ih5 (k + 1) y (by omega) (show y = q_kv rv x (k + 1) from (by rw [e_y]; simp [q_kv, z18])) (show (k + 1) ≤ 38 from (by omega)) _ _ h _ (lv_sub hl [0, 1, 2, 3] rfl)
        · refine lv_iload_n hx hb dX1_knownValue_21 rfl (lv_at hl 1 rfl) ?_
          refine lv_aload_n hx hb dX1_knownValue_22 rfl (lv_at hl 2 rfl) ?_
          refine q_get (Cn := RX1) (T := TX1) (N := 3) (ci := 1) (v := .ref av) C h iX1 0 rfl rfl 1 (by decide) f15 rfl dX1_knownValue_23 ?_
          refine lv_iload hx hb dX1_knownValue_26 (lv_at hl 0 rfl) ?_
          refine q_iald (i := k) (v := (rv k)) C h 2 rfl (by omega) (by omega) rfl dX1_knownValue_28 ?_
          refine lv_ixor hx hb dX1_knownValue_29 ?_
          refine lv_istore_n (lv' := [(3, .int (y ^^^ (rv k))), (4, .int (nI k)), (0, .ref o0), (1, .long x)]) hx hb dX1_knownValue_30 rfl hl (by decide) rfl (fun ls hl => ?_)
          refine lv_iinc (v := nI (k + 1)) (lv' := [(4, .int (nI (k + 1))), (3, .int (y ^^^ (rv k))), (0, .ref o0), (1, .long x)]) hx hb dX1_knownValue_31 hl (k := 1) rfl (q_inc k) (by decide) rfl (fun ls hl => ?_)
          refine lv_goto (tgt := 5) hx hb dX1_knownValue_34 (by decide) ?_
          exact ih5 (k + 1) (y ^^^ (rv k)) (by omega) (show (y ^^^ (rv k)) = q_kv rv x (k + 1) from (by rw [e_y]; simp [q_kv, z18])) (show (k + 1) ≤ 38 from (by omega)) _ _ h _ (lv_sub hl [0, 1, 2, 3] rfl)
  exact loop5 (38 - 0 + 1) 0 (nI 0) (Nat.lt_succ_self _) (show (nI 0) = q_kv rv x 0 from rfl) (show 0 ≤ 38 from (Nat.zero_le _)) _ _ h _ (lv_sub hl [0, 1, 2, 3] rfl)

set_option maxHeartbeats 4000000 in
set_option maxRecDepth 100000 in
theorem c_X1_contradicts (l : Launch) (G : vq_G) (o0 ar av : Nat) (rows : Nat → Int64) (rv : Nat → Int32) (rk : Nat) (x : Int64) (v : Int32) : vq_i l yX1_contradicts wsX1_contradicts 3 67 G [.ref o0, .long x, .int v] [(o0, .inr (1, [.ref ar, .ref av, .int (nI rk)])), (ar, .inl (G.2.2, 38, .inr (.inl rows))), (av, .inl (G.2.1, 38, .inl rv))] (q_b (q_con rows rv x v)) [(o0, .inr (1, [.ref ar, .ref av, .int (nI rk)])), (ar, .inl (G.2.2, 38, .inr (.inl rows))), (av, .inl (G.2.1, 38, .inl rv))] := by
  refine vq_openi (cc := cX1_contradicts) (maxL := 4) (ret := (some .boolean)) (Ts' := wsX1_contradicts.tail) (by decide) rfl (Nat.le_of_ble_eq_true rfl) ?_
  intro p e s m args below meth c A ls C h hnm hl
  have hx := C.1.1
  have hb := C.1.2.1
  have hts := C.1.2.2.2.2
  have hl : lv_has ls 4 [(0, .ref o0), (1, .long x), (3, .int v)] := hl
  refine lv_aload_n hx hb dX1_contradicts_0 rfl (lv_at hl 0 rfl) ?_
  refine lv_lload_n hx hb dX1_contradicts_1 rfl (lv_at hl 1 rfl) ?_
  refine q_callVl C h (c_X1_remainder l G o0 ar av rows rv rk x) (cwV 1 hts gX1_contradicts_X1_remainder rfl rfl rfl (by decide +kernel) ⟨Nat.le_of_ble_eq_true rfl, Nat.le_of_ble_eq_true rfl⟩) [0, 1, 2] rfl rfl [] (wr := []) rfl rfl (by decide) 0 rfl rfl rfl hl.1 rfl (Nat.le_of_ble_eq_true rfl) dX1_contradicts_2 ⟨Nat.zero_le _, Nat.zero_le _⟩ [0, 1, 2] (w' := [(o0, .inr (1, [.ref ar, .ref av, .int (nI rk)])), (ar, .inl (G.2.2, 38, .inr (.inl rows))), (av, .inl (G.2.1, 38, .inl rv))]) rfl rfl (fun H locs h => ?_)
  refine lv_lconst (v := 0) hx hb dX1_contradicts_5 (by decide) ?_
  refine q_lif_ne (tgt := 23) hx hb dX1_contradicts_6 dX1_contradicts_7 (by decide) (fun z7 => ?_) (fun z7 => ?_)
  · refine lv_iconst (v := nI 0) hx hb dX1_contradicts_23 (by decide) ?_
    refine q_top (v' := .int (q_b false)) rfl ?_
    exact q_retz C h rfl (by first | simp [q_con, z7, z16] | simp [q_con, z7]) rfl dX1_contradicts_24
  · refine lv_aload_n hx hb dX1_contradicts_10 rfl (lv_at hl 0 rfl) ?_
    refine lv_lload_n hx hb dX1_contradicts_11 rfl (lv_at hl 1 rfl) ?_
    refine q_callVi C h (c_X1_knownValue l G o0 ar av rows rv rk x) (cwV 1 hts gX1_contradicts_X1_knownValue rfl rfl rfl (by decide +kernel) ⟨Nat.le_of_ble_eq_true rfl, Nat.le_of_ble_eq_true rfl⟩) [0, 1, 2] rfl rfl [] (wr := []) rfl rfl (by decide) 0 rfl rfl rfl hl.1 rfl (Nat.le_of_ble_eq_true rfl) dX1_contradicts_12 ⟨Nat.zero_le _, Nat.zero_le _⟩ [0, 1, 2] (w' := [(o0, .inr (1, [.ref ar, .ref av, .int (nI rk)])), (ar, .inl (G.2.2, 38, .inr (.inl rows))), (av, .inl (G.2.1, 38, .inl rv))]) rfl rfl (fun H locs h => ?_)
    refine lv_iload_n hx hb dX1_contradicts_15 rfl (lv_at hl 2 rfl) ?_
    refine lv_icmp_eq (tgt := 23) hx hb dX1_contradicts_16 (by decide) (fun z16 => ?_) (fun z16 => ?_)
    · refine lv_iconst (v := nI 0) hx hb dX1_contradicts_23 (by decide) ?_
      refine q_top (v' := .int (q_b false)) rfl ?_
      exact q_retz C h rfl (by first | simp [q_con, z7, z16] | simp [q_con, z7]) rfl dX1_contradicts_24
    · refine lv_iconst (v := nI 1) hx hb dX1_contradicts_19 (by decide) ?_
      refine lv_goto (tgt := 24) hx hb dX1_contradicts_20 (by decide) ?_
      refine q_top (v' := .int (q_b true)) rfl ?_
      exact q_retz C h rfl (by first | simp [q_con, z7, z16] | simp [q_con, z7]) rfl dX1_contradicts_24

set_option maxHeartbeats 4000000 in
set_option maxRecDepth 100000 in
theorem c_X1_remainderOfBlock (l : Launch) (G : vq_G) (o0 ar av : Nat) (rows : Nat → Int64) (rv : Nat → Int32) (rk : Nat) (k : Nat) (hk : k < 38) : vq_l l yX1_remainderOfBlock wsX1_remainderOfBlock 1 20 G [.ref o0, .int (nI k)] [(o0, .inr (1, [.ref ar, .ref av, .int (nI rk)])), (ar, .inl (G.2.2, 38, .inr (.inl rows))), (av, .inl (G.2.1, 38, .inl rv))] (q_bit k ^^^ rows k) [(o0, .inr (1, [.ref ar, .ref av, .int (nI rk)])), (ar, .inl (G.2.2, 38, .inr (.inl rows))), (av, .inl (G.2.1, 38, .inl rv))] := by
  refine vq_openl (cc := cX1_remainderOfBlock) (maxL := 4) (ret := (some .long)) (Ts' := wsX1_remainderOfBlock.tail) (by decide) rfl (Nat.le_of_ble_eq_true rfl) ?_
  intro p e s m args below meth c A ls C h hnm hl
  have hx := C.1.1
  have hb := C.1.2.1
  have hts := C.1.2.2.2.2
  have hl : lv_has ls 4 [(0, .ref o0), (1, .int (nI k))] := hl
  have f9 := C.1.2.2.2.2 (.fieldLink RX1 9 "FountainCode$Elimination" "rows" "[J") (by decide +kernel)
  have iX1 : ∀ w ∈ u_ws RX1 TX1 3, w ∈ wsX1_remainderOfBlock := by decide +kernel
  have iniX5 := C.1.2.2.2.2 (.initialized RX5) (by decide +kernel)
  have stX5_setOf := C.1.2.2.2.2 (.static yX5_setOf) (by decide +kernel)
  refine lv_iload_n hx hb dX1_remainderOfBlock_0 rfl (lv_at hl 1 rfl) ?_
  refine q_if_lt (tgt := 19) hx hb (by omega) dX1_remainderOfBlock_1 (by decide) (fun z1 => absurd z1 (by omega)) (fun z1 => ?_)
  refine lv_iload_n hx hb dX1_remainderOfBlock_4 rfl (lv_at hl 1 rfl) ?_
  refine lv_bipush (v := nI 38) hx hb dX1_remainderOfBlock_5 (by decide) ?_
  refine q_icmp_ge (tgt := 19) hx hb (by omega) (by omega) dX1_remainderOfBlock_7 (by decide) (fun z7 => absurd z7 (by omega)) (fun z7 => ?_)
  refine lv_aload_n hx hb dX1_remainderOfBlock_10 rfl (lv_at hl 0 rfl) ?_
  refine q_get (Cn := RX1) (T := TX1) (N := 3) (ci := 1) (v := .ref ar) C h iX1 0 rfl rfl 0 (by decide) f9 rfl dX1_remainderOfBlock_11 ?_
  refine lv_iload_n hx hb dX1_remainderOfBlock_14 rfl (lv_at hl 1 rfl) ?_
  refine q_lald (i := k) (v := rows k) C h 1 rfl (by omega) (by omega) rfl dX1_remainderOfBlock_15 ?_
  refine lv_goto (tgt := 20) hx hb dX1_remainderOfBlock_16 (by decide) ?_
  refine lv_lstore_n (lv' := [(2, .long (rows k)), (0, .ref o0), (1, .int (nI k))]) hx hb dX1_remainderOfBlock_20 rfl hl (by decide) rfl (fun ls hl => ?_)
  refine lv_iload_n hx hb dX1_remainderOfBlock_21 rfl (lv_at hl 2 rfl) ?_
  refine q_callNl C h (c_X5_setOf l G k (by omega)) ⟨va_cnB 1 hts gX1_remainderOfBlock_X5_setOf_n51 rfl rfl rfl (C.2.2.1.at 12 rfl) iniX5 (by decide +kernel) ⟨Nat.le_of_ble_eq_true rfl, Nat.le_of_ble_eq_true rfl⟩, stX5_setOf, trivial⟩ [] rfl rfl [0, 1, 2] (wr := [(o0, .inr (1, [.ref ar, .ref av, .int (nI rk)])), (ar, .inl (G.2.2, 38, .inr (.inl rows))), (av, .inl (G.2.1, 38, .inl rv))]) rfl rfl (by decide) rfl hl.1 rfl (Nat.le_of_ble_eq_true rfl) dX1_remainderOfBlock_22 ⟨Nat.zero_le _, Nat.zero_le _⟩ [0, 1, 2] (w' := [(o0, .inr (1, [.ref ar, .ref av, .int (nI rk)])), (ar, .inl (G.2.2, 38, .inr (.inl rows))), (av, .inl (G.2.1, 38, .inl rv))]) rfl rfl (fun H locs h => ?_)
  refine lv_lload_n hx hb dX1_remainderOfBlock_25 rfl (lv_at hl 0 rfl) ?_
  refine lv_lxor hx hb dX1_remainderOfBlock_26 ?_
  exact q_retl C h rfl (by first | rfl | simp_all) rfl dX1_remainderOfBlock_27

set_option maxHeartbeats 4000000 in
set_option maxRecDepth 100000 in
theorem c_X1_fixes (l : Launch) (G : vq_G) (o0 ar av : Nat) (rows : Nat → Int64) (rv : Nat → Int32) (rk : Nat) (k : Nat) (hk : k < 38) : vq_i l yX1_fixes wsX1_fixes 2 43 G [.ref o0, .int (nI k)] [(o0, .inr (1, [.ref ar, .ref av, .int (nI rk)])), (ar, .inl (G.2.2, 38, .inr (.inl rows))), (av, .inl (G.2.1, 38, .inl rv))] (q_b (decide (q_bit k ^^^ rows k = 0))) [(o0, .inr (1, [.ref ar, .ref av, .int (nI rk)])), (ar, .inl (G.2.2, 38, .inr (.inl rows))), (av, .inl (G.2.1, 38, .inl rv))] := by
  refine vq_openi (cc := cX1_fixes) (maxL := 2) (ret := (some .boolean)) (Ts' := wsX1_fixes.tail) (by decide) rfl (Nat.le_of_ble_eq_true rfl) ?_
  intro p e s m args below meth c A ls C h hnm hl
  have hx := C.1.1
  have hb := C.1.2.1
  have hts := C.1.2.2.2.2
  have hl : lv_has ls 2 [(0, .ref o0), (1, .int (nI k))] := hl
  refine lv_aload_n hx hb dX1_fixes_0 rfl (lv_at hl 0 rfl) ?_
  refine lv_iload_n hx hb dX1_fixes_1 rfl (lv_at hl 1 rfl) ?_
  refine q_callVl C h (c_X1_remainderOfBlock l G o0 ar av rows rv rk k (by omega)) (cwV 1 hts gX1_fixes_X1_remainderOfBlock rfl rfl rfl (by decide +kernel) ⟨Nat.le_of_ble_eq_true rfl, Nat.le_of_ble_eq_true rfl⟩) [0, 1, 2] rfl rfl [] (wr := []) rfl rfl (by decide) 0 rfl rfl rfl hl.1 rfl (Nat.le_of_ble_eq_true rfl) dX1_fixes_2 ⟨Nat.zero_le _, Nat.zero_le _⟩ [0, 1, 2] (w' := [(o0, .inr (1, [.ref ar, .ref av, .int (nI rk)])), (ar, .inl (G.2.2, 38, .inr (.inl rows))), (av, .inl (G.2.1, 38, .inl rv))]) rfl rfl (fun H locs h => ?_)
  refine lv_lconst (v := 0) hx hb dX1_fixes_5 (by decide) ?_
  refine q_lif_ne (tgt := 14) hx hb dX1_fixes_6 dX1_fixes_7 (by decide) (fun z7 => ?_) (fun z7 => ?_)
  · refine lv_iconst (v := nI 0) hx hb dX1_fixes_14 (by decide) ?_
    refine q_top (v' := .int (q_b false)) rfl ?_
    exact q_retz C h rfl (by simp [z7]) rfl dX1_fixes_15
  · refine lv_iconst (v := nI 1) hx hb dX1_fixes_10 (by decide) ?_
    refine lv_goto (tgt := 15) hx hb dX1_fixes_11 (by decide) ?_
    refine q_top (v' := .int (q_b true)) rfl ?_
    exact q_retz C h rfl (by simp [z7]) rfl dX1_fixes_15

set_option maxHeartbeats 4000000 in
set_option maxRecDepth 100000 in
theorem c_X1_countLeaving (l : Launch) (G : vq_G) (o0 ar av : Nat) (rows : Nat → Int64) (rv : Nat → Int32) (rk : Nat) (x : Int64) (B : Nat) (hB : B ≤ 38) : vq_i l yX1_countLeaving wsX1_countLeaving 2 43 G [.ref o0, .long x, .int (nI B)] [(o0, .inr (1, [.ref ar, .ref av, .int (nI rk)])), (ar, .inl (G.2.2, 38, .inr (.inl rows))), (av, .inl (G.2.1, 38, .inl rv))] (nI (q_cnt rows x B)) [(o0, .inr (1, [.ref ar, .ref av, .int (nI rk)])), (ar, .inl (G.2.2, 38, .inr (.inl rows))), (av, .inl (G.2.1, 38, .inl rv))] := by
  refine vq_openi (cc := cX1_countLeaving) (maxL := 6) (ret := (some .int)) (Ts' := wsX1_countLeaving.tail) (by decide) rfl (Nat.le_of_ble_eq_true rfl) ?_
  intro p e s m args below meth c A ls C h hnm hl
  have hx := C.1.1
  have hb := C.1.2.1
  have hts := C.1.2.2.2.2
  have hl : lv_has ls 6 [(0, .ref o0), (1, .long x), (3, .int (nI B))] := hl
  refine lv_iconst (v := nI 0) hx hb dX1_countLeaving_0 (by decide) ?_
  refine lv_istore (lv' := [(4, .int (nI 0)), (0, .ref o0), (1, .long x), (3, .int (nI B))]) hx hb dX1_countLeaving_1 hl (by decide) rfl (fun ls hl => ?_)
  refine lv_iconst (v := nI 0) hx hb dX1_countLeaving_3 (by decide) ?_
  refine lv_istore (lv' := [(5, .int (nI 0)), (4, .int (nI 0)), (0, .ref o0), (1, .long x), (3, .int (nI B))]) hx hb dX1_countLeaving_4 hl (by decide) rfl (fun ls hl => ?_)
  have loop6 : ∀ (fu : Nat) (k : Nat) (y : Nat), B - k < fu → y = q_cnt rows x k → (k ≤ B) → ∀ (H : Heap) (locs : List Loc), vq_H G A s [(o0, .inr (1, [.ref ar, .ref av, .int (nI rk)])), (ar, .inl (G.2.2, 38, .inr (.inl rows))), (av, .inl (G.2.1, 38, .inl rv))] H locs → ∀ (ls : Array Slot), lv_has ls 6 [(5, .int (nI k)), (4, .int (nI y)), (0, .ref o0), (1, .long x), (3, .int (nI B))] → W p l e ({ frames := 2, cells := 0, slots := 0, locals := 43 } : Room) s m args below meth c H locs 0 0 (MQ below (va_Qi (fun zr (_ : Unit) => zr = (nI (q_cnt rows x B))) (fun _ => vq_T G A [(o0, .inr (1, [.ref ar, .ref av, .int (nI rk)])), (ar, .inl (G.2.2, 38, .inr (.inl rows))), (av, .inl (G.2.1, 38, .inl rv))]) A) args s 0 0 A) (F0 m 6 ls []) := by
    intro fu
    induction fu with
    | zero => exact fun k y hm => absurd hm (Nat.not_lt_zero _)
    | succ fu ih =>
      intro k y hm6 e_y hk H locs h ls hl
      have ih6 := ih
      clear ih
      refine lv_iload hx hb dX1_countLeaving_6 (lv_at hl 0 rfl) ?_
      refine lv_iload_n hx hb dX1_countLeaving_8 rfl (lv_at hl 4 rfl) ?_
      refine q_icmp_ge (tgt := 32) hx hb (by omega) (by omega) dX1_countLeaving_9 (by decide) (fun z9 => ?_) (fun z9 => ?_)
      · refine lv_iload hx hb dX1_countLeaving_32 (lv_at hl 1 rfl) ?_
        exact q_reti C h rfl (by rw [e_y, show k = B from by omega]) rfl dX1_countLeaving_34
      · refine lv_aload_n hx hb dX1_countLeaving_12 rfl (lv_at hl 2 rfl) ?_
        refine lv_iload hx hb dX1_countLeaving_13 (lv_at hl 0 rfl) ?_
        refine q_callVl C h (c_X1_remainderOfBlock l G o0 ar av rows rv rk k (by omega)) (cwV 1 hts gX1_countLeaving_X1_remainderOfBlock rfl rfl rfl (by decide +kernel) ⟨Nat.le_of_ble_eq_true rfl, Nat.le_of_ble_eq_true rfl⟩) [0, 1, 2] rfl rfl [] (wr := []) rfl rfl (by decide) 0 rfl rfl rfl hl.1 rfl (Nat.le_of_ble_eq_true rfl) dX1_countLeaving_15 ⟨Nat.zero_le _, Nat.zero_le _⟩ [0, 1, 2] (w' := [(o0, .inr (1, [.ref ar, .ref av, .int (nI rk)])), (ar, .inl (G.2.2, 38, .inr (.inl rows))), (av, .inl (G.2.1, 38, .inl rv))]) rfl rfl (fun H locs h => ?_)
        refine lv_lload_n hx hb dX1_countLeaving_18 rfl (lv_at hl 3 rfl) ?_
        refine q_lif_ne (tgt := 26) hx hb dX1_countLeaving_19 dX1_countLeaving_20 (by decide) (fun z20 => ?_) (fun z20 => ?_)
        · refine lv_iinc (v := nI (k + 1)) (lv' := [(5, .int (nI (k + 1))), (4, .int (nI y)), (0, .ref o0), (1, .long x), (3, .int (nI B))]) hx hb dX1_countLeaving_26 hl (k := 0) rfl (q_inc k) (by decide) rfl (fun ls hl => ?_)
          refine lv_goto (tgt := 6) hx hb dX1_countLeaving_29 (by decide) ?_
          exact ih6 (k + 1) y (by omega) (show y = q_cnt rows x (k + 1) from (by rw [e_y]; simp [q_cnt, z20])) (show (k + 1) ≤ B from (by omega)) _ _ h _ (lv_sub hl [0, 1, 2, 3, 4] rfl)
        · refine lv_iinc (v := nI (y + 1)) (lv' := [(4, .int (nI (y + 1))), (5, .int (nI k)), (0, .ref o0), (1, .long x), (3, .int (nI B))]) hx hb dX1_countLeaving_23 hl (k := 1) rfl (q_inc y) (by decide) rfl (fun ls hl => ?_)
          refine lv_iinc (v := nI (k + 1)) (lv' := [(5, .int (nI (k + 1))), (4, .int (nI (y + 1))), (0, .ref o0), (1, .long x), (3, .int (nI B))]) hx hb dX1_countLeaving_26 hl (k := 1) rfl (q_inc k) (by decide) rfl (fun ls hl => ?_)
          refine lv_goto (tgt := 6) hx hb dX1_countLeaving_29 (by decide) ?_
          exact ih6 (k + 1) (y + 1) (by omega) (show (y + 1) = q_cnt rows x (k + 1) from (by rw [e_y]; simp [q_cnt, z20])) (show (k + 1) ≤ B from (by omega)) _ _ h _ (lv_sub hl [0, 1, 2, 3, 4] rfl)
  exact loop6 (B - 0 + 1) 0 0 (Nat.lt_succ_self _) (show 0 = q_cnt rows x 0 from rfl) (show 0 ≤ B from (Nat.zero_le _)) _ _ h _ (lv_sub hl [0, 1, 2, 3, 4] rfl)
