/-! the reference: its leaves: laid by wip/whole/genm.py -/
set_option maxHeartbeats 4000000 in
set_option maxRecDepth 100000 in
theorem c_X6_thrown (l : Launch) (G : vq_G) (o0 mw mv mm mn mo mb mr mq mrk mqk md : Nat) (rf S B nn dr pk : Nat) (ps red : Int64) (rdn : Int32) (gen : Int64) (dm : Nat) (w : Nat → Nat) (vals : Nat → Int32) (msk : Nat → Int64) (nums : Nat → Int32) (po : Nat → Nat) (pb : Nat → Int32) (rows : Nat → Int64) (rv : Nat → Int32) (rwk : Nat → Int64) (rvk : Nat → Int32) (drw : Nat → Nat) : vq_i l yX6_thrown wsX6_thrown 0 0 G [.ref o0] [(o0, .inr (6, [.int (nI rf), .ref mw, .int (nI S), .int (nI B), .ref mv, .int (nI nn), .int (nI dr), .ref mm, .ref mn, .int (nI pk), .long ps, .ref mo, .ref mb, .ref mr, .ref mq, .ref mrk, .ref mqk, .long red, .int rdn, .long gen, .int (nI dm), .ref md])), (mw, .inl (G.2.1, 13, .inl (fun zz => nI ((q_w1 w) zz)))), (mv, .inl (G.2.1, 32, .inl vals)), (mm, .inl (G.2.2, 126, .inr (.inl msk))), (mn, .inl (G.2.1, 126, .inl nums)), (mo, .inl (G.2.1, 38, .inl (fun zz => nI (po zz)))), (mb, .inl (G.2.1, 38, .inl pb)), (mr, .inl (G.2.2, 38, .inr (.inl rows))), (mq, .inl (G.2.1, 38, .inl rv)), (mrk, .inl (G.2.2, 38, .inr (.inl rwk))), (mqk, .inl (G.2.1, 38, .inl rvk)), (md, .inl (G.2.1, 38, .inl (fun zz => nI (drw zz))))] (nI rf) [(o0, .inr (6, [.int (nI rf), .ref mw, .int (nI S), .int (nI B), .ref mv, .int (nI nn), .int (nI dr), .ref mm, .ref mn, .int (nI pk), .long ps, .ref mo, .ref mb, .ref mr, .ref mq, .ref mrk, .ref mqk, .long red, .int rdn, .long gen, .int (nI dm), .ref md])), (mw, .inl (G.2.1, 13, .inl (fun zz => nI ((q_w1 w) zz)))), (mv, .inl (G.2.1, 32, .inl vals)), (mm, .inl (G.2.2, 126, .inr (.inl msk))), (mn, .inl (G.2.1, 126, .inl nums)), (mo, .inl (G.2.1, 38, .inl (fun zz => nI (po zz)))), (mb, .inl (G.2.1, 38, .inl pb)), (mr, .inl (G.2.2, 38, .inr (.inl rows))), (mq, .inl (G.2.1, 38, .inl rv)), (mrk, .inl (G.2.2, 38, .inr (.inl rwk))), (mqk, .inl (G.2.1, 38, .inl rvk)), (md, .inl (G.2.1, 38, .inl (fun zz => nI (drw zz))))] := by
  refine vq_openi (cc := cX6_thrown) (maxL := 1) (ret := (some .int)) (Ts' := wsX6_thrown.tail) (by decide) rfl (Nat.le_of_ble_eq_true rfl) ?_
  intro p e s m args below meth c A ls C h hnm hl
  have hx := C.1.1
  have hb := C.1.2.1
  have hts := C.1.2.2.2.2
  have hl : lv_has ls 1 [(0, .ref o0)] := hl
  have f54 := C.1.2.2.2.2 (.fieldLink RX6 54 "FountainCodeModel" "refusal" "I") (by decide +kernel)
  have iX6 : ∀ w ∈ u_ws RX6 TX6 22, w ∈ wsX6_thrown := by decide +kernel
  refine lv_aload_n hx hb dX6_thrown_0 rfl (lv_at hl 0 rfl) ?_
  refine q_get (Cn := RX6) (T := TX6) (N := 22) (ci := 6) (v := .int (nI rf)) C h iX6 0 rfl rfl 0 (by decide) f54 rfl dX6_thrown_1 ?_
  exact q_reti C h rfl rfl rfl dX6_thrown_4

set_option maxHeartbeats 4000000 in
set_option maxRecDepth 100000 in
theorem c_X6_refused_0 (l : Launch) (G : vq_G) (o0 mw mv mm mn mo mb mr mq mrk mqk md : Nat) (rf S B nn dr pk : Nat) (ps red : Int64) (rdn : Int32) (gen : Int64) (dm : Nat) (w : Nat → Nat) (vals : Nat → Int32) (msk : Nat → Int64) (nums : Nat → Int32) (po : Nat → Nat) (pb : Nat → Int32) (rows : Nat → Int64) (rv : Nat → Int32) (rwk : Nat → Int64) (rvk : Nat → Int32) (drw : Nat → Nat) : vq_i l yX6_refused wsX6_refused 0 0 G [.ref o0, .int (nI 0)] [(o0, .inr (6, [.int (nI rf), .ref mw, .int (nI S), .int (nI B), .ref mv, .int (nI nn), .int (nI dr), .ref mm, .ref mn, .int (nI pk), .long ps, .ref mo, .ref mb, .ref mr, .ref mq, .ref mrk, .ref mqk, .long red, .int rdn, .long gen, .int (nI dm), .ref md])), (mw, .inl (G.2.1, 13, .inl (fun zz => nI ((q_w1 w) zz)))), (mv, .inl (G.2.1, 32, .inl vals)), (mm, .inl (G.2.2, 126, .inr (.inl msk))), (mn, .inl (G.2.1, 126, .inl nums)), (mo, .inl (G.2.1, 38, .inl (fun zz => nI (po zz)))), (mb, .inl (G.2.1, 38, .inl pb)), (mr, .inl (G.2.2, 38, .inr (.inl rows))), (mq, .inl (G.2.1, 38, .inl rv)), (mrk, .inl (G.2.2, 38, .inr (.inl rwk))), (mqk, .inl (G.2.1, 38, .inl rvk)), (md, .inl (G.2.1, 38, .inl (fun zz => nI (drw zz))))] (q_b false) [(o0, .inr (6, [.int (nI 0), .ref mw, .int (nI S), .int (nI B), .ref mv, .int (nI nn), .int (nI dr), .ref mm, .ref mn, .int (nI pk), .long ps, .ref mo, .ref mb, .ref mr, .ref mq, .ref mrk, .ref mqk, .long red, .int rdn, .long gen, .int (nI dm), .ref md])), (mw, .inl (G.2.1, 13, .inl (fun zz => nI ((q_w1 w) zz)))), (mv, .inl (G.2.1, 32, .inl vals)), (mm, .inl (G.2.2, 126, .inr (.inl msk))), (mn, .inl (G.2.1, 126, .inl nums)), (mo, .inl (G.2.1, 38, .inl (fun zz => nI (po zz)))), (mb, .inl (G.2.1, 38, .inl pb)), (mr, .inl (G.2.2, 38, .inr (.inl rows))), (mq, .inl (G.2.1, 38, .inl rv)), (mrk, .inl (G.2.2, 38, .inr (.inl rwk))), (mqk, .inl (G.2.1, 38, .inl rvk)), (md, .inl (G.2.1, 38, .inl (fun zz => nI (drw zz))))] := by
  refine vq_openi (cc := cX6_refused) (maxL := 2) (ret := (some .boolean)) (Ts' := wsX6_refused.tail) (by decide) rfl (Nat.le_of_ble_eq_true rfl) ?_
  intro p e s m args below meth c A ls C h hnm hl
  have hx := C.1.1
  have hb := C.1.2.1
  have hts := C.1.2.2.2.2
  have hl : lv_has ls 2 [(0, .ref o0), (1, .int (nI 0))] := hl
  have f54 := C.1.2.2.2.2 (.fieldLink RX6 54 "FountainCodeModel" "refusal" "I") (by decide +kernel)
  have iX6 : ∀ w ∈ u_ws RX6 TX6 22, w ∈ wsX6_refused := by decide +kernel
  refine lv_aload_n hx hb dX6_refused_0 rfl (lv_at hl 0 rfl) ?_
  refine lv_iload_n hx hb dX6_refused_1 rfl (lv_at hl 1 rfl) ?_
  refine q_put (Cn := RX6) (T := TX6) (N := 22) (ci := 6) (v := .int (nI 0)) (w' := [(o0, .inr (6, [.int (nI 0), .ref mw, .int (nI S), .int (nI B), .ref mv, .int (nI nn), .int (nI dr), .ref mm, .ref mn, .int (nI pk), .long ps, .ref mo, .ref mb, .ref mr, .ref mq, .ref mrk, .ref mqk, .long red, .int rdn, .long gen, .int (nI dm), .ref md])), (mw, .inl (G.2.1, 13, .inl (fun zz => nI ((q_w1 w) zz)))), (mv, .inl (G.2.1, 32, .inl vals)), (mm, .inl (G.2.2, 126, .inr (.inl msk))), (mn, .inl (G.2.1, 126, .inl nums)), (mo, .inl (G.2.1, 38, .inl (fun zz => nI (po zz)))), (mb, .inl (G.2.1, 38, .inl pb)), (mr, .inl (G.2.2, 38, .inr (.inl rows))), (mq, .inl (G.2.1, 38, .inl rv)), (mrk, .inl (G.2.2, 38, .inr (.inl rwk))), (mqk, .inl (G.2.1, 38, .inl rvk)), (md, .inl (G.2.1, 38, .inl (fun zz => nI (drw zz))))]) C h iX6 tyX6 tyX6_ok nmX6 0 rfl rfl 0 (by decide) f54 rfl rfl rfl (Nat.le_of_ble_eq_true rfl) dX6_refused_2 rfl (fun H locs h => ?_)
  refine lv_iload_n hx hb dX6_refused_5 rfl (lv_at hl 1 rfl) ?_
  refine q_if_eq (tgt := 13) hx hb (by decide) dX6_refused_6 (by decide) (fun z6 => ?_) (fun z6 => absurd z6 (by decide))
  refine lv_iconst (v := nI 0) hx hb dX6_refused_13 (by decide) ?_
  refine q_top (v' := .int (q_b false)) rfl ?_
  exact q_retz C h rfl rfl rfl dX6_refused_14

set_option maxHeartbeats 4000000 in
set_option maxRecDepth 100000 in
theorem c_X6_refused_1 (l : Launch) (G : vq_G) (o0 mw mv mm mn mo mb mr mq mrk mqk md : Nat) (rf S B nn dr pk : Nat) (ps red : Int64) (rdn : Int32) (gen : Int64) (dm : Nat) (w : Nat → Nat) (vals : Nat → Int32) (msk : Nat → Int64) (nums : Nat → Int32) (po : Nat → Nat) (pb : Nat → Int32) (rows : Nat → Int64) (rv : Nat → Int32) (rwk : Nat → Int64) (rvk : Nat → Int32) (drw : Nat → Nat) : vq_i l yX6_refused wsX6_refused 0 0 G [.ref o0, .int (nI 1)] [(o0, .inr (6, [.int (nI rf), .ref mw, .int (nI S), .int (nI B), .ref mv, .int (nI nn), .int (nI dr), .ref mm, .ref mn, .int (nI pk), .long ps, .ref mo, .ref mb, .ref mr, .ref mq, .ref mrk, .ref mqk, .long red, .int rdn, .long gen, .int (nI dm), .ref md])), (mw, .inl (G.2.1, 13, .inl (fun zz => nI ((q_w1 w) zz)))), (mv, .inl (G.2.1, 32, .inl vals)), (mm, .inl (G.2.2, 126, .inr (.inl msk))), (mn, .inl (G.2.1, 126, .inl nums)), (mo, .inl (G.2.1, 38, .inl (fun zz => nI (po zz)))), (mb, .inl (G.2.1, 38, .inl pb)), (mr, .inl (G.2.2, 38, .inr (.inl rows))), (mq, .inl (G.2.1, 38, .inl rv)), (mrk, .inl (G.2.2, 38, .inr (.inl rwk))), (mqk, .inl (G.2.1, 38, .inl rvk)), (md, .inl (G.2.1, 38, .inl (fun zz => nI (drw zz))))] (q_b true) [(o0, .inr (6, [.int (nI 1), .ref mw, .int (nI S), .int (nI B), .ref mv, .int (nI nn), .int (nI dr), .ref mm, .ref mn, .int (nI pk), .long ps, .ref mo, .ref mb, .ref mr, .ref mq, .ref mrk, .ref mqk, .long red, .int rdn, .long gen, .int (nI dm), .ref md])), (mw, .inl (G.2.1, 13, .inl (fun zz => nI ((q_w1 w) zz)))), (mv, .inl (G.2.1, 32, .inl vals)), (mm, .inl (G.2.2, 126, .inr (.inl msk))), (mn, .inl (G.2.1, 126, .inl nums)), (mo, .inl (G.2.1, 38, .inl (fun zz => nI (po zz)))), (mb, .inl (G.2.1, 38, .inl pb)), (mr, .inl (G.2.2, 38, .inr (.inl rows))), (mq, .inl (G.2.1, 38, .inl rv)), (mrk, .inl (G.2.2, 38, .inr (.inl rwk))), (mqk, .inl (G.2.1, 38, .inl rvk)), (md, .inl (G.2.1, 38, .inl (fun zz => nI (drw zz))))] := by
  refine vq_openi (cc := cX6_refused) (maxL := 2) (ret := (some .boolean)) (Ts' := wsX6_refused.tail) (by decide) rfl (Nat.le_of_ble_eq_true rfl) ?_
  intro p e s m args below meth c A ls C h hnm hl
  have hx := C.1.1
  have hb := C.1.2.1
  have hts := C.1.2.2.2.2
  have hl : lv_has ls 2 [(0, .ref o0), (1, .int (nI 1))] := hl
  have f54 := C.1.2.2.2.2 (.fieldLink RX6 54 "FountainCodeModel" "refusal" "I") (by decide +kernel)
  have iX6 : ∀ w ∈ u_ws RX6 TX6 22, w ∈ wsX6_refused := by decide +kernel
  refine lv_aload_n hx hb dX6_refused_0 rfl (lv_at hl 0 rfl) ?_
  refine lv_iload_n hx hb dX6_refused_1 rfl (lv_at hl 1 rfl) ?_
  refine q_put (Cn := RX6) (T := TX6) (N := 22) (ci := 6) (v := .int (nI 1)) (w' := [(o0, .inr (6, [.int (nI 1), .ref mw, .int (nI S), .int (nI B), .ref mv, .int (nI nn), .int (nI dr), .ref mm, .ref mn, .int (nI pk), .long ps, .ref mo, .ref mb, .ref mr, .ref mq, .ref mrk, .ref mqk, .long red, .int rdn, .long gen, .int (nI dm), .ref md])), (mw, .inl (G.2.1, 13, .inl (fun zz => nI ((q_w1 w) zz)))), (mv, .inl (G.2.1, 32, .inl vals)), (mm, .inl (G.2.2, 126, .inr (.inl msk))), (mn, .inl (G.2.1, 126, .inl nums)), (mo, .inl (G.2.1, 38, .inl (fun zz => nI (po zz)))), (mb, .inl (G.2.1, 38, .inl pb)), (mr, .inl (G.2.2, 38, .inr (.inl rows))), (mq, .inl (G.2.1, 38, .inl rv)), (mrk, .inl (G.2.2, 38, .inr (.inl rwk))), (mqk, .inl (G.2.1, 38, .inl rvk)), (md, .inl (G.2.1, 38, .inl (fun zz => nI (drw zz))))]) C h iX6 tyX6 tyX6_ok nmX6 0 rfl rfl 0 (by decide) f54 rfl rfl rfl (Nat.le_of_ble_eq_true rfl) dX6_refused_2 rfl (fun H locs h => ?_)
  refine lv_iload_n hx hb dX6_refused_5 rfl (lv_at hl 1 rfl) ?_
  refine q_if_eq (tgt := 13) hx hb (by decide) dX6_refused_6 (by decide) (fun z6 => absurd z6 (by decide)) (fun z6 => ?_)
  refine lv_iconst (v := nI 1) hx hb dX6_refused_9 (by decide) ?_
  refine lv_goto (tgt := 14) hx hb dX6_refused_10 (by decide) ?_
  refine q_top (v' := .int (q_b true)) rfl ?_
  exact q_retz C h rfl rfl rfl dX6_refused_14

set_option maxHeartbeats 4000000 in
set_option maxRecDepth 100000 in
theorem c_X6_refused_2 (l : Launch) (G : vq_G) (o0 mw mv mm mn mo mb mr mq mrk mqk md : Nat) (rf S B nn dr pk : Nat) (ps red : Int64) (rdn : Int32) (gen : Int64) (dm : Nat) (w : Nat → Nat) (vals : Nat → Int32) (msk : Nat → Int64) (nums : Nat → Int32) (po : Nat → Nat) (pb : Nat → Int32) (rows : Nat → Int64) (rv : Nat → Int32) (rwk : Nat → Int64) (rvk : Nat → Int32) (drw : Nat → Nat) : vq_i l yX6_refused wsX6_refused 0 0 G [.ref o0, .int (nI 2)] [(o0, .inr (6, [.int (nI rf), .ref mw, .int (nI S), .int (nI B), .ref mv, .int (nI nn), .int (nI dr), .ref mm, .ref mn, .int (nI pk), .long ps, .ref mo, .ref mb, .ref mr, .ref mq, .ref mrk, .ref mqk, .long red, .int rdn, .long gen, .int (nI dm), .ref md])), (mw, .inl (G.2.1, 13, .inl (fun zz => nI ((q_w1 w) zz)))), (mv, .inl (G.2.1, 32, .inl vals)), (mm, .inl (G.2.2, 126, .inr (.inl msk))), (mn, .inl (G.2.1, 126, .inl nums)), (mo, .inl (G.2.1, 38, .inl (fun zz => nI (po zz)))), (mb, .inl (G.2.1, 38, .inl pb)), (mr, .inl (G.2.2, 38, .inr (.inl rows))), (mq, .inl (G.2.1, 38, .inl rv)), (mrk, .inl (G.2.2, 38, .inr (.inl rwk))), (mqk, .inl (G.2.1, 38, .inl rvk)), (md, .inl (G.2.1, 38, .inl (fun zz => nI (drw zz))))] (q_b true) [(o0, .inr (6, [.int (nI 2), .ref mw, .int (nI S), .int (nI B), .ref mv, .int (nI nn), .int (nI dr), .ref mm, .ref mn, .int (nI pk), .long ps, .ref mo, .ref mb, .ref mr, .ref mq, .ref mrk, .ref mqk, .long red, .int rdn, .long gen, .int (nI dm), .ref md])), (mw, .inl (G.2.1, 13, .inl (fun zz => nI ((q_w1 w) zz)))), (mv, .inl (G.2.1, 32, .inl vals)), (mm, .inl (G.2.2, 126, .inr (.inl msk))), (mn, .inl (G.2.1, 126, .inl nums)), (mo, .inl (G.2.1, 38, .inl (fun zz => nI (po zz)))), (mb, .inl (G.2.1, 38, .inl pb)), (mr, .inl (G.2.2, 38, .inr (.inl rows))), (mq, .inl (G.2.1, 38, .inl rv)), (mrk, .inl (G.2.2, 38, .inr (.inl rwk))), (mqk, .inl (G.2.1, 38, .inl rvk)), (md, .inl (G.2.1, 38, .inl (fun zz => nI (drw zz))))] := by
  refine vq_openi (cc := cX6_refused) (maxL := 2) (ret := (some .boolean)) (Ts' := wsX6_refused.tail) (by decide) rfl (Nat.le_of_ble_eq_true rfl) ?_
  intro p e s m args below meth c A ls C h hnm hl
  have hx := C.1.1
  have hb := C.1.2.1
  have hts := C.1.2.2.2.2
  have hl : lv_has ls 2 [(0, .ref o0), (1, .int (nI 2))] := hl
  have f54 := C.1.2.2.2.2 (.fieldLink RX6 54 "FountainCodeModel" "refusal" "I") (by decide +kernel)
  have iX6 : ∀ w ∈ u_ws RX6 TX6 22, w ∈ wsX6_refused := by decide +kernel
  refine lv_aload_n hx hb dX6_refused_0 rfl (lv_at hl 0 rfl) ?_
  refine lv_iload_n hx hb dX6_refused_1 rfl (lv_at hl 1 rfl) ?_
  refine q_put (Cn := RX6) (T := TX6) (N := 22) (ci := 6) (v := .int (nI 2)) (w' := [(o0, .inr (6, [.int (nI 2), .ref mw, .int (nI S), .int (nI B), .ref mv, .int (nI nn), .int (nI dr), .ref mm, .ref mn, .int (nI pk), .long ps, .ref mo, .ref mb, .ref mr, .ref mq, .ref mrk, .ref mqk, .long red, .int rdn, .long gen, .int (nI dm), .ref md])), (mw, .inl (G.2.1, 13, .inl (fun zz => nI ((q_w1 w) zz)))), (mv, .inl (G.2.1, 32, .inl vals)), (mm, .inl (G.2.2, 126, .inr (.inl msk))), (mn, .inl (G.2.1, 126, .inl nums)), (mo, .inl (G.2.1, 38, .inl (fun zz => nI (po zz)))), (mb, .inl (G.2.1, 38, .inl pb)), (mr, .inl (G.2.2, 38, .inr (.inl rows))), (mq, .inl (G.2.1, 38, .inl rv)), (mrk, .inl (G.2.2, 38, .inr (.inl rwk))), (mqk, .inl (G.2.1, 38, .inl rvk)), (md, .inl (G.2.1, 38, .inl (fun zz => nI (drw zz))))]) C h iX6 tyX6 tyX6_ok nmX6 0 rfl rfl 0 (by decide) f54 rfl rfl rfl (Nat.le_of_ble_eq_true rfl) dX6_refused_2 rfl (fun H locs h => ?_)
  refine lv_iload_n hx hb dX6_refused_5 rfl (lv_at hl 1 rfl) ?_
  refine q_if_eq (tgt := 13) hx hb (by decide) dX6_refused_6 (by decide) (fun z6 => absurd z6 (by decide)) (fun z6 => ?_)
  refine lv_iconst (v := nI 1) hx hb dX6_refused_9 (by decide) ?_
  refine lv_goto (tgt := 14) hx hb dX6_refused_10 (by decide) ?_
  refine q_top (v' := .int (q_b true)) rfl ?_
  exact q_retz C h rfl rfl rfl dX6_refused_14

set_option maxHeartbeats 4000000 in
set_option maxRecDepth 100000 in
theorem c_X6_told (l : Launch) (G : vq_G) (o0 mw mv mm mn mo mb mr mq mrk mqk md : Nat) (rf S B nn dr pk : Nat) (ps red : Int64) (rdn : Int32) (gen : Int64) (dm : Nat) (w : Nat → Nat) (vals : Nat → Int32) (msk : Nat → Int64) (nums : Nat → Int32) (po : Nat → Nat) (pb : Nat → Int32) (rows : Nat → Int64) (rv : Nat → Int32) (rwk : Nat → Int64) (rvk : Nat → Int32) (drw : Nat → Nat) (v : Int32) : vq_i l yX6_told wsX6_told 0 0 G [.ref o0, .int v] [(o0, .inr (6, [.int (nI rf), .ref mw, .int (nI S), .int (nI B), .ref mv, .int (nI nn), .int (nI dr), .ref mm, .ref mn, .int (nI pk), .long ps, .ref mo, .ref mb, .ref mr, .ref mq, .ref mrk, .ref mqk, .long red, .int rdn, .long gen, .int (nI dm), .ref md])), (mw, .inl (G.2.1, 13, .inl (fun zz => nI ((q_w1 w) zz)))), (mv, .inl (G.2.1, 32, .inl vals)), (mm, .inl (G.2.2, 126, .inr (.inl msk))), (mn, .inl (G.2.1, 126, .inl nums)), (mo, .inl (G.2.1, 38, .inl (fun zz => nI (po zz)))), (mb, .inl (G.2.1, 38, .inl pb)), (mr, .inl (G.2.2, 38, .inr (.inl rows))), (mq, .inl (G.2.1, 38, .inl rv)), (mrk, .inl (G.2.2, 38, .inr (.inl rwk))), (mqk, .inl (G.2.1, 38, .inl rvk)), (md, .inl (G.2.1, 38, .inl (fun zz => nI (drw zz))))] v [(o0, .inr (6, [.int (nI 0), .ref mw, .int (nI S), .int (nI B), .ref mv, .int (nI nn), .int (nI dr), .ref mm, .ref mn, .int (nI pk), .long ps, .ref mo, .ref mb, .ref mr, .ref mq, .ref mrk, .ref mqk, .long red, .int rdn, .long gen, .int (nI dm), .ref md])), (mw, .inl (G.2.1, 13, .inl (fun zz => nI ((q_w1 w) zz)))), (mv, .inl (G.2.1, 32, .inl vals)), (mm, .inl (G.2.2, 126, .inr (.inl msk))), (mn, .inl (G.2.1, 126, .inl nums)), (mo, .inl (G.2.1, 38, .inl (fun zz => nI (po zz)))), (mb, .inl (G.2.1, 38, .inl pb)), (mr, .inl (G.2.2, 38, .inr (.inl rows))), (mq, .inl (G.2.1, 38, .inl rv)), (mrk, .inl (G.2.2, 38, .inr (.inl rwk))), (mqk, .inl (G.2.1, 38, .inl rvk)), (md, .inl (G.2.1, 38, .inl (fun zz => nI (drw zz))))] := by
  refine vq_openi (cc := cX6_told) (maxL := 2) (ret := (some .int)) (Ts' := wsX6_told.tail) (by decide) rfl (Nat.le_of_ble_eq_true rfl) ?_
  intro p e s m args below meth c A ls C h hnm hl
  have hx := C.1.1
  have hb := C.1.2.1
  have hts := C.1.2.2.2.2
  have hl : lv_has ls 2 [(0, .ref o0), (1, .int v)] := hl
  have f54 := C.1.2.2.2.2 (.fieldLink RX6 54 "FountainCodeModel" "refusal" "I") (by decide +kernel)
  have iX6 : ∀ w ∈ u_ws RX6 TX6 22, w ∈ wsX6_told := by decide +kernel
  refine lv_aload_n hx hb dX6_told_0 rfl (lv_at hl 0 rfl) ?_
  refine lv_iconst (v := nI 0) hx hb dX6_told_1 (by decide) ?_
  refine q_put (Cn := RX6) (T := TX6) (N := 22) (ci := 6) (v := .int (nI 0)) (w' := [(o0, .inr (6, [.int (nI 0), .ref mw, .int (nI S), .int (nI B), .ref mv, .int (nI nn), .int (nI dr), .ref mm, .ref mn, .int (nI pk), .long ps, .ref mo, .ref mb, .ref mr, .ref mq, .ref mrk, .ref mqk, .long red, .int rdn, .long gen, .int (nI dm), .ref md])), (mw, .inl (G.2.1, 13, .inl (fun zz => nI ((q_w1 w) zz)))), (mv, .inl (G.2.1, 32, .inl vals)), (mm, .inl (G.2.2, 126, .inr (.inl msk))), (mn, .inl (G.2.1, 126, .inl nums)), (mo, .inl (G.2.1, 38, .inl (fun zz => nI (po zz)))), (mb, .inl (G.2.1, 38, .inl pb)), (mr, .inl (G.2.2, 38, .inr (.inl rows))), (mq, .inl (G.2.1, 38, .inl rv)), (mrk, .inl (G.2.2, 38, .inr (.inl rwk))), (mqk, .inl (G.2.1, 38, .inl rvk)), (md, .inl (G.2.1, 38, .inl (fun zz => nI (drw zz))))]) C h iX6 tyX6 tyX6_ok nmX6 0 rfl rfl 0 (by decide) f54 rfl rfl rfl (Nat.le_of_ble_eq_true rfl) dX6_told_2 rfl (fun H locs h => ?_)
  refine lv_iload_n hx hb dX6_told_5 rfl (lv_at hl 1 rfl) ?_
  exact q_reti C h rfl rfl rfl dX6_told_6

set_option maxHeartbeats 4000000 in
set_option maxRecDepth 100000 in
theorem c_X6_within (l : Launch) (G : vq_G) (x y z : Int32) : vq_i l yX6_within wsX6_within 0 0 G [.int x, .int y, .int z] [] (q_b (q_wi x y z)) [] := by
  refine vq_openi (cc := cX6_within) (maxL := 3) (ret := (some .boolean)) (Ts' := wsX6_within.tail) (by decide) rfl (Nat.le_of_ble_eq_true rfl) ?_
  intro p e s m args below meth c A ls C h hnm hl
  have hx := C.1.1
  have hb := C.1.2.1
  have hts := C.1.2.2.2.2
  have hl : lv_has ls 3 [(0, .int x), (1, .int y), (2, .int z)] := hl
  refine lv_iload_n hx hb dX6_within_0 rfl (lv_at hl 0 rfl) ?_
  refine lv_iload_n hx hb dX6_within_1 rfl (lv_at hl 1 rfl) ?_
  refine lv_icmp_lt (tgt := 14) hx hb dX6_within_2 (by decide) (fun z2 => ?_) (fun z2 => ?_)
  · refine lv_iconst (v := nI 0) hx hb dX6_within_14 (by decide) ?_
    refine q_top (v' := .int (q_b false)) rfl ?_
    exact q_retz C h rfl (by first | simp [q_wi, z2, z7] | simp [q_wi, z2]) rfl dX6_within_15
  · refine lv_iload_n hx hb dX6_within_5 rfl (lv_at hl 0 rfl) ?_
    refine lv_iload_n hx hb dX6_within_6 rfl (lv_at hl 2 rfl) ?_
    refine lv_icmp_gt (tgt := 14) hx hb dX6_within_7 (by decide) (fun z7 => ?_) (fun z7 => ?_)
    · refine lv_iconst (v := nI 0) hx hb dX6_within_14 (by decide) ?_
      refine q_top (v' := .int (q_b false)) rfl ?_
      exact q_retz C h rfl (by first | simp [q_wi, z2, z7] | simp [q_wi, z2]) rfl dX6_within_15
    · refine lv_iconst (v := nI 1) hx hb dX6_within_10 (by decide) ?_
      refine lv_goto (tgt := 15) hx hb dX6_within_11 (by decide) ?_
      refine q_top (v' := .int (q_b true)) rfl ?_
      exact q_retz C h rfl (by first | simp [q_wi, z2, z7] | simp [q_wi, z2]) rfl dX6_within_15

set_option maxHeartbeats 4000000 in
set_option maxRecDepth 100000 in
theorem c_X6_isBlock (l : Launch) (G : vq_G) (o0 mw mv mm mn mo mb mr mq mrk mqk md : Nat) (rf S B nn dr pk : Nat) (ps red : Int64) (rdn : Int32) (gen : Int64) (dm : Nat) (w : Nat → Nat) (vals : Nat → Int32) (msk : Nat → Int64) (nums : Nat → Int32) (po : Nat → Nat) (pb : Nat → Int32) (rows : Nat → Int64) (rv : Nat → Int32) (rwk : Nat → Int64) (rvk : Nat → Int32) (drw : Nat → Nat) (x : Int32) (hS1 : 1 ≤ S) (hS : S ≤ 32) (hSB : S ≤ B) (hB : B ≤ S + 6) : vq_i l yX6_isBlock wsX6_isBlock 1 22 G [.ref o0, .int x] [(o0, .inr (6, [.int (nI rf), .ref mw, .int (nI S), .int (nI B), .ref mv, .int (nI nn), .int (nI dr), .ref mm, .ref mn, .int (nI pk), .long ps, .ref mo, .ref mb, .ref mr, .ref mq, .ref mrk, .ref mqk, .long red, .int rdn, .long gen, .int (nI dm), .ref md])), (mw, .inl (G.2.1, 13, .inl (fun zz => nI ((q_w1 w) zz)))), (mv, .inl (G.2.1, 32, .inl vals)), (mm, .inl (G.2.2, 126, .inr (.inl msk))), (mn, .inl (G.2.1, 126, .inl nums)), (mo, .inl (G.2.1, 38, .inl (fun zz => nI (po zz)))), (mb, .inl (G.2.1, 38, .inl pb)), (mr, .inl (G.2.2, 38, .inr (.inl rows))), (mq, .inl (G.2.1, 38, .inl rv)), (mrk, .inl (G.2.2, 38, .inr (.inl rwk))), (mqk, .inl (G.2.1, 38, .inl rvk)), (md, .inl (G.2.1, 38, .inl (fun zz => nI (drw zz))))] (q_b (q_isb x B)) [(o0, .inr (6, [.int (nI rf), .ref mw, .int (nI S), .int (nI B), .ref mv, .int (nI nn), .int (nI dr), .ref mm, .ref mn, .int (nI pk), .long ps, .ref mo, .ref mb, .ref mr, .ref mq, .ref mrk, .ref mqk, .long red, .int rdn, .long gen, .int (nI dm), .ref md])), (mw, .inl (G.2.1, 13, .inl (fun zz => nI ((q_w1 w) zz)))), (mv, .inl (G.2.1, 32, .inl vals)), (mm, .inl (G.2.2, 126, .inr (.inl msk))), (mn, .inl (G.2.1, 126, .inl nums)), (mo, .inl (G.2.1, 38, .inl (fun zz => nI (po zz)))), (mb, .inl (G.2.1, 38, .inl pb)), (mr, .inl (G.2.2, 38, .inr (.inl rows))), (mq, .inl (G.2.1, 38, .inl rv)), (mrk, .inl (G.2.2, 38, .inr (.inl rwk))), (mqk, .inl (G.2.1, 38, .inl rvk)), (md, .inl (G.2.1, 38, .inl (fun zz => nI (drw zz))))] := by
  refine vq_openi (cc := cX6_isBlock) (maxL := 2) (ret := (some .boolean)) (Ts' := wsX6_isBlock.tail) (by decide) rfl (Nat.le_of_ble_eq_true rfl) ?_
  intro p e s m args below meth c A ls C h hnm hl
  have hx := C.1.1
  have hb := C.1.2.1
  have hts := C.1.2.2.2.2
  have hl : lv_has ls 2 [(0, .ref o0), (1, .int x)] := hl
  have f17 := C.1.2.2.2.2 (.fieldLink RX6 17 "FountainCodeModel" "blocks" "I") (by decide +kernel)
  have iX6 : ∀ w ∈ u_ws RX6 TX6 22, w ∈ wsX6_isBlock := by decide +kernel
  refine lv_iload_n hx hb dX6_isBlock_0 rfl (lv_at hl 1 rfl) ?_
  refine lv_iconst (v := nI 0) hx hb dX6_isBlock_1 (by decide) ?_
  refine lv_aload_n hx hb dX6_isBlock_2 rfl (lv_at hl 0 rfl) ?_
  refine q_get (Cn := RX6) (T := TX6) (N := 22) (ci := 6) (v := .int (nI B)) C h iX6 0 rfl rfl 3 (by decide) f17 rfl dX6_isBlock_3 ?_
  refine lv_iconst (v := nI 1) hx hb dX6_isBlock_6 (by decide) ?_
  refine q_isub hx hb (by omega) dX6_isBlock_7 ?_
  refine q_callSi C h (c_X6_within l G x (nI 0) (nI (B - 1))) (va_cwS 3 hts gX6_isBlock_X6_within rfl rfl rfl (by decide +kernel) ⟨Nat.le_of_ble_eq_true rfl, Nat.le_of_ble_eq_true rfl⟩) [] rfl rfl [0, 1, 2, 3, 4, 5, 6, 7, 8, 9, 10, 11] (wr := [(o0, .inr (6, [.int (nI rf), .ref mw, .int (nI S), .int (nI B), .ref mv, .int (nI nn), .int (nI dr), .ref mm, .ref mn, .int (nI pk), .long ps, .ref mo, .ref mb, .ref mr, .ref mq, .ref mrk, .ref mqk, .long red, .int rdn, .long gen, .int (nI dm), .ref md])), (mw, .inl (G.2.1, 13, .inl (fun zz => nI ((q_w1 w) zz)))), (mv, .inl (G.2.1, 32, .inl vals)), (mm, .inl (G.2.2, 126, .inr (.inl msk))), (mn, .inl (G.2.1, 126, .inl nums)), (mo, .inl (G.2.1, 38, .inl (fun zz => nI (po zz)))), (mb, .inl (G.2.1, 38, .inl pb)), (mr, .inl (G.2.2, 38, .inr (.inl rows))), (mq, .inl (G.2.1, 38, .inl rv)), (mrk, .inl (G.2.2, 38, .inr (.inl rwk))), (mqk, .inl (G.2.1, 38, .inl rvk)), (md, .inl (G.2.1, 38, .inl (fun zz => nI (drw zz))))]) rfl rfl (by decide) rfl hl.1 rfl (Nat.le_of_ble_eq_true rfl) dX6_isBlock_8 ⟨Nat.zero_le _, Nat.zero_le _⟩ [0, 1, 2, 3, 4, 5, 6, 7, 8, 9, 10, 11] (w' := [(o0, .inr (6, [.int (nI rf), .ref mw, .int (nI S), .int (nI B), .ref mv, .int (nI nn), .int (nI dr), .ref mm, .ref mn, .int (nI pk), .long ps, .ref mo, .ref mb, .ref mr, .ref mq, .ref mrk, .ref mqk, .long red, .int rdn, .long gen, .int (nI dm), .ref md])), (mw, .inl (G.2.1, 13, .inl (fun zz => nI ((q_w1 w) zz)))), (mv, .inl (G.2.1, 32, .inl vals)), (mm, .inl (G.2.2, 126, .inr (.inl msk))), (mn, .inl (G.2.1, 126, .inl nums)), (mo, .inl (G.2.1, 38, .inl (fun zz => nI (po zz)))), (mb, .inl (G.2.1, 38, .inl pb)), (mr, .inl (G.2.2, 38, .inr (.inl rows))), (mq, .inl (G.2.1, 38, .inl rv)), (mrk, .inl (G.2.2, 38, .inr (.inl rwk))), (mqk, .inl (G.2.1, 38, .inl rvk)), (md, .inl (G.2.1, 38, .inl (fun zz => nI (drw zz))))]) rfl rfl (fun H locs h => ?_)
  exact q_retz C h rfl (q_wi_isb x (by omega) (by omega)) rfl dX6_isBlock_11

set_option maxHeartbeats 4000000 in
set_option maxRecDepth 100000 in
theorem c_X6_noBlock_f (l : Launch) (G : vq_G) (o0 mw mv mm mn mo mb mr mq mrk mqk md : Nat) (rf S B nn dr pk : Nat) (ps red : Int64) (rdn : Int32) (gen : Int64) (dm : Nat) (w : Nat → Nat) (vals : Nat → Int32) (msk : Nat → Int64) (nums : Nat → Int32) (po : Nat → Nat) (pb : Nat → Int32) (rows : Nat → Int64) (rv : Nat → Int32) (rwk : Nat → Int64) (rvk : Nat → Int32) (drw : Nat → Nat) (x : Int32) (hS1 : 1 ≤ S) (hS : S ≤ 32) (hSB : S ≤ B) (hB : B ≤ S + 6) (hx0 : q_isb x B = false) : vq_i l yX6_noBlock wsX6_noBlock 2 43 G [.ref o0, .int x] [(o0, .inr (6, [.int (nI rf), .ref mw, .int (nI S), .int (nI B), .ref mv, .int (nI nn), .int (nI dr), .ref mm, .ref mn, .int (nI pk), .long ps, .ref mo, .ref mb, .ref mr, .ref mq, .ref mrk, .ref mqk, .long red, .int rdn, .long gen, .int (nI dm), .ref md])), (mw, .inl (G.2.1, 13, .inl (fun zz => nI ((q_w1 w) zz)))), (mv, .inl (G.2.1, 32, .inl vals)), (mm, .inl (G.2.2, 126, .inr (.inl msk))), (mn, .inl (G.2.1, 126, .inl nums)), (mo, .inl (G.2.1, 38, .inl (fun zz => nI (po zz)))), (mb, .inl (G.2.1, 38, .inl pb)), (mr, .inl (G.2.2, 38, .inr (.inl rows))), (mq, .inl (G.2.1, 38, .inl rv)), (mrk, .inl (G.2.2, 38, .inr (.inl rwk))), (mqk, .inl (G.2.1, 38, .inl rvk)), (md, .inl (G.2.1, 38, .inl (fun zz => nI (drw zz))))] (q_b true) [(o0, .inr (6, [.int (nI 1), .ref mw, .int (nI S), .int (nI B), .ref mv, .int (nI nn), .int (nI dr), .ref mm, .ref mn, .int (nI pk), .long ps, .ref mo, .ref mb, .ref mr, .ref mq, .ref mrk, .ref mqk, .long red, .int rdn, .long gen, .int (nI dm), .ref md])), (mw, .inl (G.2.1, 13, .inl (fun zz => nI ((q_w1 w) zz)))), (mv, .inl (G.2.1, 32, .inl vals)), (mm, .inl (G.2.2, 126, .inr (.inl msk))), (mn, .inl (G.2.1, 126, .inl nums)), (mo, .inl (G.2.1, 38, .inl (fun zz => nI (po zz)))), (mb, .inl (G.2.1, 38, .inl pb)), (mr, .inl (G.2.2, 38, .inr (.inl rows))), (mq, .inl (G.2.1, 38, .inl rv)), (mrk, .inl (G.2.2, 38, .inr (.inl rwk))), (mqk, .inl (G.2.1, 38, .inl rvk)), (md, .inl (G.2.1, 38, .inl (fun zz => nI (drw zz))))] := by
  refine vq_openi (cc := cX6_noBlock) (maxL := 2) (ret := (some .boolean)) (Ts' := wsX6_noBlock.tail) (by decide) rfl (Nat.le_of_ble_eq_true rfl) ?_
  intro p e s m args below meth c A ls C h hnm hl
  have hx := C.1.1
  have hb := C.1.2.1
  have hts := C.1.2.2.2.2
  have hl : lv_has ls 2 [(0, .ref o0), (1, .int x)] := hl
  refine lv_aload_n hx hb dX6_noBlock_0 rfl (lv_at hl 0 rfl) ?_
  refine lv_aload_n hx hb dX6_noBlock_1 rfl (lv_at hl 0 rfl) ?_
  refine lv_iload_n hx hb dX6_noBlock_2 rfl (lv_at hl 1 rfl) ?_
  refine q_callVi C h (c_X6_isBlock l G o0 mw mv mm mn mo mb mr mq mrk mqk md rf S B nn dr pk ps red rdn gen dm w vals msk nums po pb rows rv rwk rvk drw x (by omega) (by omega) (by omega) (by omega)) (cwV 1 hts gX6_noBlock_X6_isBlock rfl rfl rfl (by decide +kernel) ⟨Nat.le_of_ble_eq_true rfl, Nat.le_of_ble_eq_true rfl⟩) [0, 1, 2, 3, 4, 5, 6, 7, 8, 9, 10, 11] rfl rfl [] (wr := []) rfl rfl (by decide) 0 rfl rfl rfl hl.1 rfl (Nat.le_of_ble_eq_true rfl) dX6_noBlock_3 ⟨Nat.zero_le _, Nat.zero_le _⟩ [0, 1, 2, 3, 4, 5, 6, 7, 8, 9, 10, 11] (w' := [(o0, .inr (6, [.int (nI rf), .ref mw, .int (nI S), .int (nI B), .ref mv, .int (nI nn), .int (nI dr), .ref mm, .ref mn, .int (nI pk), .long ps, .ref mo, .ref mb, .ref mr, .ref mq, .ref mrk, .ref mqk, .long red, .int rdn, .long gen, .int (nI dm), .ref md])), (mw, .inl (G.2.1, 13, .inl (fun zz => nI ((q_w1 w) zz)))), (mv, .inl (G.2.1, 32, .inl vals)), (mm, .inl (G.2.2, 126, .inr (.inl msk))), (mn, .inl (G.2.1, 126, .inl nums)), (mo, .inl (G.2.1, 38, .inl (fun zz => nI (po zz)))), (mb, .inl (G.2.1, 38, .inl pb)), (mr, .inl (G.2.2, 38, .inr (.inl rows))), (mq, .inl (G.2.1, 38, .inl rv)), (mrk, .inl (G.2.2, 38, .inr (.inl rwk))), (mqk, .inl (G.2.1, 38, .inl rvk)), (md, .inl (G.2.1, 38, .inl (fun zz => nI (drw zz))))]) rfl rfl (fun H locs h => ?_)
  refine q_ifb_eq (tgt := 13) hx hb dX6_noBlock_6 (by decide) (fun z6 => ?_) (fun z6 => absurd z6 (by rw [hx0]; decide))
  refine lv_iconst (v := nI 1) hx hb dX6_noBlock_13 (by decide) ?_
  refine q_callVi C h (c_X6_refused_1 l G o0 mw mv mm mn mo mb mr mq mrk mqk md rf S B nn dr pk ps red rdn gen dm w vals msk nums po pb rows rv rwk rvk drw) (cwV 1 hts gX6_noBlock_X6_refused rfl rfl rfl (by decide +kernel) ⟨Nat.le_of_ble_eq_true rfl, Nat.le_of_ble_eq_true rfl⟩) [0, 1, 2, 3, 4, 5, 6, 7, 8, 9, 10, 11] rfl rfl [] (wr := []) rfl rfl (by decide) 0 rfl rfl rfl hl.1 rfl (Nat.le_of_ble_eq_true rfl) dX6_noBlock_14 ⟨Nat.zero_le _, Nat.zero_le _⟩ [0, 1, 2, 3, 4, 5, 6, 7, 8, 9, 10, 11] (w' := [(o0, .inr (6, [.int (nI 1), .ref mw, .int (nI S), .int (nI B), .ref mv, .int (nI nn), .int (nI dr), .ref mm, .ref mn, .int (nI pk), .long ps, .ref mo, .ref mb, .ref mr, .ref mq, .ref mrk, .ref mqk, .long red, .int rdn, .long gen, .int (nI dm), .ref md])), (mw, .inl (G.2.1, 13, .inl (fun zz => nI ((q_w1 w) zz)))), (mv, .inl (G.2.1, 32, .inl vals)), (mm, .inl (G.2.2, 126, .inr (.inl msk))), (mn, .inl (G.2.1, 126, .inl nums)), (mo, .inl (G.2.1, 38, .inl (fun zz => nI (po zz)))), (mb, .inl (G.2.1, 38, .inl pb)), (mr, .inl (G.2.2, 38, .inr (.inl rows))), (mq, .inl (G.2.1, 38, .inl rv)), (mrk, .inl (G.2.2, 38, .inr (.inl rwk))), (mqk, .inl (G.2.1, 38, .inl rvk)), (md, .inl (G.2.1, 38, .inl (fun zz => nI (drw zz))))]) rfl rfl (fun H locs h => ?_)
  exact q_retz C h rfl rfl rfl dX6_noBlock_17

set_option maxHeartbeats 4000000 in
set_option maxRecDepth 100000 in
theorem c_X6_noBlock_t (l : Launch) (G : vq_G) (o0 mw mv mm mn mo mb mr mq mrk mqk md : Nat) (rf S B nn dr pk : Nat) (ps red : Int64) (rdn : Int32) (gen : Int64) (dm : Nat) (w : Nat → Nat) (vals : Nat → Int32) (msk : Nat → Int64) (nums : Nat → Int32) (po : Nat → Nat) (pb : Nat → Int32) (rows : Nat → Int64) (rv : Nat → Int32) (rwk : Nat → Int64) (rvk : Nat → Int32) (drw : Nat → Nat) (x : Int32) (hS1 : 1 ≤ S) (hS : S ≤ 32) (hSB : S ≤ B) (hB : B ≤ S + 6) (hx0 : q_isb x B = true) : vq_i l yX6_noBlock wsX6_noBlock 2 43 G [.ref o0, .int x] [(o0, .inr (6, [.int (nI rf), .ref mw, .int (nI S), .int (nI B), .ref mv, .int (nI nn), .int (nI dr), .ref mm, .ref mn, .int (nI pk), .long ps, .ref mo, .ref mb, .ref mr, .ref mq, .ref mrk, .ref mqk, .long red, .int rdn, .long gen, .int (nI dm), .ref md])), (mw, .inl (G.2.1, 13, .inl (fun zz => nI ((q_w1 w) zz)))), (mv, .inl (G.2.1, 32, .inl vals)), (mm, .inl (G.2.2, 126, .inr (.inl msk))), (mn, .inl (G.2.1, 126, .inl nums)), (mo, .inl (G.2.1, 38, .inl (fun zz => nI (po zz)))), (mb, .inl (G.2.1, 38, .inl pb)), (mr, .inl (G.2.2, 38, .inr (.inl rows))), (mq, .inl (G.2.1, 38, .inl rv)), (mrk, .inl (G.2.2, 38, .inr (.inl rwk))), (mqk, .inl (G.2.1, 38, .inl rvk)), (md, .inl (G.2.1, 38, .inl (fun zz => nI (drw zz))))] (q_b false) [(o0, .inr (6, [.int (nI 0), .ref mw, .int (nI S), .int (nI B), .ref mv, .int (nI nn), .int (nI dr), .ref mm, .ref mn, .int (nI pk), .long ps, .ref mo, .ref mb, .ref mr, .ref mq, .ref mrk, .ref mqk, .long red, .int rdn, .long gen, .int (nI dm), .ref md])), (mw, .inl (G.2.1, 13, .inl (fun zz => nI ((q_w1 w) zz)))), (mv, .inl (G.2.1, 32, .inl vals)), (mm, .inl (G.2.2, 126, .inr (.inl msk))), (mn, .inl (G.2.1, 126, .inl nums)), (mo, .inl (G.2.1, 38, .inl (fun zz => nI (po zz)))), (mb, .inl (G.2.1, 38, .inl pb)), (mr, .inl (G.2.2, 38, .inr (.inl rows))), (mq, .inl (G.2.1, 38, .inl rv)), (mrk, .inl (G.2.2, 38, .inr (.inl rwk))), (mqk, .inl (G.2.1, 38, .inl rvk)), (md, .inl (G.2.1, 38, .inl (fun zz => nI (drw zz))))] := by
  refine vq_openi (cc := cX6_noBlock) (maxL := 2) (ret := (some .boolean)) (Ts' := wsX6_noBlock.tail) (by decide) rfl (Nat.le_of_ble_eq_true rfl) ?_
  intro p e s m args below meth c A ls C h hnm hl
  have hx := C.1.1
  have hb := C.1.2.1
  have hts := C.1.2.2.2.2
  have hl : lv_has ls 2 [(0, .ref o0), (1, .int x)] := hl
  refine lv_aload_n hx hb dX6_noBlock_0 rfl (lv_at hl 0 rfl) ?_
  refine lv_aload_n hx hb dX6_noBlock_1 rfl (lv_at hl 0 rfl) ?_
  refine lv_iload_n hx hb dX6_noBlock_2 rfl (lv_at hl 1 rfl) ?_
  refine q_callVi C h (c_X6_isBlock l G o0 mw mv mm mn mo mb mr mq mrk mqk md rf S B nn dr pk ps red rdn gen dm w vals msk nums po pb rows rv rwk rvk drw x (by omega) (by omega) (by omega) (by omega)) (cwV 1 hts gX6_noBlock_X6_isBlock rfl rfl rfl (by decide +kernel) ⟨Nat.le_of_ble_eq_true rfl, Nat.le_of_ble_eq_true rfl⟩) [0, 1, 2, 3, 4, 5, 6, 7, 8, 9, 10, 11] rfl rfl [] (wr := []) rfl rfl (by decide) 0 rfl rfl rfl hl.1 rfl (Nat.le_of_ble_eq_true rfl) dX6_noBlock_3 ⟨Nat.zero_le _, Nat.zero_le _⟩ [0, 1, 2, 3, 4, 5, 6, 7, 8, 9, 10, 11] (w' := [(o0, .inr (6, [.int (nI rf), .ref mw, .int (nI S), .int (nI B), .ref mv, .int (nI nn), .int (nI dr), .ref mm, .ref mn, .int (nI pk), .long ps, .ref mo, .ref mb, .ref mr, .ref mq, .ref mrk, .ref mqk, .long red, .int rdn, .long gen, .int (nI dm), .ref md])), (mw, .inl (G.2.1, 13, .inl (fun zz => nI ((q_w1 w) zz)))), (mv, .inl (G.2.1, 32, .inl vals)), (mm, .inl (G.2.2, 126, .inr (.inl msk))), (mn, .inl (G.2.1, 126, .inl nums)), (mo, .inl (G.2.1, 38, .inl (fun zz => nI (po zz)))), (mb, .inl (G.2.1, 38, .inl pb)), (mr, .inl (G.2.2, 38, .inr (.inl rows))), (mq, .inl (G.2.1, 38, .inl rv)), (mrk, .inl (G.2.2, 38, .inr (.inl rwk))), (mqk, .inl (G.2.1, 38, .inl rvk)), (md, .inl (G.2.1, 38, .inl (fun zz => nI (drw zz))))]) rfl rfl (fun H locs h => ?_)
  refine q_ifb_eq (tgt := 13) hx hb dX6_noBlock_6 (by decide) (fun z6 => absurd z6 (by rw [hx0]; decide)) (fun z6 => ?_)
  refine lv_iconst (v := nI 0) hx hb dX6_noBlock_9 (by decide) ?_
  refine lv_goto (tgt := 14) hx hb dX6_noBlock_10 (by decide) ?_
  refine q_callVi C h (c_X6_refused_0 l G o0 mw mv mm mn mo mb mr mq mrk mqk md rf S B nn dr pk ps red rdn gen dm w vals msk nums po pb rows rv rwk rvk drw) (cwV 1 hts gX6_noBlock_X6_refused rfl rfl rfl (by decide +kernel) ⟨Nat.le_of_ble_eq_true rfl, Nat.le_of_ble_eq_true rfl⟩) [0, 1, 2, 3, 4, 5, 6, 7, 8, 9, 10, 11] rfl rfl [] (wr := []) rfl rfl (by decide) 0 rfl rfl rfl hl.1 rfl (Nat.le_of_ble_eq_true rfl) dX6_noBlock_14 ⟨Nat.zero_le _, Nat.zero_le _⟩ [0, 1, 2, 3, 4, 5, 6, 7, 8, 9, 10, 11] (w' := [(o0, .inr (6, [.int (nI 0), .ref mw, .int (nI S), .int (nI B), .ref mv, .int (nI nn), .int (nI dr), .ref mm, .ref mn, .int (nI pk), .long ps, .ref mo, .ref mb, .ref mr, .ref mq, .ref mrk, .ref mqk, .long red, .int rdn, .long gen, .int (nI dm), .ref md])), (mw, .inl (G.2.1, 13, .inl (fun zz => nI ((q_w1 w) zz)))), (mv, .inl (G.2.1, 32, .inl vals)), (mm, .inl (G.2.2, 126, .inr (.inl msk))), (mn, .inl (G.2.1, 126, .inl nums)), (mo, .inl (G.2.1, 38, .inl (fun zz => nI (po zz)))), (mb, .inl (G.2.1, 38, .inl pb)), (mr, .inl (G.2.2, 38, .inr (.inl rows))), (mq, .inl (G.2.1, 38, .inl rv)), (mrk, .inl (G.2.2, 38, .inr (.inl rwk))), (mqk, .inl (G.2.1, 38, .inl rvk)), (md, .inl (G.2.1, 38, .inl (fun zz => nI (drw zz))))]) rfl rfl (fun H locs h => ?_)
  exact q_retz C h rfl rfl rfl dX6_noBlock_17

set_option maxHeartbeats 4000000 in
set_option maxRecDepth 100000 in
theorem c_X6_clear (l : Launch) (G : vq_G) (o0 mw mv mm mn mo mb mr mq mrk mqk md : Nat) (rf S B nn dr pk : Nat) (ps red : Int64) (rdn : Int32) (gen : Int64) (dm : Nat) (w : Nat → Nat) (vals : Nat → Int32) (msk : Nat → Int64) (nums : Nat → Int32) (po : Nat → Nat) (pb : Nat → Int32) (rows : Nat → Int64) (rv : Nat → Int32) (rwk : Nat → Int64) (rvk : Nat → Int32) (drw : Nat → Nat) : vq_v l yX6_clear wsX6_clear 0 0 G [.ref o0] [(o0, .inr (6, [.int (nI rf), .ref mw, .int (nI S), .int (nI B), .ref mv, .int (nI nn), .int (nI dr), .ref mm, .ref mn, .int (nI pk), .long ps, .ref mo, .ref mb, .ref mr, .ref mq, .ref mrk, .ref mqk, .long red, .int rdn, .long gen, .int (nI dm), .ref md])), (mw, .inl (G.2.1, 13, .inl (fun zz => nI ((q_w1 w) zz)))), (mv, .inl (G.2.1, 32, .inl vals)), (mm, .inl (G.2.2, 126, .inr (.inl msk))), (mn, .inl (G.2.1, 126, .inl nums)), (mo, .inl (G.2.1, 38, .inl (fun zz => nI (po zz)))), (mb, .inl (G.2.1, 38, .inl pb)), (mr, .inl (G.2.2, 38, .inr (.inl rows))), (mq, .inl (G.2.1, 38, .inl rv)), (mrk, .inl (G.2.2, 38, .inr (.inl rwk))), (mqk, .inl (G.2.1, 38, .inl rvk)), (md, .inl (G.2.1, 38, .inl (fun zz => nI (drw zz))))]  [(o0, .inr (6, [.int (nI rf), .ref mw, .int (nI S), .int (nI B), .ref mv, .int (nI 0), .int (nI 0), .ref mm, .ref mn, .int (nI 0), .long 0, .ref mo, .ref mb, .ref mr, .ref mq, .ref mrk, .ref mqk, .long red, .int rdn, .long gen, .int (nI dm), .ref md])), (mw, .inl (G.2.1, 13, .inl (fun zz => nI ((q_w1 w) zz)))), (mv, .inl (G.2.1, 32, .inl vals)), (mm, .inl (G.2.2, 126, .inr (.inl msk))), (mn, .inl (G.2.1, 126, .inl nums)), (mo, .inl (G.2.1, 38, .inl (fun zz => nI (po zz)))), (mb, .inl (G.2.1, 38, .inl (fun _ => (-1)))), (mr, .inl (G.2.2, 38, .inr (.inl (fun _ => 0)))), (mq, .inl (G.2.1, 38, .inl (fun _ => (nI 0)))), (mrk, .inl (G.2.2, 38, .inr (.inl rwk))), (mqk, .inl (G.2.1, 38, .inl rvk)), (md, .inl (G.2.1, 38, .inl (fun zz => nI (drw zz))))] := by
  refine vq_openv (cc := cX6_clear) (maxL := 2) (ret := none) (Ts' := wsX6_clear.tail) (by decide) rfl (Nat.le_of_ble_eq_true rfl) ?_
  intro p e s m args below meth c A ls C h hnm hl
  have hx := C.1.1
  have hb := C.1.2.1
  have hts := C.1.2.2.2.2
  have hl : lv_has ls 2 [(0, .ref o0)] := hl
  have f68 := C.1.2.2.2.2 (.fieldLink RX6 68 "FountainCodeModel" "many" "I") (by decide +kernel)
  have iX6 : ∀ w ∈ u_ws RX6 TX6 22, w ∈ wsX6_clear := by decide +kernel
  have f71 := C.1.2.2.2.2 (.fieldLink RX6 71 "FountainCodeModel" "drops" "I") (by decide +kernel)
  have f74 := C.1.2.2.2.2 (.fieldLink RX6 74 "FountainCodeModel" "peeled" "I") (by decide +kernel)
  have f77 := C.1.2.2.2.2 (.fieldLink RX6 77 "FountainCodeModel" "peeledMask" "J") (by decide +kernel)
  have f33 := C.1.2.2.2.2 (.fieldLink RX6 33 "FountainCodeModel" "by" "[I") (by decide +kernel)
  have f36 := C.1.2.2.2.2 (.fieldLink RX6 36 "FountainCodeModel" "rows" "[J") (by decide +kernel)
  have f39 := C.1.2.2.2.2 (.fieldLink RX6 39 "FountainCodeModel" "rowNumbers" "[I") (by decide +kernel)
  refine lv_aload_n hx hb dX6_clear_0 rfl (lv_at hl 0 rfl) ?_
  refine lv_iconst (v := nI 0) hx hb dX6_clear_1 (by decide) ?_
  refine q_put (Cn := RX6) (T := TX6) (N := 22) (ci := 6) (v := .int (nI 0)) (w' := [(o0, .inr (6, [.int (nI rf), .ref mw, .int (nI S), .int (nI B), .ref mv, .int (nI 0), .int (nI dr), .ref mm, .ref mn, .int (nI pk), .long ps, .ref mo, .ref mb, .ref mr, .ref mq, .ref mrk, .ref mqk, .long red, .int rdn, .long gen, .int (nI dm), .ref md])), (mw, .inl (G.2.1, 13, .inl (fun zz => nI ((q_w1 w) zz)))), (mv, .inl (G.2.1, 32, .inl vals)), (mm, .inl (G.2.2, 126, .inr (.inl msk))), (mn, .inl (G.2.1, 126, .inl nums)), (mo, .inl (G.2.1, 38, .inl (fun zz => nI (po zz)))), (mb, .inl (G.2.1, 38, .inl pb)), (mr, .inl (G.2.2, 38, .inr (.inl rows))), (mq, .inl (G.2.1, 38, .inl rv)), (mrk, .inl (G.2.2, 38, .inr (.inl rwk))), (mqk, .inl (G.2.1, 38, .inl rvk)), (md, .inl (G.2.1, 38, .inl (fun zz => nI (drw zz))))]) C h iX6 tyX6 tyX6_ok nmX6 0 rfl rfl 5 (by decide) f68 rfl rfl rfl (Nat.le_of_ble_eq_true rfl) dX6_clear_2 rfl (fun H locs h => ?_)
  refine lv_aload_n hx hb dX6_clear_5 rfl (lv_at hl 0 rfl) ?_
  refine lv_iconst (v := nI 0) hx hb dX6_clear_6 (by decide) ?_
  refine q_put (Cn := RX6) (T := TX6) (N := 22) (ci := 6) (v := .int (nI 0)) (w' := [(o0, .inr (6, [.int (nI rf), .ref mw, .int (nI S), .int (nI B), .ref mv, .int (nI 0), .int (nI 0), .ref mm, .ref mn, .int (nI pk), .long ps, .ref mo, .ref mb, .ref mr, .ref mq, .ref mrk, .ref mqk, .long red, .int rdn, .long gen, .int (nI dm), .ref md])), (mw, .inl (G.2.1, 13, .inl (fun zz => nI ((q_w1 w) zz)))), (mv, .inl (G.2.1, 32, .inl vals)), (mm, .inl (G.2.2, 126, .inr (.inl msk))), (mn, .inl (G.2.1, 126, .inl nums)), (mo, .inl (G.2.1, 38, .inl (fun zz => nI (po zz)))), (mb, .inl (G.2.1, 38, .inl pb)), (mr, .inl (G.2.2, 38, .inr (.inl rows))), (mq, .inl (G.2.1, 38, .inl rv)), (mrk, .inl (G.2.2, 38, .inr (.inl rwk))), (mqk, .inl (G.2.1, 38, .inl rvk)), (md, .inl (G.2.1, 38, .inl (fun zz => nI (drw zz))))]) C h iX6 tyX6 tyX6_ok nmX6 0 rfl rfl 6 (by decide) f71 rfl rfl rfl (Nat.le_of_ble_eq_true rfl) dX6_clear_7 rfl (fun H locs h => ?_)
  refine lv_aload_n hx hb dX6_clear_10 rfl (lv_at hl 0 rfl) ?_
  refine lv_iconst (v := nI 0) hx hb dX6_clear_11 (by decide) ?_
  refine q_put (Cn := RX6) (T := TX6) (N := 22) (ci := 6) (v := .int (nI 0)) (w' := [(o0, .inr (6, [.int (nI rf), .ref mw, .int (nI S), .int (nI B), .ref mv, .int (nI 0), .int (nI 0), .ref mm, .ref mn, .int (nI 0), .long ps, .ref mo, .ref mb, .ref mr, .ref mq, .ref mrk, .ref mqk, .long red, .int rdn, .long gen, .int (nI dm), .ref md])), (mw, .inl (G.2.1, 13, .inl (fun zz => nI ((q_w1 w) zz)))), (mv, .inl (G.2.1, 32, .inl vals)), (mm, .inl (G.2.2, 126, .inr (.inl msk))), (mn, .inl (G.2.1, 126, .inl nums)), (mo, .inl (G.2.1, 38, .inl (fun zz => nI (po zz)))), (mb, .inl (G.2.1, 38, .inl pb)), (mr, .inl (G.2.2, 38, .inr (.inl rows))), (mq, .inl (G.2.1, 38, .inl rv)), (mrk, .inl (G.2.2, 38, .inr (.inl rwk))), (mqk, .inl (G.2.1, 38, .inl rvk)), (md, .inl (G.2.1, 38, .inl (fun zz => nI (drw zz))))]) C h iX6 tyX6 tyX6_ok nmX6 0 rfl rfl 9 (by decide) f74 rfl rfl rfl (Nat.le_of_ble_eq_true rfl) dX6_clear_12 rfl (fun H locs h => ?_)
  refine lv_aload_n hx hb dX6_clear_15 rfl (lv_at hl 0 rfl) ?_
  refine lv_lconst (v := 0) hx hb dX6_clear_16 (by decide) ?_
  refine q_put (Cn := RX6) (T := TX6) (N := 22) (ci := 6) (v := .long 0) (w' := [(o0, .inr (6, [.int (nI rf), .ref mw, .int (nI S), .int (nI B), .ref mv, .int (nI 0), .int (nI 0), .ref mm, .ref mn, .int (nI 0), .long 0, .ref mo, .ref mb, .ref mr, .ref mq, .ref mrk, .ref mqk, .long red, .int rdn, .long gen, .int (nI dm), .ref md])), (mw, .inl (G.2.1, 13, .inl (fun zz => nI ((q_w1 w) zz)))), (mv, .inl (G.2.1, 32, .inl vals)), (mm, .inl (G.2.2, 126, .inr (.inl msk))), (mn, .inl (G.2.1, 126, .inl nums)), (mo, .inl (G.2.1, 38, .inl (fun zz => nI (po zz)))), (mb, .inl (G.2.1, 38, .inl pb)), (mr, .inl (G.2.2, 38, .inr (.inl rows))), (mq, .inl (G.2.1, 38, .inl rv)), (mrk, .inl (G.2.2, 38, .inr (.inl rwk))), (mqk, .inl (G.2.1, 38, .inl rvk)), (md, .inl (G.2.1, 38, .inl (fun zz => nI (drw zz))))]) C h iX6 tyX6 tyX6_ok nmX6 0 rfl rfl 10 (by decide) f77 rfl rfl rfl (Nat.le_of_ble_eq_true rfl) dX6_clear_17 rfl (fun H locs h => ?_)
  refine lv_iconst (v := nI 0) hx hb dX6_clear_20 (by decide) ?_
  refine lv_istore_n (lv' := [(1, .int (nI 0)), (0, .ref o0)]) hx hb dX6_clear_21 rfl hl (by decide) rfl (fun ls hl => ?_)
  have loop22 : ∀ (fu : Nat) (k : Nat) (g1 : Nat → Int32) (g2 : Nat → Int64) (g3 : Nat → Int32), 38 - k < fu → g1 = q_fill pb (-1) k → g2 = q_fillL rows 0 k → g3 = q_fill rv (nI 0) k → (k ≤ 38) → ∀ (H : Heap) (locs : List Loc), vq_H G A s [(o0, .inr (6, [.int (nI rf), .ref mw, .int (nI S), .int (nI B), .ref mv, .int (nI 0), .int (nI 0), .ref mm, .ref mn, .int (nI 0), .long 0, .ref mo, .ref mb, .ref mr, .ref mq, .ref mrk, .ref mqk, .long red, .int rdn, .long gen, .int (nI dm), .ref md])), (mw, .inl (G.2.1, 13, .inl (fun zz => nI ((q_w1 w) zz)))), (mv, .inl (G.2.1, 32, .inl vals)), (mm, .inl (G.2.2, 126, .inr (.inl msk))), (mn, .inl (G.2.1, 126, .inl nums)), (mo, .inl (G.2.1, 38, .inl (fun zz => nI (po zz)))), (mb, .inl (G.2.1, 38, .inl g1)), (mr, .inl (G.2.2, 38, .inr (.inl g2))), (mq, .inl (G.2.1, 38, .inl g3)), (mrk, .inl (G.2.2, 38, .inr (.inl rwk))), (mqk, .inl (G.2.1, 38, .inl rvk)), (md, .inl (G.2.1, 38, .inl (fun zz => nI (drw zz))))] H locs → ∀ (ls : Array Slot), lv_has ls 2 [(1, .int (nI k)), (0, .ref o0)] → W p l e ({ frames := 0, cells := 0, slots := 0, locals := 0 } : Room) s m args below meth c H locs 0 0 (MQ below (va_Qv (fun (_ : Unit) => True) (fun _ => vq_T G A [(o0, .inr (6, [.int (nI rf), .ref mw, .int (nI S), .int (nI B), .ref mv, .int (nI 0), .int (nI 0), .ref mm, .ref mn, .int (nI 0), .long 0, .ref mo, .ref mb, .ref mr, .ref mq, .ref mrk, .ref mqk, .long red, .int rdn, .long gen, .int (nI dm), .ref md])), (mw, .inl (G.2.1, 13, .inl (fun zz => nI ((q_w1 w) zz)))), (mv, .inl (G.2.1, 32, .inl vals)), (mm, .inl (G.2.2, 126, .inr (.inl msk))), (mn, .inl (G.2.1, 126, .inl nums)), (mo, .inl (G.2.1, 38, .inl (fun zz => nI (po zz)))), (mb, .inl (G.2.1, 38, .inl (fun _ => (-1)))), (mr, .inl (G.2.2, 38, .inr (.inl (fun _ => 0)))), (mq, .inl (G.2.1, 38, .inl (fun _ => (nI 0)))), (mrk, .inl (G.2.2, 38, .inr (.inl rwk))), (mqk, .inl (G.2.1, 38, .inl rvk)), (md, .inl (G.2.1, 38, .inl (fun zz => nI (drw zz))))]) A) args s 0 0 A) (F0 m 22 ls []) := by
    intro fu
    induction fu with
    | zero => exact fun k g1 g2 g3 hm => absurd hm (Nat.not_lt_zero _)
    | succ fu ih =>
      intro k g1 g2 g3 hm22 e_g1 e_g2 e_g3 hk H locs h ls hl
      have ih22 := ih
      clear ih
      refine lv_iload_n hx hb dX6_clear_22 rfl (lv_at hl 0 rfl) ?_
      refine lv_bipush (v := nI 38) hx hb dX6_clear_23 (by decide) ?_
      refine q_icmp_ge (tgt := 55) hx hb (by omega) (by omega) dX6_clear_25 (by decide) (fun z25 => ?_) (fun z25 => ?_)
      · have h := q_reI h 6 (fun _ => (-1)) rfl (fun j hj => by rw [e_g1]; exact q_fill_at pb (-1) (by omega))
        have h := q_reL h 7 (fun _ => 0) rfl (fun j hj => by rw [e_g2]; exact q_fillL_at rows 0 (by omega))
        have h := q_reI h 8 (fun _ => nI 0) rfl (fun j hj => by rw [e_g3]; exact q_fill_at rv (nI 0) (by omega))
        have h : vq_H G A s [(o0, .inr (6, [.int (nI rf), .ref mw, .int (nI S), .int (nI B), .ref mv, .int (nI 0), .int (nI 0), .ref mm, .ref mn, .int (nI 0), .long 0, .ref mo, .ref mb, .ref mr, .ref mq, .ref mrk, .ref mqk, .long red, .int rdn, .long gen, .int (nI dm), .ref md])), (mw, .inl (G.2.1, 13, .inl (fun zz => nI ((q_w1 w) zz)))), (mv, .inl (G.2.1, 32, .inl vals)), (mm, .inl (G.2.2, 126, .inr (.inl msk))), (mn, .inl (G.2.1, 126, .inl nums)), (mo, .inl (G.2.1, 38, .inl (fun zz => nI (po zz)))), (mb, .inl (G.2.1, 38, .inl (fun _ => (-1)))), (mr, .inl (G.2.2, 38, .inr (.inl (fun _ => 0)))), (mq, .inl (G.2.1, 38, .inl (fun _ => (nI 0)))), (mrk, .inl (G.2.2, 38, .inr (.inl rwk))), (mqk, .inl (G.2.1, 38, .inl rvk)), (md, .inl (G.2.1, 38, .inl (fun zz => nI (drw zz))))] H locs := h
        exact q_retv C h rfl rfl dX6_clear_55
      · refine lv_aload_n hx hb dX6_clear_28 rfl (lv_at hl 1 rfl) ?_
        refine q_get (Cn := RX6) (T := TX6) (N := 22) (ci := 6) (v := .ref mb) C h iX6 0 rfl rfl 12 (by decide) f33 rfl dX6_clear_29 ?_
        refine lv_iload_n hx hb dX6_clear_32 rfl (lv_at hl 0 rfl) ?_
        refine lv_iconst (v := (-1)) hx hb dX6_clear_33 (by decide) ?_
        refine q_iast (i := k) (g := upd g1 k (-1)) (w' := [(o0, .inr (6, [.int (nI rf), .ref mw, .int (nI S), .int (nI B), .ref mv, .int (nI 0), .int (nI 0), .ref mm, .ref mn, .int (nI 0), .long 0, .ref mo, .ref mb, .ref mr, .ref mq, .ref mrk, .ref mqk, .long red, .int rdn, .long gen, .int (nI dm), .ref md])), (mw, .inl (G.2.1, 13, .inl (fun zz => nI ((q_w1 w) zz)))), (mv, .inl (G.2.1, 32, .inl vals)), (mm, .inl (G.2.2, 126, .inr (.inl msk))), (mn, .inl (G.2.1, 126, .inl nums)), (mo, .inl (G.2.1, 38, .inl (fun zz => nI (po zz)))), (mb, .inl (G.2.1, 38, .inl (upd g1 k (-1)))), (mr, .inl (G.2.2, 38, .inr (.inl g2))), (mq, .inl (G.2.1, 38, .inl g3)), (mrk, .inl (G.2.2, 38, .inr (.inl rwk))), (mqk, .inl (G.2.1, 38, .inl rvk)), (md, .inl (G.2.1, 38, .inl (fun zz => nI (drw zz))))]) C h 6 rfl (by omega) (by omega) rfl rfl dX6_clear_34 (fun H locs h => ?_)
        refine lv_aload_n hx hb dX6_clear_35 rfl (lv_at hl 1 rfl) ?_
        refine q_get (Cn := RX6) (T := TX6) (N := 22) (ci := 6) (v := .ref mr) C h iX6 0 rfl rfl 13 (by decide) f36 rfl dX6_clear_36 ?_
        refine lv_iload_n hx hb dX6_clear_39 rfl (lv_at hl 0 rfl) ?_
        refine lv_lconst (v := 0) hx hb dX6_clear_40 (by decide) ?_
        refine q_last (i := k) (g := vp_updL g2 k 0) (w' := [(o0, .inr (6, [.int (nI rf), .ref mw, .int (nI S), .int (nI B), .ref mv, .int (nI 0), .int (nI 0), .ref mm, .ref mn, .int (nI 0), .long 0, .ref mo, .ref mb, .ref mr, .ref mq, .ref mrk, .ref mqk, .long red, .int rdn, .long gen, .int (nI dm), .ref md])), (mw, .inl (G.2.1, 13, .inl (fun zz => nI ((q_w1 w) zz)))), (mv, .inl (G.2.1, 32, .inl vals)), (mm, .inl (G.2.2, 126, .inr (.inl msk))), (mn, .inl (G.2.1, 126, .inl nums)), (mo, .inl (G.2.1, 38, .inl (fun zz => nI (po zz)))), (mb, .inl (G.2.1, 38, .inl (upd g1 k (-1)))), (mr, .inl (G.2.2, 38, .inr (.inl (vp_updL g2 k 0)))), (mq, .inl (G.2.1, 38, .inl g3)), (mrk, .inl (G.2.2, 38, .inr (.inl rwk))), (mqk, .inl (G.2.1, 38, .inl rvk)), (md, .inl (G.2.1, 38, .inl (fun zz => nI (drw zz))))]) C h 7 rfl (by omega) (by omega) rfl rfl dX6_clear_41 (fun H locs h => ?_)
        refine lv_aload_n hx hb dX6_clear_42 rfl (lv_at hl 1 rfl) ?_
        refine q_get (Cn := RX6) (T := TX6) (N := 22) (ci := 6) (v := .ref mq) C h iX6 0 rfl rfl 14 (by decide) f39 rfl dX6_clear_43 ?_
        refine lv_iload_n hx hb dX6_clear_46 rfl (lv_at hl 0 rfl) ?_
        refine lv_iconst (v := nI 0) hx hb dX6_clear_47 (by decide) ?_
        refine q_iast (i := k) (g := upd g3 k (nI 0)) (w' := [(o0, .inr (6, [.int (nI rf), .ref mw, .int (nI S), .int (nI B), .ref mv, .int (nI 0), .int (nI 0), .ref mm, .ref mn, .int (nI 0), .long 0, .ref mo, .ref mb, .ref mr, .ref mq, .ref mrk, .ref mqk, .long red, .int rdn, .long gen, .int (nI dm), .ref md])), (mw, .inl (G.2.1, 13, .inl (fun zz => nI ((q_w1 w) zz)))), (mv, .inl (G.2.1, 32, .inl vals)), (mm, .inl (G.2.2, 126, .inr (.inl msk))), (mn, .inl (G.2.1, 126, .inl nums)), (mo, .inl (G.2.1, 38, .inl (fun zz => nI (po zz)))), (mb, .inl (G.2.1, 38, .inl (upd g1 k (-1)))), (mr, .inl (G.2.2, 38, .inr (.inl (vp_updL g2 k 0)))), (mq, .inl (G.2.1, 38, .inl (upd g3 k (nI 0)))), (mrk, .inl (G.2.2, 38, .inr (.inl rwk))), (mqk, .inl (G.2.1, 38, .inl rvk)), (md, .inl (G.2.1, 38, .inl (fun zz => nI (drw zz))))]) C h 8 rfl (by omega) (by omega) rfl rfl dX6_clear_48 (fun H locs h => ?_)
        refine lv_iinc (v := nI (k + 1)) (lv' := [(1, .int (nI (k + 1))), (0, .ref o0)]) hx hb dX6_clear_49 hl (k := 0) rfl (q_inc k) (by decide) rfl (fun ls hl => ?_)
        refine lv_goto (tgt := 22) hx hb dX6_clear_52 (by decide) ?_
        exact ih22 (k + 1) (upd g1 k (-1)) (vp_updL g2 k 0) (upd g3 k (nI 0)) (by omega) (show (upd g1 k (-1)) = q_fill pb (-1) (k + 1) from (by rw [e_g1]; exact q_fill_1 pb (-1) k)) (show (vp_updL g2 k 0) = q_fillL rows 0 (k + 1) from (by rw [e_g2]; exact q_fillL_1 rows 0 k)) (show (upd g3 k (nI 0)) = q_fill rv (nI 0) (k + 1) from (by rw [e_g3]; exact q_fill_1 rv (nI 0) k)) (show (k + 1) ≤ 38 from (by omega)) _ _ h _ (lv_sub hl [0, 1] rfl)
  exact loop22 (38 - 0 + 1) 0 pb rows rv (Nat.lt_succ_self _) (show pb = q_fill pb (-1) 0 from (q_fill_0 pb (-1))) (show rows = q_fillL rows 0 0 from (q_fillL_0 rows 0)) (show rv = q_fill rv (nI 0) 0 from (q_fill_0 rv (nI 0))) (show 0 ≤ 38 from (Nat.zero_le _)) _ _ h _ (lv_sub hl [0, 1] rfl)

set_option maxHeartbeats 4000000 in
set_option maxRecDepth 100000 in
theorem c_X6_covers (l : Launch) (G : vq_G) (j k : Nat) (hj : j < 31) (hk : k < 1000) : vq_i l yX6_covers wsX6_covers 0 0 G [.int (nI j), .int (nI k)] [] (q_b (q_cv j k)) [] := by
  refine vq_openi (cc := cX6_covers) (maxL := 2) (ret := (some .boolean)) (Ts' := wsX6_covers.tail) (by decide) rfl (Nat.le_of_ble_eq_true rfl) ?_
  intro p e s m args below meth c A ls C h hnm hl
  have hx := C.1.1
  have hb := C.1.2.1
  have hts := C.1.2.2.2.2
  have hl : lv_has ls 2 [(0, .int (nI j)), (1, .int (nI k))] := hl
  refine lv_iload_n hx hb dX6_covers_0 rfl (lv_at hl 1 rfl) ?_
  refine lv_iconst (v := nI 1) hx hb dX6_covers_1 (by decide) ?_
  refine q_iadd hx hb dX6_covers_2 ?_
  refine lv_iload_n hx hb dX6_covers_3 rfl (lv_at hl 0 rfl) ?_
  refine lv_ishr hx hb dX6_covers_4 ?_
  refine q_top (v' := .int (nI ((k + 1) / 2 ^ j))) (congrArg Value.int (q_ishr (by omega) (by omega))) ?_
  refine lv_iconst (v := nI 1) hx hb dX6_covers_5 (by decide) ?_
  refine lv_iand hx hb dX6_covers_6 ?_
  refine q_top (v' := .int (nI (((k + 1) / 2 ^ j) % 2))) (congrArg Value.int (pk_andN (q_half (by omega)) (m := nI 1) 1 (by decide))) ?_
  refine lv_iconst (v := nI 1) hx hb dX6_covers_7 (by decide) ?_
  refine q_icmp_ne (tgt := 15) hx hb (Nat.lt_of_lt_of_le (Nat.mod_lt _ (by decide)) (by decide)) (by omega) dX6_covers_8 (by decide) (fun z8 => ?_) (fun z8 => ?_)
  · refine lv_iconst (v := nI 0) hx hb dX6_covers_15 (by decide) ?_
    refine q_top (v' := .int (q_b false)) rfl ?_
    exact q_retz C h rfl (by simp [q_cv, z8]) rfl dX6_covers_16
  · refine lv_iconst (v := nI 1) hx hb dX6_covers_11 (by decide) ?_
    refine lv_goto (tgt := 16) hx hb dX6_covers_12 (by decide) ?_
    refine q_top (v' := .int (q_b true)) rfl ?_
    exact q_retz C h rfl (by simp [q_cv, z8]) rfl dX6_covers_16

set_option maxHeartbeats 4000000 in
set_option maxRecDepth 100000 in
theorem c_X6_valueAt (l : Launch) (G : vq_G) (o0 mw mv mm mn mo mb mr mq mrk mqk md : Nat) (rf S B nn dr pk : Nat) (ps red : Int64) (rdn : Int32) (gen : Int64) (dm : Nat) (w : Nat → Nat) (vals : Nat → Int32) (msk : Nat → Int64) (nums : Nat → Int32) (po : Nat → Nat) (pb : Nat → Int32) (rows : Nat → Int64) (rv : Nat → Int32) (rwk : Nat → Int64) (rvk : Nat → Int32) (drw : Nat → Nat) (b : Nat) (hS1 : 1 ≤ S) (hS : S ≤ 32) (hSB : S ≤ B) (hB : B ≤ S + 6) (hb3 : b < B) : vq_i l yX6_valueAt wsX6_valueAt 1 21 G [.ref o0, .int (nI b)] [(o0, .inr (6, [.int (nI rf), .ref mw, .int (nI S), .int (nI B), .ref mv, .int (nI nn), .int (nI dr), .ref mm, .ref mn, .int (nI pk), .long ps, .ref mo, .ref mb, .ref mr, .ref mq, .ref mrk, .ref mqk, .long red, .int rdn, .long gen, .int (nI dm), .ref md])), (mw, .inl (G.2.1, 13, .inl (fun zz => nI ((q_w1 w) zz)))), (mv, .inl (G.2.1, 32, .inl vals)), (mm, .inl (G.2.2, 126, .inr (.inl msk))), (mn, .inl (G.2.1, 126, .inl nums)), (mo, .inl (G.2.1, 38, .inl (fun zz => nI (po zz)))), (mb, .inl (G.2.1, 38, .inl pb)), (mr, .inl (G.2.2, 38, .inr (.inl rows))), (mq, .inl (G.2.1, 38, .inl rv)), (mrk, .inl (G.2.2, 38, .inr (.inl rwk))), (mqk, .inl (G.2.1, 38, .inl rvk)), (md, .inl (G.2.1, 38, .inl (fun zz => nI (drw zz))))] (q_va vals S b) [(o0, .inr (6, [.int (nI rf), .ref mw, .int (nI S), .int (nI B), .ref mv, .int (nI nn), .int (nI dr), .ref mm, .ref mn, .int (nI pk), .long ps, .ref mo, .ref mb, .ref mr, .ref mq, .ref mrk, .ref mqk, .long red, .int rdn, .long gen, .int (nI dm), .ref md])), (mw, .inl (G.2.1, 13, .inl (fun zz => nI ((q_w1 w) zz)))), (mv, .inl (G.2.1, 32, .inl vals)), (mm, .inl (G.2.2, 126, .inr (.inl msk))), (mn, .inl (G.2.1, 126, .inl nums)), (mo, .inl (G.2.1, 38, .inl (fun zz => nI (po zz)))), (mb, .inl (G.2.1, 38, .inl pb)), (mr, .inl (G.2.2, 38, .inr (.inl rows))), (mq, .inl (G.2.1, 38, .inl rv)), (mrk, .inl (G.2.2, 38, .inr (.inl rwk))), (mqk, .inl (G.2.1, 38, .inl rvk)), (md, .inl (G.2.1, 38, .inl (fun zz => nI (drw zz))))] := by
  refine vq_openi (cc := cX6_valueAt) (maxL := 4) (ret := (some .int)) (Ts' := wsX6_valueAt.tail) (by decide) rfl (Nat.le_of_ble_eq_true rfl) ?_
  intro p e s m args below meth c A ls C h hnm hl
  have hx := C.1.1
  have hb := C.1.2.1
  have hts := C.1.2.2.2.2
  have hl : lv_has ls 4 [(0, .ref o0), (1, .int (nI b))] := hl
  have f13 := C.1.2.2.2.2 (.fieldLink RX6 13 "FountainCodeModel" "sources" "I") (by decide +kernel)
  have iX6 : ∀ w ∈ u_ws RX6 TX6 22, w ∈ wsX6_valueAt := by decide +kernel
  have f20 := C.1.2.2.2.2 (.fieldLink RX6 20 "FountainCodeModel" "values" "[I") (by decide +kernel)
  refine lv_iload_n hx hb dX6_valueAt_0 rfl (lv_at hl 1 rfl) ?_
  refine lv_aload_n hx hb dX6_valueAt_1 rfl (lv_at hl 0 rfl) ?_
  refine q_get (Cn := RX6) (T := TX6) (N := 22) (ci := 6) (v := .int (nI S)) C h iX6 0 rfl rfl 2 (by decide) f13 rfl dX6_valueAt_2 ?_
  refine q_icmp_ge (tgt := 15) hx hb (by omega) (by omega) dX6_valueAt_5 (by decide) (fun z5 => ?_) (fun z5 => ?_)
  · refine lv_iconst (v := nI 0) hx hb dX6_valueAt_15 (by decide) ?_
    refine lv_istore_n (lv' := [(2, .int (nI 0)), (0, .ref o0), (1, .int (nI b))]) hx hb dX6_valueAt_16 rfl hl (by decide) rfl (fun ls hl => ?_)
    refine lv_iconst (v := nI 0) hx hb dX6_valueAt_17 (by decide) ?_
    refine lv_istore_n (lv' := [(3, .int (nI 0)), (2, .int (nI 0)), (0, .ref o0), (1, .int (nI b))]) hx hb dX6_valueAt_18 rfl hl (by decide) rfl (fun ls hl => ?_)
    have loop19 : ∀ (fu : Nat) (k : Nat) (y : Int32), S - k < fu → y = q_vm vals S b k → (k ≤ S) → ∀ (H : Heap) (locs : List Loc), vq_H G A s [(o0, .inr (6, [.int (nI rf), .ref mw, .int (nI S), .int (nI B), .ref mv, .int (nI nn), .int (nI dr), .ref mm, .ref mn, .int (nI pk), .long ps, .ref mo, .ref mb, .ref mr, .ref mq, .ref mrk, .ref mqk, .long red, .int rdn, .long gen, .int (nI dm), .ref md])), (mw, .inl (G.2.1, 13, .inl (fun zz => nI ((q_w1 w) zz)))), (mv, .inl (G.2.1, 32, .inl vals)), (mm, .inl (G.2.2, 126, .inr (.inl msk))), (mn, .inl (G.2.1, 126, .inl nums)), (mo, .inl (G.2.1, 38, .inl (fun zz => nI (po zz)))), (mb, .inl (G.2.1, 38, .inl pb)), (mr, .inl (G.2.2, 38, .inr (.inl rows))), (mq, .inl (G.2.1, 38, .inl rv)), (mrk, .inl (G.2.2, 38, .inr (.inl rwk))), (mqk, .inl (G.2.1, 38, .inl rvk)), (md, .inl (G.2.1, 38, .inl (fun zz => nI (drw zz))))] H locs → ∀ (ls : Array Slot), lv_has ls 4 [(3, .int (nI k)), (2, .int y), (0, .ref o0), (1, .int (nI b))] → W p l e ({ frames := 1, cells := 0, slots := 0, locals := 21 } : Room) s m args below meth c H locs 0 0 (MQ below (va_Qi (fun zr (_ : Unit) => zr = (q_va vals S b)) (fun _ => vq_T G A [(o0, .inr (6, [.int (nI rf), .ref mw, .int (nI S), .int (nI B), .ref mv, .int (nI nn), .int (nI dr), .ref mm, .ref mn, .int (nI pk), .long ps, .ref mo, .ref mb, .ref mr, .ref mq, .ref mrk, .ref mqk, .long red, .int rdn, .long gen, .int (nI dm), .ref md])), (mw, .inl (G.2.1, 13, .inl (fun zz => nI ((q_w1 w) zz)))), (mv, .inl (G.2.1, 32, .inl vals)), (mm, .inl (G.2.2, 126, .inr (.inl msk))), (mn, .inl (G.2.1, 126, .inl nums)), (mo, .inl (G.2.1, 38, .inl (fun zz => nI (po zz)))), (mb, .inl (G.2.1, 38, .inl pb)), (mr, .inl (G.2.2, 38, .inr (.inl rows))), (mq, .inl (G.2.1, 38, .inl rv)), (mrk, .inl (G.2.2, 38, .inr (.inl rwk))), (mqk, .inl (G.2.1, 38, .inl rvk)), (md, .inl (G.2.1, 38, .inl (fun zz => nI (drw zz))))]) A) args s 0 0 A) (F0 m 19 ls []) := by
      intro fu
      induction fu with
      | zero => exact fun k y hm => absurd hm (Nat.not_lt_zero _)
      | succ fu ih =>
        intro k y hm19 e_y hk H locs h ls hl
        have ih19 := ih
        clear ih
        refine lv_iload_n hx hb dX6_valueAt_19 rfl (lv_at hl 0 rfl) ?_
        refine lv_aload_n hx hb dX6_valueAt_20 rfl (lv_at hl 2 rfl) ?_
        refine q_get (Cn := RX6) (T := TX6) (N := 22) (ci := 6) (v := .int (nI S)) C h iX6 0 rfl rfl 2 (by decide) f13 rfl dX6_valueAt_21 ?_
        refine q_icmp_ge (tgt := 59) hx hb (by omega) (by omega) dX6_valueAt_24 (by decide) (fun z24 => ?_) (fun z24 => ?_)
        · refine lv_iload_n hx hb dX6_valueAt_59 rfl (lv_at hl 1 rfl) ?_
          exact q_reti C h rfl (by rw [e_y, show k = S from by omega]; simp [q_va, show ¬ b < S from by omega]) rfl dX6_valueAt_60
        · refine lv_iload_n hx hb dX6_valueAt_27 rfl (lv_at hl 1 rfl) ?_
          refine lv_iload_n hx hb dX6_valueAt_28 rfl (lv_at hl 3 rfl) ?_
          refine lv_aload_n hx hb dX6_valueAt_29 rfl (lv_at hl 2 rfl) ?_
          refine q_get (Cn := RX6) (T := TX6) (N := 22) (ci := 6) (v := .int (nI S)) C h iX6 0 rfl rfl 2 (by decide) f13 rfl dX6_valueAt_30 ?_
          refine q_isub hx hb (by omega) dX6_valueAt_33 ?_
          refine lv_iload_n hx hb dX6_valueAt_34 rfl (lv_at hl 0 rfl) ?_
          refine q_callSi C h (c_X6_covers l G (b - S) k (by omega) (by omega)) (va_cwS 2 hts gX6_valueAt_X6_covers rfl rfl rfl (by decide +kernel) ⟨Nat.le_of_ble_eq_true rfl, Nat.le_of_ble_eq_true rfl⟩) [] rfl rfl [0, 1, 2, 3, 4, 5, 6, 7, 8, 9, 10, 11] (wr := [(o0, .inr (6, [.int (nI rf), .ref mw, .int (nI S), .int (nI B), .ref mv, .int (nI nn), .int (nI dr), .ref mm, .ref mn, .int (nI pk), .long ps, .ref mo, .ref mb, .ref mr, .ref mq, .ref mrk, .ref mqk, .long red, .int rdn, .long gen, .int (nI dm), .ref md])), (mw, .inl (G.2.1, 13, .inl (fun zz => nI ((q_w1 w) zz)))), (mv, .inl (G.2.1, 32, .inl vals)), (mm, .inl (G.2.2, 126, .inr (.inl msk))), (mn, .inl (G.2.1, 126, .inl nums)), (mo, .inl (G.2.1, 38, .inl (fun zz => nI (po zz)))), (mb, .inl (G.2.1, 38, .inl pb)), (mr, .inl (G.2.2, 38, .inr (.inl rows))), (mq, .inl (G.2.1, 38, .inl rv)), (mrk, .inl (G.2.2, 38, .inr (.inl rwk))), (mqk, .inl (G.2.1, 38, .inl rvk)), (md, .inl (G.2.1, 38, .inl (fun zz => nI (drw zz))))]) rfl rfl (by decide) rfl hl.1 rfl (Nat.le_of_ble_eq_true rfl) dX6_valueAt_35 ⟨Nat.zero_le _, Nat.zero_le _⟩ [0, 1, 2, 3, 4, 5, 6, 7, 8, 9, 10, 11] (w' := [(o0, .inr (6, [.int (nI rf), .ref mw, .int (nI S), .int (nI B), .ref mv, .int (nI nn), .int (nI dr), .ref mm, .ref mn, .int (nI pk), .long ps, .ref mo, .ref mb, .ref mr, .ref mq, .ref mrk, .ref mqk, .long red, .int rdn, .long gen, .int (nI dm), .ref md])), (mw, .inl (G.2.1, 13, .inl (fun zz => nI ((q_w1 w) zz)))), (mv, .inl (G.2.1, 32, .inl vals)), (mm, .inl (G.2.2, 126, .inr (.inl msk))), (mn, .inl (G.2.1, 126, .inl nums)), (mo, .inl (G.2.1, 38, .inl (fun zz => nI (po zz)))), (mb, .inl (G.2.1, 38, .inl pb)), (mr, .inl (G.2.2, 38, .inr (.inl rows))), (mq, .inl (G.2.1, 38, .inl rv)), (mrk, .inl (G.2.2, 38, .inr (.inl rwk))), (mqk, .inl (G.2.1, 38, .inl rvk)), (md, .inl (G.2.1, 38, .inl (fun zz => nI (drw zz))))]) rfl rfl (fun H locs h => ?_)
          refine q_ifb_eq (tgt := 50) hx hb dX6_valueAt_38 (by decide) (fun z38 => ?_) (fun z38 => ?_)
          · refine lv_iconst (v := nI 0) hx hb dX6_valueAt_50 (by decide) ?_
            refine lv_ixor hx hb dX6_valueAt_51 ?_
            refine lv_istore_n (lv' := [(2, .int (y ^^^ (nI 0))), (3, .int (nI k)), (0, .ref o0), (1, .int (nI b))]) hx hb dX6_valueAt_52 rfl hl (by decide) rfl (fun ls hl => ?_)
            refine lv_iinc (v := nI (k + 1)) (lv' := [(3, .int (nI (k + 1))), (2, .int (y ^^^ (nI 0))), (0, .ref o0), (1, .int (nI b))]) hx hb dX6_valueAt_53 hl (k := 1) rfl (q_inc k) (by decide) rfl (fun ls hl => ?_)
            refine lv_goto (tgt := 19) hx hb dX6_valueAt_56 (by decide) ?_
            exact ih19 (k + 1) (y ^^^ (nI 0)) (by omega) (show (y ^^^ (nI 0)) = q_vm vals S b (k + 1) from (by rw [e_y]; simp [q_vm, z38])) (show (k + 1) ≤ S from (by omega)) _ _ h _ (lv_sub hl [0, 1, 2, 3] rfl)
          · refine lv_aload_n hx hb dX6_valueAt_41 rfl (lv_at hl 2 rfl) ?_
            refine q_get (Cn := RX6) (T := TX6) (N := 22) (ci := 6) (v := .ref mv) C h iX6 0 rfl rfl 4 (by decide) f20 rfl dX6_valueAt_42 ?_
            refine lv_iload_n hx hb dX6_valueAt_45 rfl (lv_at hl 0 rfl) ?_
            refine q_iald (i := k) (v := (vals k)) C h 2 rfl (by omega) (by omega) rfl dX6_valueAt_46 ?_
            refine lv_goto (tgt := 51) hx hb dX6_valueAt_47 (by decide) ?_
            refine lv_ixor hx hb dX6_valueAt_51 ?_
            refine lv_istore_n (lv' := [(2, .int (y ^^^ (vals k))), (3, .int (nI k)), (0, .ref o0), (1, .int (nI b))]) hx hb dX6_valueAt_52 rfl hl (by decide) rfl (fun ls hl => ?_)
            refine lv_iinc (v := nI (k + 1)) (lv' := [(3, .int (nI (k + 1))), (2, .int (y ^^^ (vals k))), (0, .ref o0), (1, .int (nI b))]) hx hb dX6_valueAt_53 hl (k := 1) rfl (q_inc k) (by decide) rfl (fun ls hl => ?_)
            refine lv_goto (tgt := 19) hx hb dX6_valueAt_56 (by decide) ?_
            exact ih19 (k + 1) (y ^^^ (vals k)) (by omega) (show (y ^^^ (vals k)) = q_vm vals S b (k + 1) from (by rw [e_y]; simp [q_vm, z38])) (show (k + 1) ≤ S from (by omega)) _ _ h _ (lv_sub hl [0, 1, 2, 3] rfl)
    exact loop19 (S - 0 + 1) 0 (nI 0) (Nat.lt_succ_self _) (show (nI 0) = q_vm vals S b 0 from rfl) (show 0 ≤ S from (Nat.zero_le _)) _ _ h _ (lv_sub hl [0, 1, 2, 3] rfl)
  · refine lv_aload_n hx hb dX6_valueAt_8 rfl (lv_at hl 0 rfl) ?_
    refine q_get (Cn := RX6) (T := TX6) (N := 22) (ci := 6) (v := .ref mv) C h iX6 0 rfl rfl 4 (by decide) f20 rfl dX6_valueAt_9 ?_
    refine lv_iload_n hx hb dX6_valueAt_12 rfl (lv_at hl 1 rfl) ?_
    refine q_iald (i := b) (v := (vals b)) C h 2 rfl (by omega) (by omega) rfl dX6_valueAt_13 ?_
    exact q_reti C h rfl (by simp [q_va, show b < S from by omega]) rfl dX6_valueAt_14

set_option maxHeartbeats 4000000 in
set_option maxRecDepth 100000 in
theorem c_X6_draw (l : Launch) (G : vq_G) (o0 mw mv mm mn mo mb mr mq mrk mqk md : Nat) (rf S B nn dr pk : Nat) (ps red : Int64) (rdn : Int32) (gen : Int64) (dm : Nat) (w : Nat → Nat) (vals : Nat → Int32) (msk : Nat → Int64) (nums : Nat → Int32) (po : Nat → Nat) (pb : Nat → Int32) (rows : Nat → Int64) (rv : Nat → Int32) (rwk : Nat → Int64) (rvk : Nat → Int32) (drw : Nat → Nat) (n : Nat) (h0 : 0 < n) (hn : n < 2 ^ 31) : vq_i l yX6_draw wsX6_draw 0 0 G [.ref o0, .int (nI n)] [(o0, .inr (6, [.int (nI rf), .ref mw, .int (nI S), .int (nI B), .ref mv, .int (nI nn), .int (nI dr), .ref mm, .ref mn, .int (nI pk), .long ps, .ref mo, .ref mb, .ref mr, .ref mq, .ref mrk, .ref mqk, .long red, .int rdn, .long gen, .int (nI dm), .ref md])), (mw, .inl (G.2.1, 13, .inl (fun zz => nI ((q_w1 w) zz)))), (mv, .inl (G.2.1, 32, .inl vals)), (mm, .inl (G.2.2, 126, .inr (.inl msk))), (mn, .inl (G.2.1, 126, .inl nums)), (mo, .inl (G.2.1, 38, .inl (fun zz => nI (po zz)))), (mb, .inl (G.2.1, 38, .inl pb)), (mr, .inl (G.2.2, 38, .inr (.inl rows))), (mq, .inl (G.2.1, 38, .inl rv)), (mrk, .inl (G.2.2, 38, .inr (.inl rwk))), (mqk, .inl (G.2.1, 38, .inl rvk)), (md, .inl (G.2.1, 38, .inl (fun zz => nI (drw zz))))] (nI (q_hi (q_step gen) % n)) [(o0, .inr (6, [.int (nI rf), .ref mw, .int (nI S), .int (nI B), .ref mv, .int (nI nn), .int (nI dr), .ref mm, .ref mn, .int (nI pk), .long ps, .ref mo, .ref mb, .ref mr, .ref mq, .ref mrk, .ref mqk, .long red, .int rdn, .long (q_step gen), .int (nI dm), .ref md])), (mw, .inl (G.2.1, 13, .inl (fun zz => nI ((q_w1 w) zz)))), (mv, .inl (G.2.1, 32, .inl vals)), (mm, .inl (G.2.2, 126, .inr (.inl msk))), (mn, .inl (G.2.1, 126, .inl nums)), (mo, .inl (G.2.1, 38, .inl (fun zz => nI (po zz)))), (mb, .inl (G.2.1, 38, .inl pb)), (mr, .inl (G.2.2, 38, .inr (.inl rows))), (mq, .inl (G.2.1, 38, .inl rv)), (mrk, .inl (G.2.2, 38, .inr (.inl rwk))), (mqk, .inl (G.2.1, 38, .inl rvk)), (md, .inl (G.2.1, 38, .inl (fun zz => nI (drw zz))))] := by
  refine vq_openi (cc := cX6_draw) (maxL := 2) (ret := (some .int)) (Ts' := wsX6_draw.tail) (by decide) rfl (Nat.le_of_ble_eq_true rfl) ?_
  intro p e s m args below meth c A ls C h hnm hl
  have hx := C.1.1
  have hb := C.1.2.1
  have hts := C.1.2.2.2.2
  have hl : lv_has ls 2 [(0, .ref o0), (1, .int (nI n))] := hl
  have f85 := C.1.2.2.2.2 (.fieldLink RX6 85 "FountainCodeModel" "generator" "J") (by decide +kernel)
  have iX6 : ∀ w ∈ u_ws RX6 TX6 22, w ∈ wsX6_draw := by decide +kernel
  have k88 := C.1.2.2.2.2 (.constantLong RX6 88 (6364136223846793005)) (by decide +kernel)
  have k90 := C.1.2.2.2.2 (.constantLong RX6 90 (1442695040888963407)) (by decide +kernel)
  refine lv_aload_n hx hb dX6_draw_0 rfl (lv_at hl 0 rfl) ?_
  refine lv_aload_n hx hb dX6_draw_1 rfl (lv_at hl 0 rfl) ?_
  refine q_get (Cn := RX6) (T := TX6) (N := 22) (ci := 6) (v := .long gen) C h iX6 0 rfl rfl 19 (by decide) f85 rfl dX6_draw_2 ?_
  refine q_ldc2 C k88 dX6_draw_5 ?_
  refine lv_lmul hx hb dX6_draw_8 ?_
  refine q_ldc2 C k90 dX6_draw_9 ?_
  refine lv_ladd hx hb dX6_draw_12 ?_
  refine q_top (v' := .long (q_step gen)) rfl ?_
  refine q_put (Cn := RX6) (T := TX6) (N := 22) (ci := 6) (v := .long (q_step gen)) (w' := [(o0, .inr (6, [.int (nI rf), .ref mw, .int (nI S), .int (nI B), .ref mv, .int (nI nn), .int (nI dr), .ref mm, .ref mn, .int (nI pk), .long ps, .ref mo, .ref mb, .ref mr, .ref mq, .ref mrk, .ref mqk, .long red, .int rdn, .long (q_step gen), .int (nI dm), .ref md])), (mw, .inl (G.2.1, 13, .inl (fun zz => nI ((q_w1 w) zz)))), (mv, .inl (G.2.1, 32, .inl vals)), (mm, .inl (G.2.2, 126, .inr (.inl msk))), (mn, .inl (G.2.1, 126, .inl nums)), (mo, .inl (G.2.1, 38, .inl (fun zz => nI (po zz)))), (mb, .inl (G.2.1, 38, .inl pb)), (mr, .inl (G.2.2, 38, .inr (.inl rows))), (mq, .inl (G.2.1, 38, .inl rv)), (mrk, .inl (G.2.2, 38, .inr (.inl rwk))), (mqk, .inl (G.2.1, 38, .inl rvk)), (md, .inl (G.2.1, 38, .inl (fun zz => nI (drw zz))))]) C h iX6 tyX6 tyX6_ok nmX6 0 rfl rfl 19 (by decide) f85 rfl rfl rfl (Nat.le_of_ble_eq_true rfl) dX6_draw_13 rfl (fun H locs h => ?_)
  refine lv_aload_n hx hb dX6_draw_16 rfl (lv_at hl 0 rfl) ?_
  refine q_get (Cn := RX6) (T := TX6) (N := 22) (ci := 6) (v := .long (q_step gen)) C h iX6 0 rfl rfl 19 (by decide) f85 rfl dX6_draw_17 ?_
  refine lv_bipush (v := nI 33) hx hb dX6_draw_20 (by decide) ?_
  refine lv_lushr (v := lN (q_hi (q_step gen))) hx hb dX6_draw_22 (q_ushr33 _) ?_
  refine lv_iload_n hx hb dX6_draw_23 rfl (lv_at hl 1 rfl) ?_
  refine lv_i2l (v := lN n) hx hb dX6_draw_24 (nI_l hn) ?_
  refine lv_lrem hx hb dX6_draw_25 (q_lN0 h0 hn) ?_
  refine q_top (v' := .long (lN (q_hi (q_step gen) % n))) (congrArg Value.long (pk_lRem (Nat.lt_trans (q_hi_lt _) (by decide)) h0 (Nat.lt_trans hn (by decide)))) ?_
  refine lv_l2i (v := nI (q_hi (q_step gen) % n)) hx hb dX6_draw_26 (lN_i _) ?_
  exact q_reti C h rfl rfl rfl dX6_draw_27

set_option maxHeartbeats 4000000 in
set_option maxRecDepth 100000 in
theorem c_X6_drawDrop (l : Launch) (G : vq_G) (o0 mw mv mm mn mo mb mr mq mrk mqk md : Nat) (rf S B nn dr pk : Nat) (ps red : Int64) (rdn : Int32) (gen : Int64) (dm : Nat) (w : Nat → Nat) (vals : Nat → Int32) (msk : Nat → Int64) (nums : Nat → Int32) (po : Nat → Nat) (pb : Nat → Int32) (rows : Nat → Int64) (rv : Nat → Int32) (rwk : Nat → Int64) (rvk : Nat → Int32) (drw : Nat → Nat) (num : Int32) (hW : ∀ j, w j ≤ 1000) (hs : 0 < q_sum w 12) (hS1 : 1 ≤ S) (hS : S ≤ 32) (hSB : S ≤ B) (hB : B ≤ S + 6) : vq_v l yX6_drawDrop wsX6_drawDrop 1 21 G [.ref o0, .int num] [(o0, .inr (6, [.int (nI rf), .ref mw, .int (nI S), .int (nI B), .ref mv, .int (nI nn), .int (nI dr), .ref mm, .ref mn, .int (nI pk), .long ps, .ref mo, .ref mb, .ref mr, .ref mq, .ref mrk, .ref mqk, .long red, .int rdn, .long gen, .int (nI dm), .ref md])), (mw, .inl (G.2.1, 13, .inl (fun zz => nI ((q_w1 w) zz)))), (mv, .inl (G.2.1, 32, .inl vals)), (mm, .inl (G.2.2, 126, .inr (.inl msk))), (mn, .inl (G.2.1, 126, .inl nums)), (mo, .inl (G.2.1, 38, .inl (fun zz => nI (po zz)))), (mb, .inl (G.2.1, 38, .inl pb)), (mr, .inl (G.2.2, 38, .inr (.inl rows))), (mq, .inl (G.2.1, 38, .inl rv)), (mrk, .inl (G.2.2, 38, .inr (.inl rwk))), (mqk, .inl (G.2.1, 38, .inl rvk)), (md, .inl (G.2.1, 38, .inl (fun zz => nI (drw zz))))]  [(o0, .inr (6, [.int (nI rf), .ref mw, .int (nI S), .int (nI B), .ref mv, .int (nI nn), .int (nI dr), .ref mm, .ref mn, .int (nI pk), .long ps, .ref mo, .ref mb, .ref mr, .ref mq, .ref mrk, .ref mqk, .long red, .int rdn, .long (q_gen w B num), .int (nI (q_sz w B num)), .ref md])), (mw, .inl (G.2.1, 13, .inl (fun zz => nI ((q_w1 w) zz)))), (mv, .inl (G.2.1, 32, .inl vals)), (mm, .inl (G.2.2, 126, .inr (.inl msk))), (mn, .inl (G.2.1, 126, .inl nums)), (mo, .inl (G.2.1, 38, .inl (fun zz => nI (po zz)))), (mb, .inl (G.2.1, 38, .inl pb)), (mr, .inl (G.2.2, 38, .inr (.inl rows))), (mq, .inl (G.2.1, 38, .inl rv)), (mrk, .inl (G.2.2, 38, .inr (.inl rwk))), (mqk, .inl (G.2.1, 38, .inl rvk)), (md, .inl (G.2.1, 38, .inl (fun zz => nI ((q_rowS drw w B num) zz))))] := by
  refine vq_openv (cc := cX6_drawDrop) (maxL := 9) (ret := none) (Ts' := wsX6_drawDrop.tail) (by decide) rfl (Nat.le_of_ble_eq_true rfl) ?_
  intro p e s m args below meth c A ls C h hnm hl
  have hx := C.1.1
  have hb := C.1.2.1
  have hts := C.1.2.2.2.2
  have hl : lv_has ls 9 [(0, .ref o0), (1, .int num)] := hl
  have f85 := C.1.2.2.2.2 (.fieldLink RX6 85 "FountainCodeModel" "generator" "J") (by decide +kernel)
  have iX6 : ∀ w ∈ u_ws RX6 TX6 22, w ∈ wsX6_drawDrop := by decide +kernel
  have f17 := C.1.2.2.2.2 (.fieldLink RX6 17 "FountainCodeModel" "blocks" "I") (by decide +kernel)
  have f96 := C.1.2.2.2.2 (.fieldLink RX6 96 "FountainCodeModel" "drawnMany" "I") (by decide +kernel)
  have f48 := C.1.2.2.2.2 (.fieldLink RX6 48 "FountainCodeModel" "drawn" "[I") (by decide +kernel)
  have f7 := C.1.2.2.2.2 (.fieldLink RX6 7 "FountainCodeModel" "weights" "[I") (by decide +kernel)
  refine lv_aload_n hx hb dX6_drawDrop_0 rfl (lv_at hl 0 rfl) ?_
  refine lv_iload_n hx hb dX6_drawDrop_1 rfl (lv_at hl 1 rfl) ?_
  refine lv_i2l (v := num.toInt64) hx hb dX6_drawDrop_2 rfl ?_
  refine q_put (Cn := RX6) (T := TX6) (N := 22) (ci := 6) (v := .long num.toInt64) (w' := [(o0, .inr (6, [.int (nI rf), .ref mw, .int (nI S), .int (nI B), .ref mv, .int (nI nn), .int (nI dr), .ref mm, .ref mn, .int (nI pk), .long ps, .ref mo, .ref mb, .ref mr, .ref mq, .ref mrk, .ref mqk, .long red, .int rdn, .long num.toInt64, .int (nI dm), .ref md])), (mw, .inl (G.2.1, 13, .inl (fun zz => nI ((q_w1 w) zz)))), (mv, .inl (G.2.1, 32, .inl vals)), (mm, .inl (G.2.2, 126, .inr (.inl msk))), (mn, .inl (G.2.1, 126, .inl nums)), (mo, .inl (G.2.1, 38, .inl (fun zz => nI (po zz)))), (mb, .inl (G.2.1, 38, .inl pb)), (mr, .inl (G.2.2, 38, .inr (.inl rows))), (mq, .inl (G.2.1, 38, .inl rv)), (mrk, .inl (G.2.2, 38, .inr (.inl rwk))), (mqk, .inl (G.2.1, 38, .inl rvk)), (md, .inl (G.2.1, 38, .inl (fun zz => nI (drw zz))))]) C h iX6 tyX6 tyX6_ok nmX6 0 rfl rfl 19 (by decide) f85 rfl rfl rfl (Nat.le_of_ble_eq_true rfl) dX6_drawDrop_3 rfl (fun H locs h => ?_)
  refine lv_iconst (v := nI 0) hx hb dX6_drawDrop_6 (by decide) ?_
  refine lv_istore_n (lv' := [(2, .int (nI 0)), (0, .ref o0), (1, .int num)]) hx hb dX6_drawDrop_7 rfl hl (by decide) rfl (fun ls hl => ?_)
  refine lv_iconst (v := nI 1) hx hb dX6_drawDrop_8 (by decide) ?_
  refine lv_istore_n (lv' := [(3, .int (nI 1)), (2, .int (nI 0)), (0, .ref o0), (1, .int num)]) hx hb dX6_drawDrop_9 rfl hl (by decide) rfl (fun ls hl => ?_)
  have loop10 : ∀ (fu : Nat) (k : Nat) (y : Nat), 13 - k < fu → y = q_sum w (k - 1) → (k ≤ 13) → (1 ≤ k) → ∀ (H : Heap) (locs : List Loc), vq_H G A s [(o0, .inr (6, [.int (nI rf), .ref mw, .int (nI S), .int (nI B), .ref mv, .int (nI nn), .int (nI dr), .ref mm, .ref mn, .int (nI pk), .long ps, .ref mo, .ref mb, .ref mr, .ref mq, .ref mrk, .ref mqk, .long red, .int rdn, .long num.toInt64, .int (nI dm), .ref md])), (mw, .inl (G.2.1, 13, .inl (fun zz => nI ((q_w1 w) zz)))), (mv, .inl (G.2.1, 32, .inl vals)), (mm, .inl (G.2.2, 126, .inr (.inl msk))), (mn, .inl (G.2.1, 126, .inl nums)), (mo, .inl (G.2.1, 38, .inl (fun zz => nI (po zz)))), (mb, .inl (G.2.1, 38, .inl pb)), (mr, .inl (G.2.2, 38, .inr (.inl rows))), (mq, .inl (G.2.1, 38, .inl rv)), (mrk, .inl (G.2.2, 38, .inr (.inl rwk))), (mqk, .inl (G.2.1, 38, .inl rvk)), (md, .inl (G.2.1, 38, .inl (fun zz => nI (drw zz))))] H locs → ∀ (ls : Array Slot), lv_has ls 9 [(3, .int (nI k)), (2, .int (nI y)), (0, .ref o0), (1, .int num)] → W p l e ({ frames := 1, cells := 0, slots := 0, locals := 21 } : Room) s m args below meth c H locs 0 0 (MQ below (va_Qv (fun (_ : Unit) => True) (fun _ => vq_T G A [(o0, .inr (6, [.int (nI rf), .ref mw, .int (nI S), .int (nI B), .ref mv, .int (nI nn), .int (nI dr), .ref mm, .ref mn, .int (nI pk), .long ps, .ref mo, .ref mb, .ref mr, .ref mq, .ref mrk, .ref mqk, .long red, .int rdn, .long (q_gen w B num), .int (nI (q_sz w B num)), .ref md])), (mw, .inl (G.2.1, 13, .inl (fun zz => nI ((q_w1 w) zz)))), (mv, .inl (G.2.1, 32, .inl vals)), (mm, .inl (G.2.2, 126, .inr (.inl msk))), (mn, .inl (G.2.1, 126, .inl nums)), (mo, .inl (G.2.1, 38, .inl (fun zz => nI (po zz)))), (mb, .inl (G.2.1, 38, .inl pb)), (mr, .inl (G.2.2, 38, .inr (.inl rows))), (mq, .inl (G.2.1, 38, .inl rv)), (mrk, .inl (G.2.2, 38, .inr (.inl rwk))), (mqk, .inl (G.2.1, 38, .inl rvk)), (md, .inl (G.2.1, 38, .inl (fun zz => nI ((q_rowS drw w B num) zz))))]) A) args s 0 0 A) (F0 m 10 ls []) := by
    intro fu
    induction fu with
    | zero => exact fun k y hm => absurd hm (Nat.not_lt_zero _)
    | succ fu ih =>
      intro k y hm10 e_y hk hk1 H locs h ls hl
      have ih10 := ih
      clear ih
      refine lv_iload_n hx hb dX6_drawDrop_10 rfl (lv_at hl 0 rfl) ?_
      refine lv_bipush (v := nI 12) hx hb dX6_drawDrop_11 (by decide) ?_
      refine q_icmp_gt (tgt := 31) hx hb (by omega) (by omega) dX6_drawDrop_13 (by decide) (fun z13 => ?_) (fun z13 => ?_)
      · have hy : y = q_sum w 12 := by rw [e_y, show k - 1 = 12 from by omega]
        have hsm := q_sum_le hW 12
        refine lv_aload_n hx hb dX6_drawDrop_31 rfl (lv_at hl 2 rfl) ?_
        refine lv_iload_n hx hb dX6_drawDrop_32 rfl (lv_at hl 1 rfl) ?_
        refine q_callVi C h (c_X6_draw l G o0 mw mv mm mn mo mb mr mq mrk mqk md rf S B nn dr pk ps red rdn num.toInt64 dm w vals msk nums po pb rows rv rwk rvk drw y (by rw [hy]; exact hs) (by omega)) (cwV 1 hts gX6_drawDrop_X6_draw rfl rfl rfl (by decide +kernel) ⟨Nat.le_of_ble_eq_true rfl, Nat.le_of_ble_eq_true rfl⟩) [0, 1, 2, 3, 4, 5, 6, 7, 8, 9, 10, 11] rfl rfl [] (wr := []) rfl rfl (by decide) 0 rfl rfl rfl hl.1 rfl (Nat.le_of_ble_eq_true rfl) dX6_drawDrop_33 ⟨Nat.zero_le _, Nat.zero_le _⟩ [0, 1, 2, 3, 4, 5, 6, 7, 8, 9, 10, 11] (w' := [(o0, .inr (6, [.int (nI rf), .ref mw, .int (nI S), .int (nI B), .ref mv, .int (nI nn), .int (nI dr), .ref mm, .ref mn, .int (nI pk), .long ps, .ref mo, .ref mb, .ref mr, .ref mq, .ref mrk, .ref mqk, .long red, .int rdn, .long (q_step num.toInt64), .int (nI dm), .ref md])), (mw, .inl (G.2.1, 13, .inl (fun zz => nI ((q_w1 w) zz)))), (mv, .inl (G.2.1, 32, .inl vals)), (mm, .inl (G.2.2, 126, .inr (.inl msk))), (mn, .inl (G.2.1, 126, .inl nums)), (mo, .inl (G.2.1, 38, .inl (fun zz => nI (po zz)))), (mb, .inl (G.2.1, 38, .inl pb)), (mr, .inl (G.2.2, 38, .inr (.inl rows))), (mq, .inl (G.2.1, 38, .inl rv)), (mrk, .inl (G.2.2, 38, .inr (.inl rwk))), (mqk, .inl (G.2.1, 38, .inl rvk)), (md, .inl (G.2.1, 38, .inl (fun zz => nI (drw zz))))]) rfl rfl (fun H locs h => ?_)
        refine q_top (v' := .int (nI (q_hi (q_g0 num) % q_sum w 12))) (by rw [hy]; rfl) ?_
        refine lv_istore_n (lv' := [(3, .int (nI (q_hi (q_g0 num) % q_sum w 12))), (2, .int (nI y)), (0, .ref o0), (1, .int num)]) hx hb dX6_drawDrop_36 rfl hl (by decide) rfl (fun ls hl => ?_)
        refine lv_iconst (v := nI 0) hx hb dX6_drawDrop_37 (by decide) ?_
        refine lv_istore (lv' := [(4, .int (nI 0)), (3, .int (nI (q_hi (q_g0 num) % q_sum w 12))), (2, .int (nI y)), (0, .ref o0), (1, .int num)]) hx hb dX6_drawDrop_38 hl (by decide) rfl (fun ls hl => ?_)
        refine lv_iconst (v := nI 0) hx hb dX6_drawDrop_40 (by decide) ?_
        refine lv_istore (lv' := [(5, .int (nI 0)), (4, .int (nI 0)), (3, .int (nI (q_hi (q_g0 num) % q_sum w 12))), (2, .int (nI y)), (0, .ref o0), (1, .int num)]) hx hb dX6_drawDrop_41 hl (by decide) rfl (fun ls hl => ?_)
        have loop43 : ∀ (fu : Nat) (d : Nat) (yy : Nat), 12 - d < fu → yy = q_sum w d → (d ≤ 12) → (∀ j, j < d → q_sum w j ≤ q_hi (q_g0 num) % q_sum w 12) → ∀ (H : Heap) (locs : List Loc), vq_H G A s [(o0, .inr (6, [.int (nI rf), .ref mw, .int (nI S), .int (nI B), .ref mv, .int (nI nn), .int (nI dr), .ref mm, .ref mn, .int (nI pk), .long ps, .ref mo, .ref mb, .ref mr, .ref mq, .ref mrk, .ref mqk, .long red, .int rdn, .long (q_step num.toInt64), .int (nI dm), .ref md])), (mw, .inl (G.2.1, 13, .inl (fun zz => nI ((q_w1 w) zz)))), (mv, .inl (G.2.1, 32, .inl vals)), (mm, .inl (G.2.2, 126, .inr (.inl msk))), (mn, .inl (G.2.1, 126, .inl nums)), (mo, .inl (G.2.1, 38, .inl (fun zz => nI (po zz)))), (mb, .inl (G.2.1, 38, .inl pb)), (mr, .inl (G.2.2, 38, .inr (.inl rows))), (mq, .inl (G.2.1, 38, .inl rv)), (mrk, .inl (G.2.2, 38, .inr (.inl rwk))), (mqk, .inl (G.2.1, 38, .inl rvk)), (md, .inl (G.2.1, 38, .inl (fun zz => nI (drw zz))))] H locs → ∀ (ls : Array Slot), lv_has ls 9 [(5, .int (nI yy)), (4, .int (nI d)), (3, .int (nI (q_hi (q_g0 num) % q_sum w 12))), (2, .int (nI y)), (0, .ref o0), (1, .int num)] → W p l e ({ frames := 1, cells := 0, slots := 0, locals := 21 } : Room) s m args below meth c H locs 0 0 (MQ below (va_Qv (fun (_ : Unit) => True) (fun _ => vq_T G A [(o0, .inr (6, [.int (nI rf), .ref mw, .int (nI S), .int (nI B), .ref mv, .int (nI nn), .int (nI dr), .ref mm, .ref mn, .int (nI pk), .long ps, .ref mo, .ref mb, .ref mr, .ref mq, .ref mrk, .ref mqk, .long red, .int rdn, .long (q_gen w B num), .int (nI (q_sz w B num)), .ref md])), (mw, .inl (G.2.1, 13, .inl (fun zz => nI ((q_w1 w) zz)))), (mv, .inl (G.2.1, 32, .inl vals)), (mm, .inl (G.2.2, 126, .inr (.inl msk))), (mn, .inl (G.2.1, 126, .inl nums)), (mo, .inl (G.2.1, 38, .inl (fun zz => nI (po zz)))), (mb, .inl (G.2.1, 38, .inl pb)), (mr, .inl (G.2.2, 38, .inr (.inl rows))), (mq, .inl (G.2.1, 38, .inl rv)), (mrk, .inl (G.2.2, 38, .inr (.inl rwk))), (mqk, .inl (G.2.1, 38, .inl rvk)), (md, .inl (G.2.1, 38, .inl (fun zz => nI ((q_rowS drw w B num) zz))))]) A) args s 0 0 A) (F0 m 43 ls []) := by
          intro fu
          induction fu with
          | zero => exact fun d yy hm => absurd hm (Nat.not_lt_zero _)
          | succ fu ih =>
            intro d yy hm43 e_yy hd hall H locs h ls hl
            have ih43 := ih
            clear ih
            refine lv_iload hx hb dX6_drawDrop_43 (lv_at hl 0 rfl) ?_
            refine lv_iload_n hx hb dX6_drawDrop_45 rfl (lv_at hl 2 rfl) ?_
            refine q_icmp_gt (tgt := 67) hx hb (by have := q_sum_le hW d; omega) (by have := Nat.mod_lt (q_hi (q_g0 num)) hs; omega) dX6_drawDrop_46 (by decide) (fun z46 => ?_) (fun z46 => ?_)
            · have hdg : q_deg w (q_hi (q_g0 num) % q_sum w 12) = d := q_deg_eq (by omega) hall
              refine lv_aload_n hx hb dX6_drawDrop_67 rfl (lv_at hl 4 rfl) ?_
              refine lv_iload hx hb dX6_drawDrop_68 (lv_at hl 1 rfl) ?_
              refine lv_aload_n hx hb dX6_drawDrop_70 rfl (lv_at hl 4 rfl) ?_
              refine q_get (Cn := RX6) (T := TX6) (N := 22) (ci := 6) (v := .int (nI B)) C h iX6 0 rfl rfl 3 (by decide) f17 rfl dX6_drawDrop_71 ?_
              refine q_icmp_ge (tgt := 82) hx hb (by omega) (by omega) dX6_drawDrop_74 (by decide) (fun z74 => ?_) (fun z74 => ?_)
              · have hsz : min (q_deg w (q_hi (q_g0 num) % q_sum w 12)) B = B := by rw [hdg]; omega
                have hz := q_sz_le w B num
                refine lv_aload_n hx hb dX6_drawDrop_82 rfl (lv_at hl 4 rfl) ?_
                refine q_get (Cn := RX6) (T := TX6) (N := 22) (ci := 6) (v := .int (nI B)) C h iX6 0 rfl rfl 3 (by decide) f17 rfl dX6_drawDrop_83 ?_
                refine q_top (v' := .int (nI (q_sz w B num))) (congrArg (fun t => Value.int (nI t)) hsz.symm) ?_
                refine q_put (Cn := RX6) (T := TX6) (N := 22) (ci := 6) (v := .int (nI (q_sz w B num))) (w' := [(o0, .inr (6, [.int (nI rf), .ref mw, .int (nI S), .int (nI B), .ref mv, .int (nI nn), .int (nI dr), .ref mm, .ref mn, .int (nI pk), .long ps, .ref mo, .ref mb, .ref mr, .ref mq, .ref mrk, .ref mqk, .long red, .int rdn, .long (q_step num.toInt64), .int (nI (q_sz w B num)), .ref md])), (mw, .inl (G.2.1, 13, .inl (fun zz => nI ((q_w1 w) zz)))), (mv, .inl (G.2.1, 32, .inl vals)), (mm, .inl (G.2.2, 126, .inr (.inl msk))), (mn, .inl (G.2.1, 126, .inl nums)), (mo, .inl (G.2.1, 38, .inl (fun zz => nI (po zz)))), (mb, .inl (G.2.1, 38, .inl pb)), (mr, .inl (G.2.2, 38, .inr (.inl rows))), (mq, .inl (G.2.1, 38, .inl rv)), (mrk, .inl (G.2.2, 38, .inr (.inl rwk))), (mqk, .inl (G.2.1, 38, .inl rvk)), (md, .inl (G.2.1, 38, .inl (fun zz => nI (drw zz))))]) C h iX6 tyX6 tyX6_ok nmX6 0 rfl rfl 20 (by decide) f96 rfl rfl rfl (Nat.le_of_ble_eq_true rfl) dX6_drawDrop_86 rfl (fun H locs h => ?_)
                refine lv_iconst (v := nI 0) hx hb dX6_drawDrop_89 (by decide) ?_
                refine lv_istore (lv' := [(6, .int (nI 0)), (5, .int (nI yy)), (4, .int (nI d)), (3, .int (nI (q_hi (q_g0 num) % q_sum w 12))), (2, .int (nI y)), (0, .ref o0), (1, .int num)]) hx hb dX6_drawDrop_90 hl (by decide) rfl (fun ls hl => ?_)
                have loop92 : ∀ (fu : Nat) (kk : Nat) (ro : Nat → Nat), B - kk < fu → ro = q_line drw kk → (kk ≤ B) → ∀ (H : Heap) (locs : List Loc), vq_H G A s [(o0, .inr (6, [.int (nI rf), .ref mw, .int (nI S), .int (nI B), .ref mv, .int (nI nn), .int (nI dr), .ref mm, .ref mn, .int (nI pk), .long ps, .ref mo, .ref mb, .ref mr, .ref mq, .ref mrk, .ref mqk, .long red, .int rdn, .long (q_step num.toInt64), .int (nI (q_sz w B num)), .ref md])), (mw, .inl (G.2.1, 13, .inl (fun zz => nI ((q_w1 w) zz)))), (mv, .inl (G.2.1, 32, .inl vals)), (mm, .inl (G.2.2, 126, .inr (.inl msk))), (mn, .inl (G.2.1, 126, .inl nums)), (mo, .inl (G.2.1, 38, .inl (fun zz => nI (po zz)))), (mb, .inl (G.2.1, 38, .inl pb)), (mr, .inl (G.2.2, 38, .inr (.inl rows))), (mq, .inl (G.2.1, 38, .inl rv)), (mrk, .inl (G.2.2, 38, .inr (.inl rwk))), (mqk, .inl (G.2.1, 38, .inl rvk)), (md, .inl (G.2.1, 38, .inl (fun zz => nI (ro zz))))] H locs → ∀ (ls : Array Slot), lv_has ls 9 [(6, .int (nI kk)), (5, .int (nI yy)), (4, .int (nI d)), (3, .int (nI (q_hi (q_g0 num) % q_sum w 12))), (2, .int (nI y)), (0, .ref o0), (1, .int num)] → W p l e ({ frames := 1, cells := 0, slots := 0, locals := 21 } : Room) s m args below meth c H locs 0 0 (MQ below (va_Qv (fun (_ : Unit) => True) (fun _ => vq_T G A [(o0, .inr (6, [.int (nI rf), .ref mw, .int (nI S), .int (nI B), .ref mv, .int (nI nn), .int (nI dr), .ref mm, .ref mn, .int (nI pk), .long ps, .ref mo, .ref mb, .ref mr, .ref mq, .ref mrk, .ref mqk, .long red, .int rdn, .long (q_gen w B num), .int (nI (q_sz w B num)), .ref md])), (mw, .inl (G.2.1, 13, .inl (fun zz => nI ((q_w1 w) zz)))), (mv, .inl (G.2.1, 32, .inl vals)), (mm, .inl (G.2.2, 126, .inr (.inl msk))), (mn, .inl (G.2.1, 126, .inl nums)), (mo, .inl (G.2.1, 38, .inl (fun zz => nI (po zz)))), (mb, .inl (G.2.1, 38, .inl pb)), (mr, .inl (G.2.2, 38, .inr (.inl rows))), (mq, .inl (G.2.1, 38, .inl rv)), (mrk, .inl (G.2.2, 38, .inr (.inl rwk))), (mqk, .inl (G.2.1, 38, .inl rvk)), (md, .inl (G.2.1, 38, .inl (fun zz => nI ((q_rowS drw w B num) zz))))]) A) args s 0 0 A) (F0 m 92 ls []) := by
                  intro fu
                  induction fu with
                  | zero => exact fun kk ro hm => absurd hm (Nat.not_lt_zero _)
                  | succ fu ih =>
                    intro kk ro hm92 e_ro hkk H locs h ls hl
                    have ih92 := ih
                    clear ih
                    refine lv_iload hx hb dX6_drawDrop_92 (lv_at hl 0 rfl) ?_
                    refine lv_aload_n hx hb dX6_drawDrop_94 rfl (lv_at hl 5 rfl) ?_
                    refine q_get (Cn := RX6) (T := TX6) (N := 22) (ci := 6) (v := .int (nI B)) C h iX6 0 rfl rfl 3 (by decide) f17 rfl dX6_drawDrop_95 ?_
                    refine q_icmp_ge (tgt := 116) hx hb (by omega) (by omega) dX6_drawDrop_98 (by decide) (fun z98 => ?_) (fun z98 => ?_)
                    · refine lv_iconst (v := nI 0) hx hb dX6_drawDrop_116 (by decide) ?_
                      refine lv_istore (lv' := [(6, .int (nI 0)), (5, .int (nI yy)), (4, .int (nI d)), (3, .int (nI (q_hi (q_g0 num) % q_sum w 12))), (2, .int (nI y)), (0, .ref o0), (1, .int num)]) hx hb dX6_drawDrop_117 hl (by decide) rfl (fun ls hl => ?_)
                      have loop119 : ∀ (fu : Nat) (k2 : Nat) (r2 : Nat → Nat) (g2 : Int64), q_sz w B num - k2 < fu → r2 = (q_dr B (q_line drw B) (q_g0 num) k2).1 → g2 = (q_dr B (q_line drw B) (q_g0 num) k2).2 → (k2 ≤ q_sz w B num) → ∀ (H : Heap) (locs : List Loc), vq_H G A s [(o0, .inr (6, [.int (nI rf), .ref mw, .int (nI S), .int (nI B), .ref mv, .int (nI nn), .int (nI dr), .ref mm, .ref mn, .int (nI pk), .long ps, .ref mo, .ref mb, .ref mr, .ref mq, .ref mrk, .ref mqk, .long red, .int rdn, .long g2, .int (nI (q_sz w B num)), .ref md])), (mw, .inl (G.2.1, 13, .inl (fun zz => nI ((q_w1 w) zz)))), (mv, .inl (G.2.1, 32, .inl vals)), (mm, .inl (G.2.2, 126, .inr (.inl msk))), (mn, .inl (G.2.1, 126, .inl nums)), (mo, .inl (G.2.1, 38, .inl (fun zz => nI (po zz)))), (mb, .inl (G.2.1, 38, .inl pb)), (mr, .inl (G.2.2, 38, .inr (.inl rows))), (mq, .inl (G.2.1, 38, .inl rv)), (mrk, .inl (G.2.2, 38, .inr (.inl rwk))), (mqk, .inl (G.2.1, 38, .inl rvk)), (md, .inl (G.2.1, 38, .inl (fun zz => nI (r2 zz))))] H locs → ∀ (ls : Array Slot), lv_has ls 9 [(6, .int (nI k2)), (0, .ref o0), (1, .int num)] → W p l e ({ frames := 1, cells := 0, slots := 0, locals := 21 } : Room) s m args below meth c H locs 0 0 (MQ below (va_Qv (fun (_ : Unit) => True) (fun _ => vq_T G A [(o0, .inr (6, [.int (nI rf), .ref mw, .int (nI S), .int (nI B), .ref mv, .int (nI nn), .int (nI dr), .ref mm, .ref mn, .int (nI pk), .long ps, .ref mo, .ref mb, .ref mr, .ref mq, .ref mrk, .ref mqk, .long red, .int rdn, .long (q_gen w B num), .int (nI (q_sz w B num)), .ref md])), (mw, .inl (G.2.1, 13, .inl (fun zz => nI ((q_w1 w) zz)))), (mv, .inl (G.2.1, 32, .inl vals)), (mm, .inl (G.2.2, 126, .inr (.inl msk))), (mn, .inl (G.2.1, 126, .inl nums)), (mo, .inl (G.2.1, 38, .inl (fun zz => nI (po zz)))), (mb, .inl (G.2.1, 38, .inl pb)), (mr, .inl (G.2.2, 38, .inr (.inl rows))), (mq, .inl (G.2.1, 38, .inl rv)), (mrk, .inl (G.2.2, 38, .inr (.inl rwk))), (mqk, .inl (G.2.1, 38, .inl rvk)), (md, .inl (G.2.1, 38, .inl (fun zz => nI ((q_rowS drw w B num) zz))))]) A) args s 0 0 A) (F0 m 119 ls []) := by
                        intro fu
                        induction fu with
                        | zero => exact fun k2 r2 g2 hm => absurd hm (Nat.not_lt_zero _)
                        | succ fu ih =>
                          intro k2 r2 g2 hm119 e_r2 e_g2 hk2 H locs h ls hl
                          have ih119 := ih
                          clear ih
                          refine lv_iload hx hb dX6_drawDrop_119 (lv_at hl 0 rfl) ?_
                          refine lv_aload_n hx hb dX6_drawDrop_121 rfl (lv_at hl 1 rfl) ?_
                          refine q_get (Cn := RX6) (T := TX6) (N := 22) (ci := 6) (v := .int (nI (q_sz w B num))) C h iX6 0 rfl rfl 20 (by decide) f96 rfl dX6_drawDrop_122 ?_
                          refine q_icmp_ge (tgt := 182) hx hb (by omega) (by omega) dX6_drawDrop_125 (by decide) (fun z125 => ?_) (fun z125 => ?_)
                          · exact q_retv C h rfl (by rw [e_r2, e_g2, show k2 = q_sz w B num from by omega, q_gen_S]; rfl) dX6_drawDrop_182
                          · have hq : q_hi (q_step g2) % (B - k2) < B - k2 := Nat.mod_lt _ (by omega)
                            refine lv_iload hx hb dX6_drawDrop_128 (lv_at hl 0 rfl) ?_
                            refine lv_aload_n hx hb dX6_drawDrop_130 rfl (lv_at hl 1 rfl) ?_
                            refine lv_aload_n hx hb dX6_drawDrop_131 rfl (lv_at hl 1 rfl) ?_
                            refine q_get (Cn := RX6) (T := TX6) (N := 22) (ci := 6) (v := .int (nI B)) C h iX6 0 rfl rfl 3 (by decide) f17 rfl dX6_drawDrop_132 ?_
                            refine lv_iload hx hb dX6_drawDrop_135 (lv_at hl 0 rfl) ?_
                            refine q_isub hx hb (by omega) dX6_drawDrop_137 ?_
                            refine q_callVi C h (c_X6_draw l G o0 mw mv mm mn mo mb mr mq mrk mqk md rf S B nn dr pk ps red rdn g2 (q_sz w B num) w vals msk nums po pb rows rv rwk rvk r2 (B - k2) (by omega) (by omega)) (cwV 1 hts gX6_drawDrop_X6_draw rfl rfl rfl (by decide +kernel) ⟨Nat.le_of_ble_eq_true rfl, Nat.le_of_ble_eq_true rfl⟩) [0, 1, 2, 3, 4, 5, 6, 7, 8, 9, 10, 11] rfl rfl [] (wr := []) rfl rfl (by decide) 0 rfl rfl rfl hl.1 rfl (Nat.le_of_ble_eq_true rfl) dX6_drawDrop_138 ⟨Nat.zero_le _, Nat.zero_le _⟩ [0, 1, 2, 3, 4, 5, 6, 7, 8, 9, 10, 11] (w' := [(o0, .inr (6, [.int (nI rf), .ref mw, .int (nI S), .int (nI B), .ref mv, .int (nI nn), .int (nI dr), .ref mm, .ref mn, .int (nI pk), .long ps, .ref mo, .ref mb, .ref mr, .ref mq, .ref mrk, .ref mqk, .long red, .int rdn, .long (q_step g2), .int (nI (q_sz w B num)), .ref md])), (mw, .inl (G.2.1, 13, .inl (fun zz => nI ((q_w1 w) zz)))), (mv, .inl (G.2.1, 32, .inl vals)), (mm, .inl (G.2.2, 126, .inr (.inl msk))), (mn, .inl (G.2.1, 126, .inl nums)), (mo, .inl (G.2.1, 38, .inl (fun zz => nI (po zz)))), (mb, .inl (G.2.1, 38, .inl pb)), (mr, .inl (G.2.2, 38, .inr (.inl rows))), (mq, .inl (G.2.1, 38, .inl rv)), (mrk, .inl (G.2.2, 38, .inr (.inl rwk))), (mqk, .inl (G.2.1, 38, .inl rvk)), (md, .inl (G.2.1, 38, .inl (fun zz => nI (r2 zz))))]) rfl rfl (fun H locs h => ?_)
                            refine q_iadd hx hb dX6_drawDrop_141 ?_
                            refine lv_istore (lv' := [(7, .int (nI (k2 + (q_hi (q_step g2) % (B - k2))))), (6, .int (nI k2)), (0, .ref o0), (1, .int num)]) hx hb dX6_drawDrop_142 hl (by decide) rfl (fun ls hl => ?_)
                            refine lv_aload_n hx hb dX6_drawDrop_144 rfl (lv_at hl 2 rfl) ?_
                            refine q_get (Cn := RX6) (T := TX6) (N := 22) (ci := 6) (v := .ref md) C h iX6 0 rfl rfl 21 (by decide) f48 rfl dX6_drawDrop_145 ?_
                            refine lv_iload hx hb dX6_drawDrop_148 (lv_at hl 1 rfl) ?_
                            refine q_iald (i := k2) (v := (nI (r2 k2))) C h 11 rfl (by omega) (by omega) rfl dX6_drawDrop_150 ?_
                            refine lv_istore (lv' := [(8, .int (nI (r2 k2))), (7, .int (nI (k2 + (q_hi (q_step g2) % (B - k2))))), (6, .int (nI k2)), (0, .ref o0), (1, .int num)]) hx hb dX6_drawDrop_151 hl (by decide) rfl (fun ls hl => ?_)
                            refine lv_aload_n hx hb dX6_drawDrop_153 rfl (lv_at hl 3 rfl) ?_
                            refine q_get (Cn := RX6) (T := TX6) (N := 22) (ci := 6) (v := .ref md) C h iX6 0 rfl rfl 21 (by decide) f48 rfl dX6_drawDrop_154 ?_
                            refine lv_iload hx hb dX6_drawDrop_157 (lv_at hl 2 rfl) ?_
                            refine lv_aload_n hx hb dX6_drawDrop_159 rfl (lv_at hl 3 rfl) ?_
                            refine q_get (Cn := RX6) (T := TX6) (N := 22) (ci := 6) (v := .ref md) C h iX6 0 rfl rfl 21 (by decide) f48 rfl dX6_drawDrop_160 ?_
                            refine lv_iload hx hb dX6_drawDrop_163 (lv_at hl 1 rfl) ?_
                            refine q_iald (i := k2 + (q_hi (q_step g2) % (B - k2))) (v := (nI (r2 (k2 + (q_hi (q_step g2) % (B - k2)))))) C h 11 rfl (by omega) (by omega) rfl dX6_drawDrop_165 ?_
                            refine q_iast (i := k2) (g := (fun zz => nI ((va_up r2 k2 (r2 (k2 + (q_hi (q_step g2) % (B - k2))))) zz))) (w' := [(o0, .inr (6, [.int (nI rf), .ref mw, .int (nI S), .int (nI B), .ref mv, .int (nI nn), .int (nI dr), .ref mm, .ref mn, .int (nI pk), .long ps, .ref mo, .ref mb, .ref mr, .ref mq, .ref mrk, .ref mqk, .long red, .int rdn, .long (q_step g2), .int (nI (q_sz w B num)), .ref md])), (mw, .inl (G.2.1, 13, .inl (fun zz => nI ((q_w1 w) zz)))), (mv, .inl (G.2.1, 32, .inl vals)), (mm, .inl (G.2.2, 126, .inr (.inl msk))), (mn, .inl (G.2.1, 126, .inl nums)), (mo, .inl (G.2.1, 38, .inl (fun zz => nI (po zz)))), (mb, .inl (G.2.1, 38, .inl pb)), (mr, .inl (G.2.2, 38, .inr (.inl rows))), (mq, .inl (G.2.1, 38, .inl rv)), (mrk, .inl (G.2.2, 38, .inr (.inl rwk))), (mqk, .inl (G.2.1, 38, .inl rvk)), (md, .inl (G.2.1, 38, .inl (fun zz => nI ((va_up r2 k2 (r2 (k2 + (q_hi (q_step g2) % (B - k2))))) zz))))]) C h 11 rfl (by omega) (by omega) (q_upN _ _ _) rfl dX6_drawDrop_166 (fun H locs h => ?_)
                            refine lv_aload_n hx hb dX6_drawDrop_167 rfl (lv_at hl 3 rfl) ?_
                            refine q_get (Cn := RX6) (T := TX6) (N := 22) (ci := 6) (v := .ref md) C h iX6 0 rfl rfl 21 (by decide) f48 rfl dX6_drawDrop_168 ?_
                            refine lv_iload hx hb dX6_drawDrop_171 (lv_at hl 1 rfl) ?_
                            refine lv_iload hx hb dX6_drawDrop_173 (lv_at hl 0 rfl) ?_
                            refine q_iast (i := k2 + (q_hi (q_step g2) % (B - k2))) (g := (fun zz => nI ((va_up (va_up r2 k2 (r2 (k2 + (q_hi (q_step g2) % (B - k2))))) (k2 + (q_hi (q_step g2) % (B - k2))) (r2 k2)) zz))) (w' := [(o0, .inr (6, [.int (nI rf), .ref mw, .int (nI S), .int (nI B), .ref mv, .int (nI nn), .int (nI dr), .ref mm, .ref mn, .int (nI pk), .long ps, .ref mo, .ref mb, .ref mr, .ref mq, .ref mrk, .ref mqk, .long red, .int rdn, .long (q_step g2), .int (nI (q_sz w B num)), .ref md])), (mw, .inl (G.2.1, 13, .inl (fun zz => nI ((q_w1 w) zz)))), (mv, .inl (G.2.1, 32, .inl vals)), (mm, .inl (G.2.2, 126, .inr (.inl msk))), (mn, .inl (G.2.1, 126, .inl nums)), (mo, .inl (G.2.1, 38, .inl (fun zz => nI (po zz)))), (mb, .inl (G.2.1, 38, .inl pb)), (mr, .inl (G.2.2, 38, .inr (.inl rows))), (mq, .inl (G.2.1, 38, .inl rv)), (mrk, .inl (G.2.2, 38, .inr (.inl rwk))), (mqk, .inl (G.2.1, 38, .inl rvk)), (md, .inl (G.2.1, 38, .inl (fun zz => nI ((va_up (va_up r2 k2 (r2 (k2 + (q_hi (q_step g2) % (B - k2))))) (k2 + (q_hi (q_step g2) % (B - k2))) (r2 k2)) zz))))]) C h 11 rfl (by omega) (by omega) (q_upN _ _ _) rfl dX6_drawDrop_175 (fun H locs h => ?_)
                            refine lv_iinc (v := nI (k2 + 1)) (lv' := [(6, .int (nI (k2 + 1))), (8, .int (nI (r2 k2))), (7, .int (nI (k2 + (q_hi (q_step g2) % (B - k2))))), (0, .ref o0), (1, .int num)]) hx hb dX6_drawDrop_176 hl (k := 2) rfl (q_inc k2) (by decide) rfl (fun ls hl => ?_)
                            refine lv_goto (tgt := 119) hx hb dX6_drawDrop_179 (by decide) ?_
                            exact ih119 (k2 + 1) (va_up (va_up r2 k2 (r2 (k2 + (q_hi (q_step g2) % (B - k2))))) (k2 + (q_hi (q_step g2) % (B - k2))) (r2 k2)) (q_step g2) (by omega) (show (va_up (va_up r2 k2 (r2 (k2 + (q_hi (q_step g2) % (B - k2))))) (k2 + (q_hi (q_step g2) % (B - k2))) (r2 k2)) = (q_dr B (q_line drw B) (q_g0 num) (k2 + 1)).1 from (by rw [e_r2, e_g2]; rfl)) (show (q_step g2) = (q_dr B (q_line drw B) (q_g0 num) (k2 + 1)).2 from (by rw [e_g2]; rfl)) (show (k2 + 1) ≤ q_sz w B num from (by omega)) _ _ h _ (lv_sub hl [0, 3, 4] rfl)
                      exact loop119 (q_sz w B num - 0 + 1) 0 ro (q_step num.toInt64) (Nat.lt_succ_self _) (show ro = (q_dr B (q_line drw B) (q_g0 num) 0).1 from (by rw [e_ro, show kk = B from by omega]; rfl)) (show (q_step num.toInt64) = (q_dr B (q_line drw B) (q_g0 num) 0).2 from rfl) (show 0 ≤ q_sz w B num from (Nat.zero_le _)) _ _ h _ (lv_sub hl [0, 5, 6] rfl)
                    · refine lv_aload_n hx hb dX6_drawDrop_101 rfl (lv_at hl 5 rfl) ?_
                      refine q_get (Cn := RX6) (T := TX6) (N := 22) (ci := 6) (v := .ref md) C h iX6 0 rfl rfl 21 (by decide) f48 rfl dX6_drawDrop_102 ?_
                      refine lv_iload hx hb dX6_drawDrop_105 (lv_at hl 0 rfl) ?_
                      refine lv_iload hx hb dX6_drawDrop_107 (lv_at hl 0 rfl) ?_
                      refine q_iast (i := kk) (g := (fun zz => nI ((va_up ro kk kk) zz))) (w' := [(o0, .inr (6, [.int (nI rf), .ref mw, .int (nI S), .int (nI B), .ref mv, .int (nI nn), .int (nI dr), .ref mm, .ref mn, .int (nI pk), .long ps, .ref mo, .ref mb, .ref mr, .ref mq, .ref mrk, .ref mqk, .long red, .int rdn, .long (q_step num.toInt64), .int (nI (q_sz w B num)), .ref md])), (mw, .inl (G.2.1, 13, .inl (fun zz => nI ((q_w1 w) zz)))), (mv, .inl (G.2.1, 32, .inl vals)), (mm, .inl (G.2.2, 126, .inr (.inl msk))), (mn, .inl (G.2.1, 126, .inl nums)), (mo, .inl (G.2.1, 38, .inl (fun zz => nI (po zz)))), (mb, .inl (G.2.1, 38, .inl pb)), (mr, .inl (G.2.2, 38, .inr (.inl rows))), (mq, .inl (G.2.1, 38, .inl rv)), (mrk, .inl (G.2.2, 38, .inr (.inl rwk))), (mqk, .inl (G.2.1, 38, .inl rvk)), (md, .inl (G.2.1, 38, .inl (fun zz => nI ((va_up ro kk kk) zz))))]) C h 11 rfl (by omega) (by omega) (q_upN _ _ _) rfl dX6_drawDrop_109 (fun H locs h => ?_)
                      refine lv_iinc (v := nI (kk + 1)) (lv' := [(6, .int (nI (kk + 1))), (5, .int (nI yy)), (4, .int (nI d)), (3, .int (nI (q_hi (q_g0 num) % q_sum w 12))), (2, .int (nI y)), (0, .ref o0), (1, .int num)]) hx hb dX6_drawDrop_110 hl (k := 0) rfl (q_inc kk) (by decide) rfl (fun ls hl => ?_)
                      refine lv_goto (tgt := 92) hx hb dX6_drawDrop_113 (by decide) ?_
                      exact ih92 (kk + 1) (va_up ro kk kk) (by omega) (show (va_up ro kk kk) = q_line drw (kk + 1) from (by rw [e_ro]; exact q_line_1 drw kk)) (show (kk + 1) ≤ B from (by omega)) _ _ h _ (lv_sub hl [0, 1, 2, 3, 4, 5, 6] rfl)
                exact loop92 (B - 0 + 1) 0 drw (Nat.lt_succ_self _) (show drw = q_line drw 0 from (q_line_0 drw)) (show 0 ≤ B from (Nat.zero_le _)) _ _ h _ (lv_sub hl [0, 1, 2, 3, 4, 5, 6] rfl)
              · have hsz : min (q_deg w (q_hi (q_g0 num) % q_sum w 12)) B = d := by rw [hdg]; omega
                have hz := q_sz_le w B num
                refine lv_iload hx hb dX6_drawDrop_77 (lv_at hl 1 rfl) ?_
                refine lv_goto (tgt := 86) hx hb dX6_drawDrop_79 (by decide) ?_
                refine q_top (v' := .int (nI (q_sz w B num))) (congrArg (fun t => Value.int (nI t)) hsz.symm) ?_
                refine q_put (Cn := RX6) (T := TX6) (N := 22) (ci := 6) (v := .int (nI (q_sz w B num))) (w' := [(o0, .inr (6, [.int (nI rf), .ref mw, .int (nI S), .int (nI B), .ref mv, .int (nI nn), .int (nI dr), .ref mm, .ref mn, .int (nI pk), .long ps, .ref mo, .ref mb, .ref mr, .ref mq, .ref mrk, .ref mqk, .long red, .int rdn, .long (q_step num.toInt64), .int (nI (q_sz w B num)), .ref md])), (mw, .inl (G.2.1, 13, .inl (fun zz => nI ((q_w1 w) zz)))), (mv, .inl (G.2.1, 32, .inl vals)), (mm, .inl (G.2.2, 126, .inr (.inl msk))), (mn, .inl (G.2.1, 126, .inl nums)), (mo, .inl (G.2.1, 38, .inl (fun zz => nI (po zz)))), (mb, .inl (G.2.1, 38, .inl pb)), (mr, .inl (G.2.2, 38, .inr (.inl rows))), (mq, .inl (G.2.1, 38, .inl rv)), (mrk, .inl (G.2.2, 38, .inr (.inl rwk))), (mqk, .inl (G.2.1, 38, .inl rvk)), (md, .inl (G.2.1, 38, .inl (fun zz => nI (drw zz))))]) C h iX6 tyX6 tyX6_ok nmX6 0 rfl rfl 20 (by decide) f96 rfl rfl rfl (Nat.le_of_ble_eq_true rfl) dX6_drawDrop_86 rfl (fun H locs h => ?_)
                refine lv_iconst (v := nI 0) hx hb dX6_drawDrop_89 (by decide) ?_
                refine lv_istore (lv' := [(6, .int (nI 0)), (5, .int (nI yy)), (4, .int (nI d)), (3, .int (nI (q_hi (q_g0 num) % q_sum w 12))), (2, .int (nI y)), (0, .ref o0), (1, .int num)]) hx hb dX6_drawDrop_90 hl (by decide) rfl (fun ls hl => ?_)
                have loop92 : ∀ (fu : Nat) (kk : Nat) (ro : Nat → Nat), B - kk < fu → ro = q_line drw kk → (kk ≤ B) → ∀ (H : Heap) (locs : List Loc), vq_H G A s [(o0, .inr (6, [.int (nI rf), .ref mw, .int (nI S), .int (nI B), .ref mv, .int (nI nn), .int (nI dr), .ref mm, .ref mn, .int (nI pk), .long ps, .ref mo, .ref mb, .ref mr, .ref mq, .ref mrk, .ref mqk, .long red, .int rdn, .long (q_step num.toInt64), .int (nI (q_sz w B num)), .ref md])), (mw, .inl (G.2.1, 13, .inl (fun zz => nI ((q_w1 w) zz)))), (mv, .inl (G.2.1, 32, .inl vals)), (mm, .inl (G.2.2, 126, .inr (.inl msk))), (mn, .inl (G.2.1, 126, .inl nums)), (mo, .inl (G.2.1, 38, .inl (fun zz => nI (po zz)))), (mb, .inl (G.2.1, 38, .inl pb)), (mr, .inl (G.2.2, 38, .inr (.inl rows))), (mq, .inl (G.2.1, 38, .inl rv)), (mrk, .inl (G.2.2, 38, .inr (.inl rwk))), (mqk, .inl (G.2.1, 38, .inl rvk)), (md, .inl (G.2.1, 38, .inl (fun zz => nI (ro zz))))] H locs → ∀ (ls : Array Slot), lv_has ls 9 [(6, .int (nI kk)), (5, .int (nI yy)), (4, .int (nI d)), (3, .int (nI (q_hi (q_g0 num) % q_sum w 12))), (2, .int (nI y)), (0, .ref o0), (1, .int num)] → W p l e ({ frames := 1, cells := 0, slots := 0, locals := 21 } : Room) s m args below meth c H locs 0 0 (MQ below (va_Qv (fun (_ : Unit) => True) (fun _ => vq_T G A [(o0, .inr (6, [.int (nI rf), .ref mw, .int (nI S), .int (nI B), .ref mv, .int (nI nn), .int (nI dr), .ref mm, .ref mn, .int (nI pk), .long ps, .ref mo, .ref mb, .ref mr, .ref mq, .ref mrk, .ref mqk, .long red, .int rdn, .long (q_gen w B num), .int (nI (q_sz w B num)), .ref md])), (mw, .inl (G.2.1, 13, .inl (fun zz => nI ((q_w1 w) zz)))), (mv, .inl (G.2.1, 32, .inl vals)), (mm, .inl (G.2.2, 126, .inr (.inl msk))), (mn, .inl (G.2.1, 126, .inl nums)), (mo, .inl (G.2.1, 38, .inl (fun zz => nI (po zz)))), (mb, .inl (G.2.1, 38, .inl pb)), (mr, .inl (G.2.2, 38, .inr (.inl rows))), (mq, .inl (G.2.1, 38, .inl rv)), (mrk, .inl (G.2.2, 38, .inr (.inl rwk))), (mqk, .inl (G.2.1, 38, .inl rvk)), (md, .inl (G.2.1, 38, .inl (fun zz => nI ((q_rowS drw w B num) zz))))]) A) args s 0 0 A) (F0 m 92 ls []) := by
                  intro fu
                  induction fu with
                  | zero => exact fun kk ro hm => absurd hm (Nat.not_lt_zero _)
                  | succ fu ih =>
                    intro kk ro hm92 e_ro hkk H locs h ls hl
                    have ih92 := ih
                    clear ih
                    refine lv_iload hx hb dX6_drawDrop_92 (lv_at hl 0 rfl) ?_
                    refine lv_aload_n hx hb dX6_drawDrop_94 rfl (lv_at hl 5 rfl) ?_
                    refine q_get (Cn := RX6) (T := TX6) (N := 22) (ci := 6) (v := .int (nI B)) C h iX6 0 rfl rfl 3 (by decide) f17 rfl dX6_drawDrop_95 ?_
                    refine q_icmp_ge (tgt := 116) hx hb (by omega) (by omega) dX6_drawDrop_98 (by decide) (fun z98 => ?_) (fun z98 => ?_)
                    · refine lv_iconst (v := nI 0) hx hb dX6_drawDrop_116 (by decide) ?_
                      refine lv_istore (lv' := [(6, .int (nI 0)), (5, .int (nI yy)), (4, .int (nI d)), (3, .int (nI (q_hi (q_g0 num) % q_sum w 12))), (2, .int (nI y)), (0, .ref o0), (1, .int num)]) hx hb dX6_drawDrop_117 hl (by decide) rfl (fun ls hl => ?_)
                      have loop119 : ∀ (fu : Nat) (k2 : Nat) (r2 : Nat → Nat) (g2 : Int64), q_sz w B num - k2 < fu → r2 = (q_dr B (q_line drw B) (q_g0 num) k2).1 → g2 = (q_dr B (q_line drw B) (q_g0 num) k2).2 → (k2 ≤ q_sz w B num) → ∀ (H : Heap) (locs : List Loc), vq_H G A s [(o0, .inr (6, [.int (nI rf), .ref mw, .int (nI S), .int (nI B), .ref mv, .int (nI nn), .int (nI dr), .ref mm, .ref mn, .int (nI pk), .long ps, .ref mo, .ref mb, .ref mr, .ref mq, .ref mrk, .ref mqk, .long red, .int rdn, .long g2, .int (nI (q_sz w B num)), .ref md])), (mw, .inl (G.2.1, 13, .inl (fun zz => nI ((q_w1 w) zz)))), (mv, .inl (G.2.1, 32, .inl vals)), (mm, .inl (G.2.2, 126, .inr (.inl msk))), (mn, .inl (G.2.1, 126, .inl nums)), (mo, .inl (G.2.1, 38, .inl (fun zz => nI (po zz)))), (mb, .inl (G.2.1, 38, .inl pb)), (mr, .inl (G.2.2, 38, .inr (.inl rows))), (mq, .inl (G.2.1, 38, .inl rv)), (mrk, .inl (G.2.2, 38, .inr (.inl rwk))), (mqk, .inl (G.2.1, 38, .inl rvk)), (md, .inl (G.2.1, 38, .inl (fun zz => nI (r2 zz))))] H locs → ∀ (ls : Array Slot), lv_has ls 9 [(6, .int (nI k2)), (0, .ref o0), (1, .int num)] → W p l e ({ frames := 1, cells := 0, slots := 0, locals := 21 } : Room) s m args below meth c H locs 0 0 (MQ below (va_Qv (fun (_ : Unit) => True) (fun _ => vq_T G A [(o0, .inr (6, [.int (nI rf), .ref mw, .int (nI S), .int (nI B), .ref mv, .int (nI nn), .int (nI dr), .ref mm, .ref mn, .int (nI pk), .long ps, .ref mo, .ref mb, .ref mr, .ref mq, .ref mrk, .ref mqk, .long red, .int rdn, .long (q_gen w B num), .int (nI (q_sz w B num)), .ref md])), (mw, .inl (G.2.1, 13, .inl (fun zz => nI ((q_w1 w) zz)))), (mv, .inl (G.2.1, 32, .inl vals)), (mm, .inl (G.2.2, 126, .inr (.inl msk))), (mn, .inl (G.2.1, 126, .inl nums)), (mo, .inl (G.2.1, 38, .inl (fun zz => nI (po zz)))), (mb, .inl (G.2.1, 38, .inl pb)), (mr, .inl (G.2.2, 38, .inr (.inl rows))), (mq, .inl (G.2.1, 38, .inl rv)), (mrk, .inl (G.2.2, 38, .inr (.inl rwk))), (mqk, .inl (G.2.1, 38, .inl rvk)), (md, .inl (G.2.1, 38, .inl (fun zz => nI ((q_rowS drw w B num) zz))))]) A) args s 0 0 A) (F0 m 119 ls []) := by
                        intro fu
                        induction fu with
                        | zero => exact fun k2 r2 g2 hm => absurd hm (Nat.not_lt_zero _)
                        | succ fu ih =>
                          intro k2 r2 g2 hm119 e_r2 e_g2 hk2 H locs h ls hl
                          have ih119 := ih
                          clear ih
                          refine lv_iload hx hb dX6_drawDrop_119 (lv_at hl 0 rfl) ?_
                          refine lv_aload_n hx hb dX6_drawDrop_121 rfl (lv_at hl 1 rfl) ?_
                          refine q_get (Cn := RX6) (T := TX6) (N := 22) (ci := 6) (v := .int (nI (q_sz w B num))) C h iX6 0 rfl rfl 20 (by decide) f96 rfl dX6_drawDrop_122 ?_
                          refine q_icmp_ge (tgt := 182) hx hb (by omega) (by omega) dX6_drawDrop_125 (by decide) (fun z125 => ?_) (fun z125 => ?_)
                          · exact q_retv C h rfl (by rw [e_r2, e_g2, show k2 = q_sz w B num from by omega, q_gen_S]; rfl) dX6_drawDrop_182
                          · have hq : q_hi (q_step g2) % (B - k2) < B - k2 := Nat.mod_lt _ (by omega)
                            refine lv_iload hx hb dX6_drawDrop_128 (lv_at hl 0 rfl) ?_
                            refine lv_aload_n hx hb dX6_drawDrop_130 rfl (lv_at hl 1 rfl) ?_
                            refine lv_aload_n hx hb dX6_drawDrop_131 rfl (lv_at hl 1 rfl) ?_
                            refine q_get (Cn := RX6) (T := TX6) (N := 22) (ci := 6) (v := .int (nI B)) C h iX6 0 rfl rfl 3 (by decide) f17 rfl dX6_drawDrop_132 ?_
                            refine lv_iload hx hb dX6_drawDrop_135 (lv_at hl 0 rfl) ?_
                            refine q_isub hx hb (by omega) dX6_drawDrop_137 ?_
                            refine q_callVi C h (c_X6_draw l G o0 mw mv mm mn mo mb mr mq mrk mqk md rf S B nn dr pk ps red rdn g2 (q_sz w B num) w vals msk nums po pb rows rv rwk rvk r2 (B - k2) (by omega) (by omega)) (cwV 1 hts gX6_drawDrop_X6_draw rfl rfl rfl (by decide +kernel) ⟨Nat.le_of_ble_eq_true rfl, Nat.le_of_ble_eq_true rfl⟩) [0, 1, 2, 3, 4, 5, 6, 7, 8, 9, 10, 11] rfl rfl [] (wr := []) rfl rfl (by decide) 0 rfl rfl rfl hl.1 rfl (Nat.le_of_ble_eq_true rfl) dX6_drawDrop_138 ⟨Nat.zero_le _, Nat.zero_le _⟩ [0, 1, 2, 3, 4, 5, 6, 7, 8, 9, 10, 11] (w' := [(o0, .inr (6, [.int (nI rf), .ref mw, .int (nI S), .int (nI B), .ref mv, .int (nI nn), .int (nI dr), .ref mm, .ref mn, .int (nI pk), .long ps, .ref mo, .ref mb, .ref mr, .ref mq, .ref mrk, .ref mqk, .long red, .int rdn, .long (q_step g2), .int (nI (q_sz w B num)), .ref md])), (mw, .inl (G.2.1, 13, .inl (fun zz => nI ((q_w1 w) zz)))), (mv, .inl (G.2.1, 32, .inl vals)), (mm, .inl (G.2.2, 126, .inr (.inl msk))), (mn, .inl (G.2.1, 126, .inl nums)), (mo, .inl (G.2.1, 38, .inl (fun zz => nI (po zz)))), (mb, .inl (G.2.1, 38, .inl pb)), (mr, .inl (G.2.2, 38, .inr (.inl rows))), (mq, .inl (G.2.1, 38, .inl rv)), (mrk, .inl (G.2.2, 38, .inr (.inl rwk))), (mqk, .inl (G.2.1, 38, .inl rvk)), (md, .inl (G.2.1, 38, .inl (fun zz => nI (r2 zz))))]) rfl rfl (fun H locs h => ?_)
                            refine q_iadd hx hb dX6_drawDrop_141 ?_
                            refine lv_istore (lv' := [(7, .int (nI (k2 + (q_hi (q_step g2) % (B - k2))))), (6, .int (nI k2)), (0, .ref o0), (1, .int num)]) hx hb dX6_drawDrop_142 hl (by decide) rfl (fun ls hl => ?_)
                            refine lv_aload_n hx hb dX6_drawDrop_144 rfl (lv_at hl 2 rfl) ?_
                            refine q_get (Cn := RX6) (T := TX6) (N := 22) (ci := 6) (v := .ref md) C h iX6 0 rfl rfl 21 (by decide) f48 rfl dX6_drawDrop_145 ?_
                            refine lv_iload hx hb dX6_drawDrop_148 (lv_at hl 1 rfl) ?_
                            refine q_iald (i := k2) (v := (nI (r2 k2))) C h 11 rfl (by omega) (by omega) rfl dX6_drawDrop_150 ?_
                            refine lv_istore (lv' := [(8, .int (nI (r2 k2))), (7, .int (nI (k2 + (q_hi (q_step g2) % (B - k2))))), (6, .int (nI k2)), (0, .ref o0), (1, .int num)]) hx hb dX6_drawDrop_151 hl (by decide) rfl (fun ls hl => ?_)
                            refine lv_aload_n hx hb dX6_drawDrop_153 rfl (lv_at hl 3 rfl) ?_
                            refine q_get (Cn := RX6) (T := TX6) (N := 22) (ci := 6) (v := .ref md) C h iX6 0 rfl rfl 21 (by decide) f48 rfl dX6_drawDrop_154 ?_
                            refine lv_iload hx hb dX6_drawDrop_157 (lv_at hl 2 rfl) ?_
                            refine lv_aload_n hx hb dX6_drawDrop_159 rfl (lv_at hl 3 rfl) ?_
                            refine q_get (Cn := RX6) (T := TX6) (N := 22) (ci := 6) (v := .ref md) C h iX6 0 rfl rfl 21 (by decide) f48 rfl dX6_drawDrop_160 ?_
                            refine lv_iload hx hb dX6_drawDrop_163 (lv_at hl 1 rfl) ?_
                            refine q_iald (i := k2 + (q_hi (q_step g2) % (B - k2))) (v := (nI (r2 (k2 + (q_hi (q_step g2) % (B - k2)))))) C h 11 rfl (by omega) (by omega) rfl dX6_drawDrop_165 ?_
                            refine q_iast (i := k2) (g := (fun zz => nI ((va_up r2 k2 (r2 (k2 + (q_hi (q_step g2) % (B - k2))))) zz))) (w' := [(o0, .inr (6, [.int (nI rf), .ref mw, .int (nI S), .int (nI B), .ref mv, .int (nI nn), .int (nI dr), .ref mm, .ref mn, .int (nI pk), .long ps, .ref mo, .ref mb, .ref mr, .ref mq, .ref mrk, .ref mqk, .long red, .int rdn, .long (q_step g2), .int (nI (q_sz w B num)), .ref md])), (mw, .inl (G.2.1, 13, .inl (fun zz => nI ((q_w1 w) zz)))), (mv, .inl (G.2.1, 32, .inl vals)), (mm, .inl (G.2.2, 126, .inr (.inl msk))), (mn, .inl (G.2.1, 126, .inl nums)), (mo, .inl (G.2.1, 38, .inl (fun zz => nI (po zz)))), (mb, .inl (G.2.1, 38, .inl pb)), (mr, .inl (G.2.2, 38, .inr (.inl rows))), (mq, .inl (G.2.1, 38, .inl rv)), (mrk, .inl (G.2.2, 38, .inr (.inl rwk))), (mqk, .inl (G.2.1, 38, .inl rvk)), (md, .inl (G.2.1, 38, .inl (fun zz => nI ((va_up r2 k2 (r2 (k2 + (q_hi (q_step g2) % (B - k2))))) zz))))]) C h 11 rfl (by omega) (by omega) (q_upN _ _ _) rfl dX6_drawDrop_166 (fun H locs h => ?_)
                            refine lv_aload_n hx hb dX6_drawDrop_167 rfl (lv_at hl 3 rfl) ?_
                            refine q_get (Cn := RX6) (T := TX6) (N := 22) (ci := 6) (v := .ref md) C h iX6 0 rfl rfl 21 (by decide) f48 rfl dX6_drawDrop_168 ?_
                            refine lv_iload hx hb dX6_drawDrop_171 (lv_at hl 1 rfl) ?_
                            refine lv_iload hx hb dX6_drawDrop_173 (lv_at hl 0 rfl) ?_
                            refine q_iast (i := k2 + (q_hi (q_step g2) % (B - k2))) (g := (fun zz => nI ((va_up (va_up r2 k2 (r2 (k2 + (q_hi (q_step g2) % (B - k2))))) (k2 + (q_hi (q_step g2) % (B - k2))) (r2 k2)) zz))) (w' := [(o0, .inr (6, [.int (nI rf), .ref mw, .int (nI S), .int (nI B), .ref mv, .int (nI nn), .int (nI dr), .ref mm, .ref mn, .int (nI pk), .long ps, .ref mo, .ref mb, .ref mr, .ref mq, .ref mrk, .ref mqk, .long red, .int rdn, .long (q_step g2), .int (nI (q_sz w B num)), .ref md])), (mw, .inl (G.2.1, 13, .inl (fun zz => nI ((q_w1 w) zz)))), (mv, .inl (G.2.1, 32, .inl vals)), (mm, .inl (G.2.2, 126, .inr (.inl msk))), (mn, .inl (G.2.1, 126, .inl nums)), (mo, .inl (G.2.1, 38, .inl (fun zz => nI (po zz)))), (mb, .inl (G.2.1, 38, .inl pb)), (mr, .inl (G.2.2, 38, .inr (.inl rows))), (mq, .inl (G.2.1, 38, .inl rv)), (mrk, .inl (G.2.2, 38, .inr (.inl rwk))), (mqk, .inl (G.2.1, 38, .inl rvk)), (md, .inl (G.2.1, 38, .inl (fun zz => nI ((va_up (va_up r2 k2 (r2 (k2 + (q_hi (q_step g2) % (B - k2))))) (k2 + (q_hi (q_step g2) % (B - k2))) (r2 k2)) zz))))]) C h 11 rfl (by omega) (by omega) (q_upN _ _ _) rfl dX6_drawDrop_175 (fun H locs h => ?_)
                            refine lv_iinc (v := nI (k2 + 1)) (lv' := [(6, .int (nI (k2 + 1))), (8, .int (nI (r2 k2))), (7, .int (nI (k2 + (q_hi (q_step g2) % (B - k2))))), (0, .ref o0), (1, .int num)]) hx hb dX6_drawDrop_176 hl (k := 2) rfl (q_inc k2) (by decide) rfl (fun ls hl => ?_)
                            refine lv_goto (tgt := 119) hx hb dX6_drawDrop_179 (by decide) ?_
                            exact ih119 (k2 + 1) (va_up (va_up r2 k2 (r2 (k2 + (q_hi (q_step g2) % (B - k2))))) (k2 + (q_hi (q_step g2) % (B - k2))) (r2 k2)) (q_step g2) (by omega) (show (va_up (va_up r2 k2 (r2 (k2 + (q_hi (q_step g2) % (B - k2))))) (k2 + (q_hi (q_step g2) % (B - k2))) (r2 k2)) = (q_dr B (q_line drw B) (q_g0 num) (k2 + 1)).1 from (by rw [e_r2, e_g2]; rfl)) (show (q_step g2) = (q_dr B (q_line drw B) (q_g0 num) (k2 + 1)).2 from (by rw [e_g2]; rfl)) (show (k2 + 1) ≤ q_sz w B num from (by omega)) _ _ h _ (lv_sub hl [0, 3, 4] rfl)
                      exact loop119 (q_sz w B num - 0 + 1) 0 ro (q_step num.toInt64) (Nat.lt_succ_self _) (show ro = (q_dr B (q_line drw B) (q_g0 num) 0).1 from (by rw [e_ro, show kk = B from by omega]; rfl)) (show (q_step num.toInt64) = (q_dr B (q_line drw B) (q_g0 num) 0).2 from rfl) (show 0 ≤ q_sz w B num from (Nat.zero_le _)) _ _ h _ (lv_sub hl [0, 5, 6] rfl)
                    · refine lv_aload_n hx hb dX6_drawDrop_101 rfl (lv_at hl 5 rfl) ?_
                      refine q_get (Cn := RX6) (T := TX6) (N := 22) (ci := 6) (v := .ref md) C h iX6 0 rfl rfl 21 (by decide) f48 rfl dX6_drawDrop_102 ?_
                      refine lv_iload hx hb dX6_drawDrop_105 (lv_at hl 0 rfl) ?_
                      refine lv_iload hx hb dX6_drawDrop_107 (lv_at hl 0 rfl) ?_
                      refine q_iast (i := kk) (g := (fun zz => nI ((va_up ro kk kk) zz))) (w' := [(o0, .inr (6, [.int (nI rf), .ref mw, .int (nI S), .int (nI B), .ref mv, .int (nI nn), .int (nI dr), .ref mm, .ref mn, .int (nI pk), .long ps, .ref mo, .ref mb, .ref mr, .ref mq, .ref mrk, .ref mqk, .long red, .int rdn, .long (q_step num.toInt64), .int (nI (q_sz w B num)), .ref md])), (mw, .inl (G.2.1, 13, .inl (fun zz => nI ((q_w1 w) zz)))), (mv, .inl (G.2.1, 32, .inl vals)), (mm, .inl (G.2.2, 126, .inr (.inl msk))), (mn, .inl (G.2.1, 126, .inl nums)), (mo, .inl (G.2.1, 38, .inl (fun zz => nI (po zz)))), (mb, .inl (G.2.1, 38, .inl pb)), (mr, .inl (G.2.2, 38, .inr (.inl rows))), (mq, .inl (G.2.1, 38, .inl rv)), (mrk, .inl (G.2.2, 38, .inr (.inl rwk))), (mqk, .inl (G.2.1, 38, .inl rvk)), (md, .inl (G.2.1, 38, .inl (fun zz => nI ((va_up ro kk kk) zz))))]) C h 11 rfl (by omega) (by omega) (q_upN _ _ _) rfl dX6_drawDrop_109 (fun H locs h => ?_)
                      refine lv_iinc (v := nI (kk + 1)) (lv' := [(6, .int (nI (kk + 1))), (5, .int (nI yy)), (4, .int (nI d)), (3, .int (nI (q_hi (q_g0 num) % q_sum w 12))), (2, .int (nI y)), (0, .ref o0), (1, .int num)]) hx hb dX6_drawDrop_110 hl (k := 0) rfl (q_inc kk) (by decide) rfl (fun ls hl => ?_)
                      refine lv_goto (tgt := 92) hx hb dX6_drawDrop_113 (by decide) ?_
                      exact ih92 (kk + 1) (va_up ro kk kk) (by omega) (show (va_up ro kk kk) = q_line drw (kk + 1) from (by rw [e_ro]; exact q_line_1 drw kk)) (show (kk + 1) ≤ B from (by omega)) _ _ h _ (lv_sub hl [0, 1, 2, 3, 4, 5, 6] rfl)
                exact loop92 (B - 0 + 1) 0 drw (Nat.lt_succ_self _) (show drw = q_line drw 0 from (q_line_0 drw)) (show 0 ≤ B from (Nat.zero_le _)) _ _ h _ (lv_sub hl [0, 1, 2, 3, 4, 5, 6] rfl)
            · have hd12 : d < 12 := by rcases Nat.lt_or_ge d 12 with a | a; exact a; have := Nat.mod_lt (q_hi (q_g0 num)) hs; rw [show d = 12 from by omega] at e_yy; omega
              refine lv_iinc (v := nI (d + 1)) (lv' := [(4, .int (nI (d + 1))), (5, .int (nI yy)), (3, .int (nI (q_hi (q_g0 num) % q_sum w 12))), (2, .int (nI y)), (0, .ref o0), (1, .int num)]) hx hb dX6_drawDrop_49 hl (k := 1) rfl (q_inc d) (by decide) rfl (fun ls hl => ?_)
              refine lv_iload hx hb dX6_drawDrop_52 (lv_at hl 1 rfl) ?_
              refine lv_aload_n hx hb dX6_drawDrop_54 rfl (lv_at hl 4 rfl) ?_
              refine q_get (Cn := RX6) (T := TX6) (N := 22) (ci := 6) (v := .ref mw) C h iX6 0 rfl rfl 1 (by decide) f7 rfl dX6_drawDrop_55 ?_
              refine lv_iload hx hb dX6_drawDrop_58 (lv_at hl 0 rfl) ?_
              refine q_iald (i := d + 1) (v := (nI ((q_w1 w) (d + 1)))) C h 1 rfl (by omega) (by omega) rfl dX6_drawDrop_60 ?_
              refine q_top (v' := .int (nI (w d))) rfl ?_
              refine q_iadd hx hb dX6_drawDrop_61 ?_
              refine lv_istore (lv' := [(5, .int (nI (yy + w d))), (4, .int (nI (d + 1))), (3, .int (nI (q_hi (q_g0 num) % q_sum w 12))), (2, .int (nI y)), (0, .ref o0), (1, .int num)]) hx hb dX6_drawDrop_62 hl (by decide) rfl (fun ls hl => ?_)
              refine lv_goto (tgt := 43) hx hb dX6_drawDrop_64 (by decide) ?_
              exact ih43 (d + 1) (yy + w d) (by omega) (show (yy + w d) = q_sum w (d + 1) from (by rw [e_yy]; rfl)) (show (d + 1) ≤ 12 from (by omega)) (show ∀ j, j < (d + 1) → q_sum w j ≤ q_hi (q_g0 num) % q_sum w 12 from (fun j hj => by rcases Nat.lt_or_ge j d with a | a; exact hall j a; rw [show j = d from by omega]; omega)) _ _ h _ (lv_sub hl [0, 1, 2, 3, 4, 5] rfl)
        exact loop43 (12 - 0 + 1) 0 0 (Nat.lt_succ_self _) (show 0 = q_sum w 0 from rfl) (show 0 ≤ 12 from (Nat.zero_le _)) (show ∀ j, j < 0 → q_sum w j ≤ q_hi (q_g0 num) % q_sum w 12 from (fun j hj => absurd hj (Nat.not_lt_zero _))) _ _ h _ (lv_sub hl [0, 1, 2, 3, 4, 5] rfl)
      · have hw1 : q_w1 w k = w (k - 1) := by obtain ⟨t, rfl⟩ : ∃ t, k = t + 1 := ⟨k - 1, by omega⟩; rfl
        refine lv_iload_n hx hb dX6_drawDrop_16 rfl (lv_at hl 1 rfl) ?_
        refine lv_aload_n hx hb dX6_drawDrop_17 rfl (lv_at hl 2 rfl) ?_
        refine q_get (Cn := RX6) (T := TX6) (N := 22) (ci := 6) (v := .ref mw) C h iX6 0 rfl rfl 1 (by decide) f7 rfl dX6_drawDrop_18 ?_
        refine lv_iload_n hx hb dX6_drawDrop_21 rfl (lv_at hl 0 rfl) ?_
        refine q_iald (i := k) (v := (nI ((q_w1 w) k))) C h 1 rfl (by omega) (by omega) rfl dX6_drawDrop_22 ?_
        refine q_top (v' := .int (nI (w (k - 1)))) (congrArg (fun t => Value.int (nI t)) hw1) ?_
        refine q_iadd hx hb dX6_drawDrop_23 ?_
        refine lv_istore_n (lv' := [(2, .int (nI (y + (w (k - 1))))), (3, .int (nI k)), (0, .ref o0), (1, .int num)]) hx hb dX6_drawDrop_24 rfl hl (by decide) rfl (fun ls hl => ?_)
        refine lv_iinc (v := nI (k + 1)) (lv' := [(3, .int (nI (k + 1))), (2, .int (nI (y + (w (k - 1))))), (0, .ref o0), (1, .int num)]) hx hb dX6_drawDrop_25 hl (k := 1) rfl (q_inc k) (by decide) rfl (fun ls hl => ?_)
        refine lv_goto (tgt := 10) hx hb dX6_drawDrop_28 (by decide) ?_
        exact ih10 (k + 1) (y + (w (k - 1))) (by omega) (show (y + (w (k - 1))) = q_sum w ((k + 1) - 1) from (by rw [e_y]; obtain ⟨t, rfl⟩ : ∃ t, k = t + 1 := ⟨k - 1, by omega⟩; rfl)) (show (k + 1) ≤ 13 from (by omega)) (show 1 ≤ (k + 1) from (by omega)) _ _ h _ (lv_sub hl [0, 1, 2, 3] rfl)
  exact loop10 (13 - 1 + 1) 1 0 (Nat.lt_succ_self _) (show 0 = q_sum w (1 - 1) from rfl) (show 1 ≤ 13 from (by decide)) (show 1 ≤ 1 from (by decide)) _ _ h _ (lv_sub hl [0, 1, 2, 3] rfl)

set_option maxHeartbeats 4000000 in
set_option maxRecDepth 100000 in
theorem c_X6_maskOf (l : Launch) (G : vq_G) (o0 mw mv mm mn mo mb mr mq mrk mqk md : Nat) (rf S B nn dr pk : Nat) (ps red : Int64) (rdn : Int32) (gen : Int64) (dm : Nat) (w : Nat → Nat) (vals : Nat → Int32) (msk : Nat → Int64) (nums : Nat → Int32) (po : Nat → Nat) (pb : Nat → Int32) (rows : Nat → Int64) (rv : Nat → Int32) (rwk : Nat → Int64) (rvk : Nat → Int32) (drw : Nat → Nat) (num : Int32) (hW : ∀ j, w j ≤ 1000) (hs : 0 < q_sum w 12) (hS1 : 1 ≤ S) (hS : S ≤ 32) (hSB : S ≤ B) (hB : B ≤ S + 6) : vq_l l yX6_maskOf wsX6_maskOf 2 49 G [.ref o0, .int num] [(o0, .inr (6, [.int (nI rf), .ref mw, .int (nI S), .int (nI B), .ref mv, .int (nI nn), .int (nI dr), .ref mm, .ref mn, .int (nI pk), .long ps, .ref mo, .ref mb, .ref mr, .ref mq, .ref mrk, .ref mqk, .long red, .int rdn, .long gen, .int (nI dm), .ref md])), (mw, .inl (G.2.1, 13, .inl (fun zz => nI ((q_w1 w) zz)))), (mv, .inl (G.2.1, 32, .inl vals)), (mm, .inl (G.2.2, 126, .inr (.inl msk))), (mn, .inl (G.2.1, 126, .inl nums)), (mo, .inl (G.2.1, 38, .inl (fun zz => nI (po zz)))), (mb, .inl (G.2.1, 38, .inl pb)), (mr, .inl (G.2.2, 38, .inr (.inl rows))), (mq, .inl (G.2.1, 38, .inl rv)), (mrk, .inl (G.2.2, 38, .inr (.inl rwk))), (mqk, .inl (G.2.1, 38, .inl rvk)), (md, .inl (G.2.1, 38, .inl (fun zz => nI (drw zz))))] (q_set w B num) [(o0, .inr (6, [.int (nI rf), .ref mw, .int (nI S), .int (nI B), .ref mv, .int (nI nn), .int (nI dr), .ref mm, .ref mn, .int (nI pk), .long ps, .ref mo, .ref mb, .ref mr, .ref mq, .ref mrk, .ref mqk, .long red, .int rdn, .long (q_gen w B num), .int (nI (q_sz w B num)), .ref md])), (mw, .inl (G.2.1, 13, .inl (fun zz => nI ((q_w1 w) zz)))), (mv, .inl (G.2.1, 32, .inl vals)), (mm, .inl (G.2.2, 126, .inr (.inl msk))), (mn, .inl (G.2.1, 126, .inl nums)), (mo, .inl (G.2.1, 38, .inl (fun zz => nI (po zz)))), (mb, .inl (G.2.1, 38, .inl pb)), (mr, .inl (G.2.2, 38, .inr (.inl rows))), (mq, .inl (G.2.1, 38, .inl rv)), (mrk, .inl (G.2.2, 38, .inr (.inl rwk))), (mqk, .inl (G.2.1, 38, .inl rvk)), (md, .inl (G.2.1, 38, .inl (fun zz => nI ((q_rowS drw w B num) zz))))] := by
  refine vq_openl (cc := cX6_maskOf) (maxL := 5) (ret := (some .long)) (Ts' := wsX6_maskOf.tail) (by decide) rfl (Nat.le_of_ble_eq_true rfl) ?_
  intro p e s m args below meth c A ls C h hnm hl
  have hx := C.1.1
  have hb := C.1.2.1
  have hts := C.1.2.2.2.2
  have hl : lv_has ls 5 [(0, .ref o0), (1, .int num)] := hl
  have f96 := C.1.2.2.2.2 (.fieldLink RX6 96 "FountainCodeModel" "drawnMany" "I") (by decide +kernel)
  have iX6 : ∀ w ∈ u_ws RX6 TX6 22, w ∈ wsX6_maskOf := by decide +kernel
  have f48 := C.1.2.2.2.2 (.fieldLink RX6 48 "FountainCodeModel" "drawn" "[I") (by decide +kernel)
  refine lv_aload_n hx hb dX6_maskOf_0 rfl (lv_at hl 0 rfl) ?_
  refine lv_iload_n hx hb dX6_maskOf_1 rfl (lv_at hl 1 rfl) ?_
  refine q_callVv C h (c_X6_drawDrop l G o0 mw mv mm mn mo mb mr mq mrk mqk md rf S B nn dr pk ps red rdn gen dm w vals msk nums po pb rows rv rwk rvk drw num hW hs (by omega) (by omega) (by omega) (by omega)) (cwV 1 hts gX6_maskOf_X6_drawDrop rfl rfl rfl (by decide +kernel) ⟨Nat.le_of_ble_eq_true rfl, Nat.le_of_ble_eq_true rfl⟩) [0, 1, 2, 3, 4, 5, 6, 7, 8, 9, 10, 11] rfl rfl [] (wr := []) rfl rfl (by decide) 0 rfl rfl rfl hl.1 rfl (Nat.le_of_ble_eq_true rfl) dX6_maskOf_2 ⟨Nat.zero_le _, Nat.zero_le _⟩ [0, 1, 2, 3, 4, 5, 6, 7, 8, 9, 10, 11] (w' := [(o0, .inr (6, [.int (nI rf), .ref mw, .int (nI S), .int (nI B), .ref mv, .int (nI nn), .int (nI dr), .ref mm, .ref mn, .int (nI pk), .long ps, .ref mo, .ref mb, .ref mr, .ref mq, .ref mrk, .ref mqk, .long red, .int rdn, .long (q_gen w B num), .int (nI (q_sz w B num)), .ref md])), (mw, .inl (G.2.1, 13, .inl (fun zz => nI ((q_w1 w) zz)))), (mv, .inl (G.2.1, 32, .inl vals)), (mm, .inl (G.2.2, 126, .inr (.inl msk))), (mn, .inl (G.2.1, 126, .inl nums)), (mo, .inl (G.2.1, 38, .inl (fun zz => nI (po zz)))), (mb, .inl (G.2.1, 38, .inl pb)), (mr, .inl (G.2.2, 38, .inr (.inl rows))), (mq, .inl (G.2.1, 38, .inl rv)), (mrk, .inl (G.2.2, 38, .inr (.inl rwk))), (mqk, .inl (G.2.1, 38, .inl rvk)), (md, .inl (G.2.1, 38, .inl (fun zz => nI ((q_rowS drw w B num) zz))))]) rfl rfl (fun H locs h => ?_)
  refine lv_lconst (v := 0) hx hb dX6_maskOf_5 (by decide) ?_
  refine lv_lstore_n (lv' := [(2, .long 0), (0, .ref o0), (1, .int num)]) hx hb dX6_maskOf_6 rfl hl (by decide) rfl (fun ls hl => ?_)
  refine lv_iconst (v := nI 0) hx hb dX6_maskOf_7 (by decide) ?_
  refine lv_istore (lv' := [(4, .int (nI 0)), (2, .long 0), (0, .ref o0), (1, .int num)]) hx hb dX6_maskOf_8 hl (by decide) rfl (fun ls hl => ?_)
  have loop10 : ∀ (fu : Nat) (k : Nat) (y : Int64), q_sz w B num - k < fu → y = q_or (q_rowS drw w B num) k → (k ≤ q_sz w B num) → (q_sz w B num ≤ B) → ∀ (H : Heap) (locs : List Loc), vq_H G A s [(o0, .inr (6, [.int (nI rf), .ref mw, .int (nI S), .int (nI B), .ref mv, .int (nI nn), .int (nI dr), .ref mm, .ref mn, .int (nI pk), .long ps, .ref mo, .ref mb, .ref mr, .ref mq, .ref mrk, .ref mqk, .long red, .int rdn, .long (q_gen w B num), .int (nI (q_sz w B num)), .ref md])), (mw, .inl (G.2.1, 13, .inl (fun zz => nI ((q_w1 w) zz)))), (mv, .inl (G.2.1, 32, .inl vals)), (mm, .inl (G.2.2, 126, .inr (.inl msk))), (mn, .inl (G.2.1, 126, .inl nums)), (mo, .inl (G.2.1, 38, .inl (fun zz => nI (po zz)))), (mb, .inl (G.2.1, 38, .inl pb)), (mr, .inl (G.2.2, 38, .inr (.inl rows))), (mq, .inl (G.2.1, 38, .inl rv)), (mrk, .inl (G.2.2, 38, .inr (.inl rwk))), (mqk, .inl (G.2.1, 38, .inl rvk)), (md, .inl (G.2.1, 38, .inl (fun zz => nI ((q_rowS drw w B num) zz))))] H locs → ∀ (ls : Array Slot), lv_has ls 5 [(4, .int (nI k)), (2, .long y), (0, .ref o0), (1, .int num)] → W p l e ({ frames := 2, cells := 0, slots := 0, locals := 49 } : Room) s m args below meth c H locs 0 0 (MQ below (va_Ql (fun zr (_ : Unit) => zr = (q_set w B num)) (fun _ => vq_T G A [(o0, .inr (6, [.int (nI rf), .ref mw, .int (nI S), .int (nI B), .ref mv, .int (nI nn), .int (nI dr), .ref mm, .ref mn, .int (nI pk), .long ps, .ref mo, .ref mb, .ref mr, .ref mq, .ref mrk, .ref mqk, .long red, .int rdn, .long (q_gen w B num), .int (nI (q_sz w B num)), .ref md])), (mw, .inl (G.2.1, 13, .inl (fun zz => nI ((q_w1 w) zz)))), (mv, .inl (G.2.1, 32, .inl vals)), (mm, .inl (G.2.2, 126, .inr (.inl msk))), (mn, .inl (G.2.1, 126, .inl nums)), (mo, .inl (G.2.1, 38, .inl (fun zz => nI (po zz)))), (mb, .inl (G.2.1, 38, .inl pb)), (mr, .inl (G.2.2, 38, .inr (.inl rows))), (mq, .inl (G.2.1, 38, .inl rv)), (mrk, .inl (G.2.2, 38, .inr (.inl rwk))), (mqk, .inl (G.2.1, 38, .inl rvk)), (md, .inl (G.2.1, 38, .inl (fun zz => nI ((q_rowS drw w B num) zz))))]) A) args s 0 0 A) (F0 m 10 ls []) := by
    intro fu
    induction fu with
    | zero => exact fun k y hm => absurd hm (Nat.not_lt_zero _)
    | succ fu ih =>
      intro k y hm10 e_y hk hz H locs h ls hl
      have ih10 := ih
      clear ih
      refine lv_iload hx hb dX6_maskOf_10 (lv_at hl 0 rfl) ?_
      refine lv_aload_n hx hb dX6_maskOf_12 rfl (lv_at hl 2 rfl) ?_
      refine q_get (Cn := RX6) (T := TX6) (N := 22) (ci := 6) (v := .int (nI (q_sz w B num))) C h iX6 0 rfl rfl 20 (by decide) f96 rfl dX6_maskOf_13 ?_
      refine q_icmp_ge (tgt := 37) hx hb (by omega) (by omega) dX6_maskOf_16 (by decide) (fun z16 => ?_) (fun z16 => ?_)
      · refine lv_lload_n hx hb dX6_maskOf_37 rfl (lv_at hl 1 rfl) ?_
        exact q_retl C h rfl (by rw [e_y, show k = q_sz w B num from by omega, q_or_set]) rfl dX6_maskOf_38
      · refine lv_lload_n hx hb dX6_maskOf_19 rfl (lv_at hl 1 rfl) ?_
        refine lv_lconst (v := 1) hx hb dX6_maskOf_20 (by decide) ?_
        refine lv_aload_n hx hb dX6_maskOf_21 rfl (lv_at hl 2 rfl) ?_
        refine q_get (Cn := RX6) (T := TX6) (N := 22) (ci := 6) (v := .ref md) C h iX6 0 rfl rfl 21 (by decide) f48 rfl dX6_maskOf_22 ?_
        refine lv_iload hx hb dX6_maskOf_25 (lv_at hl 0 rfl) ?_
        refine q_iald (i := k) (v := (nI ((q_rowS drw w B num) k))) C h 11 rfl (by omega) (by omega) rfl dX6_maskOf_27 ?_
        refine lv_lshl (v := q_bit (q_rowS drw w B num k)) hx hb dX6_maskOf_28 (q_shl _ (Nat.lt_of_lt_of_le (q_rowS_lt drw w B num k (by omega)) (by omega))) ?_
        refine lv_lor hx hb dX6_maskOf_29 ?_
        refine lv_lstore_n (lv' := [(2, .long (y ||| (q_bit (q_rowS drw w B num k)))), (4, .int (nI k)), (0, .ref o0), (1, .int num)]) hx hb dX6_maskOf_30 rfl hl (by decide) rfl (fun ls hl => ?_)
        refine lv_iinc (v := nI (k + 1)) (lv' := [(4, .int (nI (k + 1))), (2, .long (y ||| (q_bit (q_rowS drw w B num k)))), (0, .ref o0), (1, .int num)]) hx hb dX6_maskOf_31 hl (k := 1) rfl (q_inc k) (by decide) rfl (fun ls hl => ?_)
        refine lv_goto (tgt := 10) hx hb dX6_maskOf_34 (by decide) ?_
        exact ih10 (k + 1) (y ||| (q_bit (q_rowS drw w B num k))) (by omega) (show (y ||| (q_bit (q_rowS drw w B num k))) = q_or (q_rowS drw w B num) (k + 1) from (by rw [e_y]; rfl)) (show (k + 1) ≤ q_sz w B num from (by omega)) (show q_sz w B num ≤ B from hz) _ _ h _ (lv_sub hl [0, 1, 2, 3] rfl)
  exact loop10 (q_sz w B num - 0 + 1) 0 0 (Nat.lt_succ_self _) (show 0 = q_or (q_rowS drw w B num) 0 from rfl) (show 0 ≤ q_sz w B num from (Nat.zero_le _)) (show q_sz w B num ≤ B from (q_sz_le w B num)) _ _ h _ (lv_sub hl [0, 1, 2, 3] rfl)

set_option maxHeartbeats 4000000 in
set_option maxRecDepth 100000 in
theorem c_X6_numberOf (l : Launch) (G : vq_G) (o0 mw mv mm mn mo mb mr mq mrk mqk md : Nat) (rf S B nn dr pk : Nat) (ps red : Int64) (rdn : Int32) (gen : Int64) (dm : Nat) (w : Nat → Nat) (vals : Nat → Int32) (msk : Nat → Int64) (nums : Nat → Int32) (po : Nat → Nat) (pb : Nat → Int32) (rows : Nat → Int64) (rv : Nat → Int32) (rwk : Nat → Int64) (rvk : Nat → Int32) (drw : Nat → Nat) (num : Int32) (hW : ∀ j, w j ≤ 1000) (hs : 0 < q_sum w 12) (hS1 : 1 ≤ S) (hS : S ≤ 32) (hSB : S ≤ B) (hB : B ≤ S + 6) : vq_i l yX6_numberOf wsX6_numberOf 2 49 G [.ref o0, .int num] [(o0, .inr (6, [.int (nI rf), .ref mw, .int (nI S), .int (nI B), .ref mv, .int (nI nn), .int (nI dr), .ref mm, .ref mn, .int (nI pk), .long ps, .ref mo, .ref mb, .ref mr, .ref mq, .ref mrk, .ref mqk, .long red, .int rdn, .long gen, .int (nI dm), .ref md])), (mw, .inl (G.2.1, 13, .inl (fun zz => nI ((q_w1 w) zz)))), (mv, .inl (G.2.1, 32, .inl vals)), (mm, .inl (G.2.2, 126, .inr (.inl msk))), (mn, .inl (G.2.1, 126, .inl nums)), (mo, .inl (G.2.1, 38, .inl (fun zz => nI (po zz)))), (mb, .inl (G.2.1, 38, .inl pb)), (mr, .inl (G.2.2, 38, .inr (.inl rows))), (mq, .inl (G.2.1, 38, .inl rv)), (mrk, .inl (G.2.2, 38, .inr (.inl rwk))), (mqk, .inl (G.2.1, 38, .inl rvk)), (md, .inl (G.2.1, 38, .inl (fun zz => nI (drw zz))))] (q_nm vals S (q_blk w B num) (q_sz w B num)) [(o0, .inr (6, [.int (nI rf), .ref mw, .int (nI S), .int (nI B), .ref mv, .int (nI nn), .int (nI dr), .ref mm, .ref mn, .int (nI pk), .long ps, .ref mo, .ref mb, .ref mr, .ref mq, .ref mrk, .ref mqk, .long red, .int rdn, .long (q_gen w B num), .int (nI (q_sz w B num)), .ref md])), (mw, .inl (G.2.1, 13, .inl (fun zz => nI ((q_w1 w) zz)))), (mv, .inl (G.2.1, 32, .inl vals)), (mm, .inl (G.2.2, 126, .inr (.inl msk))), (mn, .inl (G.2.1, 126, .inl nums)), (mo, .inl (G.2.1, 38, .inl (fun zz => nI (po zz)))), (mb, .inl (G.2.1, 38, .inl pb)), (mr, .inl (G.2.2, 38, .inr (.inl rows))), (mq, .inl (G.2.1, 38, .inl rv)), (mrk, .inl (G.2.2, 38, .inr (.inl rwk))), (mqk, .inl (G.2.1, 38, .inl rvk)), (md, .inl (G.2.1, 38, .inl (fun zz => nI ((q_rowS drw w B num) zz))))] := by
  refine vq_openi (cc := cX6_numberOf) (maxL := 4) (ret := (some .int)) (Ts' := wsX6_numberOf.tail) (by decide) rfl (Nat.le_of_ble_eq_true rfl) ?_
  intro p e s m args below meth c A ls C h hnm hl
  have hx := C.1.1
  have hb := C.1.2.1
  have hts := C.1.2.2.2.2
  have hl : lv_has ls 4 [(0, .ref o0), (1, .int num)] := hl
  have f96 := C.1.2.2.2.2 (.fieldLink RX6 96 "FountainCodeModel" "drawnMany" "I") (by decide +kernel)
  have iX6 : ∀ w ∈ u_ws RX6 TX6 22, w ∈ wsX6_numberOf := by decide +kernel
  have f48 := C.1.2.2.2.2 (.fieldLink RX6 48 "FountainCodeModel" "drawn" "[I") (by decide +kernel)
  refine lv_aload_n hx hb dX6_numberOf_0 rfl (lv_at hl 0 rfl) ?_
  refine lv_iload_n hx hb dX6_numberOf_1 rfl (lv_at hl 1 rfl) ?_
  refine q_callVv C h (c_X6_drawDrop l G o0 mw mv mm mn mo mb mr mq mrk mqk md rf S B nn dr pk ps red rdn gen dm w vals msk nums po pb rows rv rwk rvk drw num hW hs (by omega) (by omega) (by omega) (by omega)) (cwV 1 hts gX6_numberOf_X6_drawDrop rfl rfl rfl (by decide +kernel) ⟨Nat.le_of_ble_eq_true rfl, Nat.le_of_ble_eq_true rfl⟩) [0, 1, 2, 3, 4, 5, 6, 7, 8, 9, 10, 11] rfl rfl [] (wr := []) rfl rfl (by decide) 0 rfl rfl rfl hl.1 rfl (Nat.le_of_ble_eq_true rfl) dX6_numberOf_2 ⟨Nat.zero_le _, Nat.zero_le _⟩ [0, 1, 2, 3, 4, 5, 6, 7, 8, 9, 10, 11] (w' := [(o0, .inr (6, [.int (nI rf), .ref mw, .int (nI S), .int (nI B), .ref mv, .int (nI nn), .int (nI dr), .ref mm, .ref mn, .int (nI pk), .long ps, .ref mo, .ref mb, .ref mr, .ref mq, .ref mrk, .ref mqk, .long red, .int rdn, .long (q_gen w B num), .int (nI (q_sz w B num)), .ref md])), (mw, .inl (G.2.1, 13, .inl (fun zz => nI ((q_w1 w) zz)))), (mv, .inl (G.2.1, 32, .inl vals)), (mm, .inl (G.2.2, 126, .inr (.inl msk))), (mn, .inl (G.2.1, 126, .inl nums)), (mo, .inl (G.2.1, 38, .inl (fun zz => nI (po zz)))), (mb, .inl (G.2.1, 38, .inl pb)), (mr, .inl (G.2.2, 38, .inr (.inl rows))), (mq, .inl (G.2.1, 38, .inl rv)), (mrk, .inl (G.2.2, 38, .inr (.inl rwk))), (mqk, .inl (G.2.1, 38, .inl rvk)), (md, .inl (G.2.1, 38, .inl (fun zz => nI ((q_rowS drw w B num) zz))))]) rfl rfl (fun H locs h => ?_)
  refine lv_iconst (v := nI 0) hx hb dX6_numberOf_5 (by decide) ?_
  refine lv_istore_n (lv' := [(2, .int (nI 0)), (0, .ref o0), (1, .int num)]) hx hb dX6_numberOf_6 rfl hl (by decide) rfl (fun ls hl => ?_)
  refine lv_iconst (v := nI 0) hx hb dX6_numberOf_7 (by decide) ?_
  refine lv_istore_n (lv' := [(3, .int (nI 0)), (2, .int (nI 0)), (0, .ref o0), (1, .int num)]) hx hb dX6_numberOf_8 rfl hl (by decide) rfl (fun ls hl => ?_)
  have loop9 : ∀ (fu : Nat) (k : Nat) (y : Int32), q_sz w B num - k < fu → y = q_nm vals S (q_rowS drw w B num) k → (k ≤ q_sz w B num) → (q_sz w B num ≤ B) → ∀ (H : Heap) (locs : List Loc), vq_H G A s [(o0, .inr (6, [.int (nI rf), .ref mw, .int (nI S), .int (nI B), .ref mv, .int (nI nn), .int (nI dr), .ref mm, .ref mn, .int (nI pk), .long ps, .ref mo, .ref mb, .ref mr, .ref mq, .ref mrk, .ref mqk, .long red, .int rdn, .long (q_gen w B num), .int (nI (q_sz w B num)), .ref md])), (mw, .inl (G.2.1, 13, .inl (fun zz => nI ((q_w1 w) zz)))), (mv, .inl (G.2.1, 32, .inl vals)), (mm, .inl (G.2.2, 126, .inr (.inl msk))), (mn, .inl (G.2.1, 126, .inl nums)), (mo, .inl (G.2.1, 38, .inl (fun zz => nI (po zz)))), (mb, .inl (G.2.1, 38, .inl pb)), (mr, .inl (G.2.2, 38, .inr (.inl rows))), (mq, .inl (G.2.1, 38, .inl rv)), (mrk, .inl (G.2.2, 38, .inr (.inl rwk))), (mqk, .inl (G.2.1, 38, .inl rvk)), (md, .inl (G.2.1, 38, .inl (fun zz => nI ((q_rowS drw w B num) zz))))] H locs → ∀ (ls : Array Slot), lv_has ls 4 [(3, .int (nI k)), (2, .int y), (0, .ref o0), (1, .int num)] → W p l e ({ frames := 2, cells := 0, slots := 0, locals := 49 } : Room) s m args below meth c H locs 0 0 (MQ below (va_Qi (fun zr (_ : Unit) => zr = (q_nm vals S (q_blk w B num) (q_sz w B num))) (fun _ => vq_T G A [(o0, .inr (6, [.int (nI rf), .ref mw, .int (nI S), .int (nI B), .ref mv, .int (nI nn), .int (nI dr), .ref mm, .ref mn, .int (nI pk), .long ps, .ref mo, .ref mb, .ref mr, .ref mq, .ref mrk, .ref mqk, .long red, .int rdn, .long (q_gen w B num), .int (nI (q_sz w B num)), .ref md])), (mw, .inl (G.2.1, 13, .inl (fun zz => nI ((q_w1 w) zz)))), (mv, .inl (G.2.1, 32, .inl vals)), (mm, .inl (G.2.2, 126, .inr (.inl msk))), (mn, .inl (G.2.1, 126, .inl nums)), (mo, .inl (G.2.1, 38, .inl (fun zz => nI (po zz)))), (mb, .inl (G.2.1, 38, .inl pb)), (mr, .inl (G.2.2, 38, .inr (.inl rows))), (mq, .inl (G.2.1, 38, .inl rv)), (mrk, .inl (G.2.2, 38, .inr (.inl rwk))), (mqk, .inl (G.2.1, 38, .inl rvk)), (md, .inl (G.2.1, 38, .inl (fun zz => nI ((q_rowS drw w B num) zz))))]) A) args s 0 0 A) (F0 m 9 ls []) := by
    intro fu
    induction fu with
    | zero => exact fun k y hm => absurd hm (Nat.not_lt_zero _)
    | succ fu ih =>
      intro k y hm9 e_y hk hz H locs h ls hl
      have ih9 := ih
      clear ih
      refine lv_iload_n hx hb dX6_numberOf_9 rfl (lv_at hl 0 rfl) ?_
      refine lv_aload_n hx hb dX6_numberOf_10 rfl (lv_at hl 2 rfl) ?_
      refine q_get (Cn := RX6) (T := TX6) (N := 22) (ci := 6) (v := .int (nI (q_sz w B num))) C h iX6 0 rfl rfl 20 (by decide) f96 rfl dX6_numberOf_11 ?_
      refine q_icmp_ge (tgt := 36) hx hb (by omega) (by omega) dX6_numberOf_14 (by decide) (fun z14 => ?_) (fun z14 => ?_)
      · refine lv_iload_n hx hb dX6_numberOf_36 rfl (lv_at hl 1 rfl) ?_
        exact q_reti C h rfl (by rw [e_y, show k = q_sz w B num from by omega]; exact q_nm_irr (fun i hi => q_rowS_at drw w B num hi) _ hz) rfl dX6_numberOf_37
      · refine lv_iload_n hx hb dX6_numberOf_17 rfl (lv_at hl 1 rfl) ?_
        refine lv_aload_n hx hb dX6_numberOf_18 rfl (lv_at hl 2 rfl) ?_
        refine lv_aload_n hx hb dX6_numberOf_19 rfl (lv_at hl 2 rfl) ?_
        refine q_get (Cn := RX6) (T := TX6) (N := 22) (ci := 6) (v := .ref md) C h iX6 0 rfl rfl 21 (by decide) f48 rfl dX6_numberOf_20 ?_
        refine lv_iload_n hx hb dX6_numberOf_23 rfl (lv_at hl 0 rfl) ?_
        refine q_iald (i := k) (v := (nI ((q_rowS drw w B num) k))) C h 11 rfl (by omega) (by omega) rfl dX6_numberOf_24 ?_
        refine q_callVi C h (c_X6_valueAt l G o0 mw mv mm mn mo mb mr mq mrk mqk md rf S B nn dr pk ps red rdn (q_gen w B num) (q_sz w B num) w vals msk nums po pb rows rv rwk rvk (q_rowS drw w B num) ((q_rowS drw w B num) k) (by omega) (by omega) (by omega) (by omega) (q_rowS_lt drw w B num k (by omega))) (cwV 1 hts gX6_numberOf_X6_valueAt rfl rfl rfl (by decide +kernel) ⟨Nat.le_of_ble_eq_true rfl, Nat.le_of_ble_eq_true rfl⟩) [0, 1, 2, 3, 4, 5, 6, 7, 8, 9, 10, 11] rfl rfl [] (wr := []) rfl rfl (by decide) 0 rfl rfl rfl hl.1 rfl (Nat.le_of_ble_eq_true rfl) dX6_numberOf_25 ⟨Nat.zero_le _, Nat.zero_le _⟩ [0, 1, 2, 3, 4, 5, 6, 7, 8, 9, 10, 11] (w' := [(o0, .inr (6, [.int (nI rf), .ref mw, .int (nI S), .int (nI B), .ref mv, .int (nI nn), .int (nI dr), .ref mm, .ref mn, .int (nI pk), .long ps, .ref mo, .ref mb, .ref mr, .ref mq, .ref mrk, .ref mqk, .long red, .int rdn, .long (q_gen w B num), .int (nI (q_sz w B num)), .ref md])), (mw, .inl (G.2.1, 13, .inl (fun zz => nI ((q_w1 w) zz)))), (mv, .inl (G.2.1, 32, .inl vals)), (mm, .inl (G.2.2, 126, .inr (.inl msk))), (mn, .inl (G.2.1, 126, .inl nums)), (mo, .inl (G.2.1, 38, .inl (fun zz => nI (po zz)))), (mb, .inl (G.2.1, 38, .inl pb)), (mr, .inl (G.2.2, 38, .inr (.inl rows))), (mq, .inl (G.2.1, 38, .inl rv)), (mrk, .inl (G.2.2, 38, .inr (.inl rwk))), (mqk, .inl (G.2.1, 38, .inl rvk)), (md, .inl (G.2.1, 38, .inl (fun zz => nI ((q_rowS drw w B num) zz))))]) rfl rfl (fun H locs h => ?_)
        refine lv_ixor hx hb dX6_numberOf_28 ?_
        refine lv_istore_n (lv' := [(2, .int (y ^^^ (q_va vals S ((q_rowS drw w B num) k)))), (3, .int (nI k)), (0, .ref o0), (1, .int num)]) hx hb dX6_numberOf_29 rfl hl (by decide) rfl (fun ls hl => ?_)
        refine lv_iinc (v := nI (k + 1)) (lv' := [(3, .int (nI (k + 1))), (2, .int (y ^^^ (q_va vals S ((q_rowS drw w B num) k)))), (0, .ref o0), (1, .int num)]) hx hb dX6_numberOf_30 hl (k := 1) rfl (q_inc k) (by decide) rfl (fun ls hl => ?_)
        refine lv_goto (tgt := 9) hx hb dX6_numberOf_33 (by decide) ?_
        exact ih9 (k + 1) (y ^^^ (q_va vals S ((q_rowS drw w B num) k))) (by omega) (show (y ^^^ (q_va vals S ((q_rowS drw w B num) k))) = q_nm vals S (q_rowS drw w B num) (k + 1) from (by rw [e_y]; rfl)) (show (k + 1) ≤ q_sz w B num from (by omega)) (show q_sz w B num ≤ B from hz) _ _ h _ (lv_sub hl [0, 1, 2, 3] rfl)
  exact loop9 (q_sz w B num - 0 + 1) 0 (nI 0) (Nat.lt_succ_self _) (show (nI 0) = q_nm vals S (q_rowS drw w B num) 0 from rfl) (show 0 ≤ q_sz w B num from (Nat.zero_le _)) (show q_sz w B num ≤ B from (q_sz_le w B num)) _ _ h _ (lv_sub hl [0, 1, 2, 3] rfl)

set_option maxHeartbeats 4000000 in
set_option maxRecDepth 100000 in
theorem c_X6_reduce (l : Launch) (G : vq_G) (o0 mw mv mm mn mo mb mr mq mrk mqk md : Nat) (rf S B nn dr pk : Nat) (ps red : Int64) (rdn : Int32) (gen : Int64) (dm : Nat) (w : Nat → Nat) (vals : Nat → Int32) (msk : Nat → Int64) (nums : Nat → Int32) (po : Nat → Nat) (pb : Nat → Int32) (rows : Nat → Int64) (rv : Nat → Int32) (rwk : Nat → Int64) (rvk : Nat → Int32) (drw : Nat → Nat) (x : Int64) (v : Int32) (hS1 : 1 ≤ S) (hS : S ≤ 32) (hSB : S ≤ B) (hB : B ≤ S + 6) : vq_v l yX6_reduce wsX6_reduce 0 0 G [.ref o0, .long x, .int v] [(o0, .inr (6, [.int (nI rf), .ref mw, .int (nI S), .int (nI B), .ref mv, .int (nI nn), .int (nI dr), .ref mm, .ref mn, .int (nI pk), .long ps, .ref mo, .ref mb, .ref mr, .ref mq, .ref mrk, .ref mqk, .long red, .int rdn, .long gen, .int (nI dm), .ref md])), (mw, .inl (G.2.1, 13, .inl (fun zz => nI ((q_w1 w) zz)))), (mv, .inl (G.2.1, 32, .inl vals)), (mm, .inl (G.2.2, 126, .inr (.inl msk))), (mn, .inl (G.2.1, 126, .inl nums)), (mo, .inl (G.2.1, 38, .inl (fun zz => nI (po zz)))), (mb, .inl (G.2.1, 38, .inl pb)), (mr, .inl (G.2.2, 38, .inr (.inl rows))), (mq, .inl (G.2.1, 38, .inl rv)), (mrk, .inl (G.2.2, 38, .inr (.inl rwk))), (mqk, .inl (G.2.1, 38, .inl rvk)), (md, .inl (G.2.1, 38, .inl (fun zz => nI (drw zz))))]  [(o0, .inr (6, [.int (nI rf), .ref mw, .int (nI S), .int (nI B), .ref mv, .int (nI nn), .int (nI dr), .ref mm, .ref mn, .int (nI pk), .long ps, .ref mo, .ref mb, .ref mr, .ref mq, .ref mrk, .ref mqk, .long (q_rdF rows x B), .int (q_rnF rows rv x v B), .long gen, .int (nI dm), .ref md])), (mw, .inl (G.2.1, 13, .inl (fun zz => nI ((q_w1 w) zz)))), (mv, .inl (G.2.1, 32, .inl vals)), (mm, .inl (G.2.2, 126, .inr (.inl msk))), (mn, .inl (G.2.1, 126, .inl nums)), (mo, .inl (G.2.1, 38, .inl (fun zz => nI (po zz)))), (mb, .inl (G.2.1, 38, .inl pb)), (mr, .inl (G.2.2, 38, .inr (.inl rows))), (mq, .inl (G.2.1, 38, .inl rv)), (mrk, .inl (G.2.2, 38, .inr (.inl rwk))), (mqk, .inl (G.2.1, 38, .inl rvk)), (md, .inl (G.2.1, 38, .inl (fun zz => nI (drw zz))))] := by
  refine vq_openv (cc := cX6_reduce) (maxL := 5) (ret := none) (Ts' := wsX6_reduce.tail) (by decide) rfl (Nat.le_of_ble_eq_true rfl) ?_
  intro p e s m args below meth c A ls C h hnm hl
  have hx := C.1.1
  have hb := C.1.2.1
  have hts := C.1.2.2.2.2
  have hl : lv_has ls 5 [(0, .ref o0), (1, .long x), (3, .int v)] := hl
  have f106 := C.1.2.2.2.2 (.fieldLink RX6 106 "FountainCodeModel" "reduced" "J") (by decide +kernel)
  have iX6 : ∀ w ∈ u_ws RX6 TX6 22, w ∈ wsX6_reduce := by decide +kernel
  have f109 := C.1.2.2.2.2 (.fieldLink RX6 109 "FountainCodeModel" "reducedNumber" "I") (by decide +kernel)
  have f17 := C.1.2.2.2.2 (.fieldLink RX6 17 "FountainCodeModel" "blocks" "I") (by decide +kernel)
  have f36 := C.1.2.2.2.2 (.fieldLink RX6 36 "FountainCodeModel" "rows" "[J") (by decide +kernel)
  have f39 := C.1.2.2.2.2 (.fieldLink RX6 39 "FountainCodeModel" "rowNumbers" "[I") (by decide +kernel)
  refine lv_aload_n hx hb dX6_reduce_0 rfl (lv_at hl 0 rfl) ?_
  refine lv_lload_n hx hb dX6_reduce_1 rfl (lv_at hl 1 rfl) ?_
  refine q_put (Cn := RX6) (T := TX6) (N := 22) (ci := 6) (v := .long x) (w' := [(o0, .inr (6, [.int (nI rf), .ref mw, .int (nI S), .int (nI B), .ref mv, .int (nI nn), .int (nI dr), .ref mm, .ref mn, .int (nI pk), .long ps, .ref mo, .ref mb, .ref mr, .ref mq, .ref mrk, .ref mqk, .long x, .int rdn, .long gen, .int (nI dm), .ref md])), (mw, .inl (G.2.1, 13, .inl (fun zz => nI ((q_w1 w) zz)))), (mv, .inl (G.2.1, 32, .inl vals)), (mm, .inl (G.2.2, 126, .inr (.inl msk))), (mn, .inl (G.2.1, 126, .inl nums)), (mo, .inl (G.2.1, 38, .inl (fun zz => nI (po zz)))), (mb, .inl (G.2.1, 38, .inl pb)), (mr, .inl (G.2.2, 38, .inr (.inl rows))), (mq, .inl (G.2.1, 38, .inl rv)), (mrk, .inl (G.2.2, 38, .inr (.inl rwk))), (mqk, .inl (G.2.1, 38, .inl rvk)), (md, .inl (G.2.1, 38, .inl (fun zz => nI (drw zz))))]) C h iX6 tyX6 tyX6_ok nmX6 0 rfl rfl 17 (by decide) f106 rfl rfl rfl (Nat.le_of_ble_eq_true rfl) dX6_reduce_2 rfl (fun H locs h => ?_)
  refine lv_aload_n hx hb dX6_reduce_5 rfl (lv_at hl 0 rfl) ?_
  refine lv_iload_n hx hb dX6_reduce_6 rfl (lv_at hl 2 rfl) ?_
  refine q_put (Cn := RX6) (T := TX6) (N := 22) (ci := 6) (v := .int v) (w' := [(o0, .inr (6, [.int (nI rf), .ref mw, .int (nI S), .int (nI B), .ref mv, .int (nI nn), .int (nI dr), .ref mm, .ref mn, .int (nI pk), .long ps, .ref mo, .ref mb, .ref mr, .ref mq, .ref mrk, .ref mqk, .long x, .int v, .long gen, .int (nI dm), .ref md])), (mw, .inl (G.2.1, 13, .inl (fun zz => nI ((q_w1 w) zz)))), (mv, .inl (G.2.1, 32, .inl vals)), (mm, .inl (G.2.2, 126, .inr (.inl msk))), (mn, .inl (G.2.1, 126, .inl nums)), (mo, .inl (G.2.1, 38, .inl (fun zz => nI (po zz)))), (mb, .inl (G.2.1, 38, .inl pb)), (mr, .inl (G.2.2, 38, .inr (.inl rows))), (mq, .inl (G.2.1, 38, .inl rv)), (mrk, .inl (G.2.2, 38, .inr (.inl rwk))), (mqk, .inl (G.2.1, 38, .inl rvk)), (md, .inl (G.2.1, 38, .inl (fun zz => nI (drw zz))))]) C h iX6 tyX6 tyX6_ok nmX6 0 rfl rfl 18 (by decide) f109 rfl rfl rfl (Nat.le_of_ble_eq_true rfl) dX6_reduce_7 rfl (fun H locs h => ?_)
  refine lv_iconst (v := nI 0) hx hb dX6_reduce_10 (by decide) ?_
  refine lv_istore (lv' := [(4, .int (nI 0)), (0, .ref o0), (1, .long x), (3, .int v)]) hx hb dX6_reduce_11 hl (by decide) rfl (fun ls hl => ?_)
  have loop13 : ∀ (fu : Nat) (k : Nat) (r1 : Int64) (n1 : Int32), B - k < fu → r1 = q_rdF rows x k → n1 = q_rnF rows rv x v k → (k ≤ B) → ∀ (H : Heap) (locs : List Loc), vq_H G A s [(o0, .inr (6, [.int (nI rf), .ref mw, .int (nI S), .int (nI B), .ref mv, .int (nI nn), .int (nI dr), .ref mm, .ref mn, .int (nI pk), .long ps, .ref mo, .ref mb, .ref mr, .ref mq, .ref mrk, .ref mqk, .long r1, .int n1, .long gen, .int (nI dm), .ref md])), (mw, .inl (G.2.1, 13, .inl (fun zz => nI ((q_w1 w) zz)))), (mv, .inl (G.2.1, 32, .inl vals)), (mm, .inl (G.2.2, 126, .inr (.inl msk))), (mn, .inl (G.2.1, 126, .inl nums)), (mo, .inl (G.2.1, 38, .inl (fun zz => nI (po zz)))), (mb, .inl (G.2.1, 38, .inl pb)), (mr, .inl (G.2.2, 38, .inr (.inl rows))), (mq, .inl (G.2.1, 38, .inl rv)), (mrk, .inl (G.2.2, 38, .inr (.inl rwk))), (mqk, .inl (G.2.1, 38, .inl rvk)), (md, .inl (G.2.1, 38, .inl (fun zz => nI (drw zz))))] H locs → ∀ (ls : Array Slot), lv_has ls 5 [(4, .int (nI k)), (0, .ref o0), (1, .long x), (3, .int v)] → W p l e ({ frames := 0, cells := 0, slots := 0, locals := 0 } : Room) s m args below meth c H locs 0 0 (MQ below (va_Qv (fun (_ : Unit) => True) (fun _ => vq_T G A [(o0, .inr (6, [.int (nI rf), .ref mw, .int (nI S), .int (nI B), .ref mv, .int (nI nn), .int (nI dr), .ref mm, .ref mn, .int (nI pk), .long ps, .ref mo, .ref mb, .ref mr, .ref mq, .ref mrk, .ref mqk, .long (q_rdF rows x B), .int (q_rnF rows rv x v B), .long gen, .int (nI dm), .ref md])), (mw, .inl (G.2.1, 13, .inl (fun zz => nI ((q_w1 w) zz)))), (mv, .inl (G.2.1, 32, .inl vals)), (mm, .inl (G.2.2, 126, .inr (.inl msk))), (mn, .inl (G.2.1, 126, .inl nums)), (mo, .inl (G.2.1, 38, .inl (fun zz => nI (po zz)))), (mb, .inl (G.2.1, 38, .inl pb)), (mr, .inl (G.2.2, 38, .inr (.inl rows))), (mq, .inl (G.2.1, 38, .inl rv)), (mrk, .inl (G.2.2, 38, .inr (.inl rwk))), (mqk, .inl (G.2.1, 38, .inl rvk)), (md, .inl (G.2.1, 38, .inl (fun zz => nI (drw zz))))]) A) args s 0 0 A) (F0 m 13 ls []) := by
    intro fu
    induction fu with
    | zero => exact fun k r1 n1 hm => absurd hm (Nat.not_lt_zero _)
    | succ fu ih =>
      intro k r1 n1 hm13 e_r1 e_n1 hk H locs h ls hl
      have ih13 := ih
      clear ih
      refine lv_iload hx hb dX6_reduce_13 (lv_at hl 0 rfl) ?_
      refine lv_aload_n hx hb dX6_reduce_15 rfl (lv_at hl 1 rfl) ?_
      refine q_get (Cn := RX6) (T := TX6) (N := 22) (ci := 6) (v := .int (nI B)) C h iX6 0 rfl rfl 3 (by decide) f17 rfl dX6_reduce_16 ?_
      refine q_icmp_ge (tgt := 86) hx hb (by omega) (by omega) dX6_reduce_19 (by decide) (fun z19 => ?_) (fun z19 => ?_)
      · exact q_retv C h rfl (by rw [e_r1, e_n1, show k = B from by omega]) dX6_reduce_86
      · refine lv_aload_n hx hb dX6_reduce_22 rfl (lv_at hl 1 rfl) ?_
        refine q_get (Cn := RX6) (T := TX6) (N := 22) (ci := 6) (v := .long r1) C h iX6 0 rfl rfl 17 (by decide) f106 rfl dX6_reduce_23 ?_
        refine lv_iload hx hb dX6_reduce_26 (lv_at hl 0 rfl) ?_
        refine lv_lshr (v := r1 >>> ((nI k).toInt64 &&& 63)) hx hb dX6_reduce_28 rfl ?_
        refine lv_lconst (v := 1) hx hb dX6_reduce_29 (by decide) ?_
        refine lv_land hx hb dX6_reduce_30 ?_
        refine lv_lconst (v := 1) hx hb dX6_reduce_31 (by decide) ?_
        refine q_lif_ne (tgt := 80) hx hb dX6_reduce_32 dX6_reduce_33 (by decide) (fun z33 => ?_) (fun z33 => ?_)
        · have t33 := q_tstN1 (by omega) z33
          refine lv_iinc (v := nI (k + 1)) (lv' := [(4, .int (nI (k + 1))), (0, .ref o0), (1, .long x), (3, .int v)]) hx hb dX6_reduce_80 hl (k := 0) rfl (q_inc k) (by decide) rfl (fun ls hl => ?_)
          refine lv_goto (tgt := 13) hx hb dX6_reduce_83 (by decide) ?_
          exact ih13 (k + 1) r1 n1 (by omega) (show r1 = q_rdF rows x (k + 1) from (by subst e_r1; first | simp [q_rdF, t33, z45] | simp [q_rdF, t33])) (show n1 = q_rnF rows rv x v (k + 1) from (by subst e_r1; subst e_n1; first | simp [q_rnF, t33, z45] | simp [q_rnF, t33])) (show (k + 1) ≤ B from (by omega)) _ _ h _ (lv_sub hl [0, 1, 2, 3] rfl)
        · have t33 := q_tst1 (by omega) z33
          refine lv_aload_n hx hb dX6_reduce_36 rfl (lv_at hl 1 rfl) ?_
          refine q_get (Cn := RX6) (T := TX6) (N := 22) (ci := 6) (v := .ref mr) C h iX6 0 rfl rfl 13 (by decide) f36 rfl dX6_reduce_37 ?_
          refine lv_iload hx hb dX6_reduce_40 (lv_at hl 0 rfl) ?_
          refine q_lald (i := k) (v := rows k) C h 7 rfl (by omega) (by omega) rfl dX6_reduce_42 ?_
          refine lv_lconst (v := 0) hx hb dX6_reduce_43 (by decide) ?_
          refine q_lif_eq (tgt := 80) hx hb dX6_reduce_44 dX6_reduce_45 (by decide) (fun z45 => ?_) (fun z45 => ?_)
          · refine lv_iinc (v := nI (k + 1)) (lv' := [(4, .int (nI (k + 1))), (0, .ref o0), (1, .long x), (3, .int v)]) hx hb dX6_reduce_80 hl (k := 0) rfl (q_inc k) (by decide) rfl (fun ls hl => ?_)
            refine lv_goto (tgt := 13) hx hb dX6_reduce_83 (by decide) ?_
            exact ih13 (k + 1) r1 n1 (by omega) (show r1 = q_rdF rows x (k + 1) from (by subst e_r1; first | simp [q_rdF, t33, z45] | simp [q_rdF, t33])) (show n1 = q_rnF rows rv x v (k + 1) from (by subst e_r1; subst e_n1; first | simp [q_rnF, t33, z45] | simp [q_rnF, t33])) (show (k + 1) ≤ B from (by omega)) _ _ h _ (lv_sub hl [0, 1, 2, 3] rfl)
          · refine lv_aload_n hx hb dX6_reduce_48 rfl (lv_at hl 1 rfl) ?_
            refine lv_dup hx hb dX6_reduce_49 rfl ?_
            refine q_get (Cn := RX6) (T := TX6) (N := 22) (ci := 6) (v := .long r1) C h iX6 0 rfl rfl 17 (by decide) f106 rfl dX6_reduce_50 ?_
            refine lv_aload_n hx hb dX6_reduce_53 rfl (lv_at hl 1 rfl) ?_
            refine q_get (Cn := RX6) (T := TX6) (N := 22) (ci := 6) (v := .ref mr) C h iX6 0 rfl rfl 13 (by decide) f36 rfl dX6_reduce_54 ?_
            refine lv_iload hx hb dX6_reduce_57 (lv_at hl 0 rfl) ?_
            refine q_lald (i := k) (v := rows k) C h 7 rfl (by omega) (by omega) rfl dX6_reduce_59 ?_
            refine lv_lxor hx hb dX6_reduce_60 ?_
            refine q_put (Cn := RX6) (T := TX6) (N := 22) (ci := 6) (v := .long (r1 ^^^ (rows k))) (w' := [(o0, .inr (6, [.int (nI rf), .ref mw, .int (nI S), .int (nI B), .ref mv, .int (nI nn), .int (nI dr), .ref mm, .ref mn, .int (nI pk), .long ps, .ref mo, .ref mb, .ref mr, .ref mq, .ref mrk, .ref mqk, .long (r1 ^^^ (rows k)), .int n1, .long gen, .int (nI dm), .ref md])), (mw, .inl (G.2.1, 13, .inl (fun zz => nI ((q_w1 w) zz)))), (mv, .inl (G.2.1, 32, .inl vals)), (mm, .inl (G.2.2, 126, .inr (.inl msk))), (mn, .inl (G.2.1, 126, .inl nums)), (mo, .inl (G.2.1, 38, .inl (fun zz => nI (po zz)))), (mb, .inl (G.2.1, 38, .inl pb)), (mr, .inl (G.2.2, 38, .inr (.inl rows))), (mq, .inl (G.2.1, 38, .inl rv)), (mrk, .inl (G.2.2, 38, .inr (.inl rwk))), (mqk, .inl (G.2.1, 38, .inl rvk)), (md, .inl (G.2.1, 38, .inl (fun zz => nI (drw zz))))]) C h iX6 tyX6 tyX6_ok nmX6 0 rfl rfl 17 (by decide) f106 rfl rfl rfl (Nat.le_of_ble_eq_true rfl) dX6_reduce_61 rfl (fun H locs h => ?_)
            refine lv_aload_n hx hb dX6_reduce_64 rfl (lv_at hl 1 rfl) ?_
            refine lv_dup hx hb dX6_reduce_65 rfl ?_
            refine q_get (Cn := RX6) (T := TX6) (N := 22) (ci := 6) (v := .int n1) C h iX6 0 rfl rfl 18 (by decide) f109 rfl dX6_reduce_66 ?_
            refine lv_aload_n hx hb dX6_reduce_69 rfl (lv_at hl 1 rfl) ?_
            refine q_get (Cn := RX6) (T := TX6) (N := 22) (ci := 6) (v := .ref mq) C h iX6 0 rfl rfl 14 (by decide) f39 rfl dX6_reduce_70 ?_
            refine lv_iload hx hb dX6_reduce_73 (lv_at hl 0 rfl) ?_
            refine q_iald (i := k) (v := (rv k)) C h 8 rfl (by omega) (by omega) rfl dX6_reduce_75 ?_
            refine lv_ixor hx hb dX6_reduce_76 ?_
            refine q_put (Cn := RX6) (T := TX6) (N := 22) (ci := 6) (v := .int (n1 ^^^ (rv k))) (w' := [(o0, .inr (6, [.int (nI rf), .ref mw, .int (nI S), .int (nI B), .ref mv, .int (nI nn), .int (nI dr), .ref mm, .ref mn, .int (nI pk), .long ps, .ref mo, .ref mb, .ref mr, .ref mq, .ref mrk, .ref mqk, .long (r1 ^^^ (rows k)), .int (n1 ^^^ (rv k)), .long gen, .int (nI dm), .ref md])), (mw, .inl (G.2.1, 13, .inl (fun zz => nI ((q_w1 w) zz)))), (mv, .inl (G.2.1, 32, .inl vals)), (mm, .inl (G.2.2, 126, .inr (.inl msk))), (mn, .inl (G.2.1, 126, .inl nums)), (mo, .inl (G.2.1, 38, .inl (fun zz => nI (po zz)))), (mb, .inl (G.2.1, 38, .inl pb)), (mr, .inl (G.2.2, 38, .inr (.inl rows))), (mq, .inl (G.2.1, 38, .inl rv)), (mrk, .inl (G.2.2, 38, .inr (.inl rwk))), (mqk, .inl (G.2.1, 38, .inl rvk)), (md, .inl (G.2.1, 38, .inl (fun zz => nI (drw zz))))]) C h iX6 tyX6 tyX6_ok nmX6 0 rfl rfl 18 (by decide) f109 rfl rfl rfl (Nat.le_of_ble_eq_true rfl) dX6_reduce_77 rfl (fun H locs h => ?_)
            refine lv_iinc (v := nI (k + 1)) (lv' := [(4, .int (nI (k + 1))), (0, .ref o0), (1, .long x), (3, .int v)]) hx hb dX6_reduce_80 hl (k := 0) rfl (q_inc k) (by decide) rfl (fun ls hl => ?_)
            refine lv_goto (tgt := 13) hx hb dX6_reduce_83 (by decide) ?_
            exact ih13 (k + 1) (r1 ^^^ (rows k)) (n1 ^^^ (rv k)) (by omega) (show (r1 ^^^ (rows k)) = q_rdF rows x (k + 1) from (by subst e_r1; first | simp [q_rdF, t33, z45] | simp [q_rdF, t33])) (show (n1 ^^^ (rv k)) = q_rnF rows rv x v (k + 1) from (by subst e_r1; subst e_n1; first | simp [q_rnF, t33, z45] | simp [q_rnF, t33])) (show (k + 1) ≤ B from (by omega)) _ _ h _ (lv_sub hl [0, 1, 2, 3] rfl)
  exact loop13 (B - 0 + 1) 0 x v (Nat.lt_succ_self _) (show x = q_rdF rows x 0 from rfl) (show v = q_rnF rows rv x v 0 from rfl) (show 0 ≤ B from (Nat.zero_le _)) _ _ h _ (lv_sub hl [0, 1, 2, 3] rfl)

set_option maxHeartbeats 4000000 in
set_option maxRecDepth 100000 in
theorem c_X6_layRow (l : Launch) (G : vq_G) (o0 mw mv mm mn mo mb mr mq mrk mqk md : Nat) (rf S B nn dr pk : Nat) (ps red : Int64) (rdn : Int32) (gen : Int64) (dm : Nat) (w : Nat → Nat) (vals : Nat → Int32) (msk : Nat → Int64) (nums : Nat → Int32) (po : Nat → Nat) (pb : Nat → Int32) (rows : Nat → Int64) (rv : Nat → Int32) (rwk : Nat → Int64) (rvk : Nat → Int32) (drw : Nat → Nat) (hS1 : 1 ≤ S) (hS : S ≤ 32) (hSB : S ≤ B) (hB : B ≤ S + 6) (hlr : red ≠ 0 → q_low red < 38) : vq_v l yX6_layRow wsX6_layRow 0 0 G [.ref o0] [(o0, .inr (6, [.int (nI rf), .ref mw, .int (nI S), .int (nI B), .ref mv, .int (nI nn), .int (nI dr), .ref mm, .ref mn, .int (nI pk), .long ps, .ref mo, .ref mb, .ref mr, .ref mq, .ref mrk, .ref mqk, .long red, .int rdn, .long gen, .int (nI dm), .ref md])), (mw, .inl (G.2.1, 13, .inl (fun zz => nI ((q_w1 w) zz)))), (mv, .inl (G.2.1, 32, .inl vals)), (mm, .inl (G.2.2, 126, .inr (.inl msk))), (mn, .inl (G.2.1, 126, .inl nums)), (mo, .inl (G.2.1, 38, .inl (fun zz => nI (po zz)))), (mb, .inl (G.2.1, 38, .inl pb)), (mr, .inl (G.2.2, 38, .inr (.inl rows))), (mq, .inl (G.2.1, 38, .inl rv)), (mrk, .inl (G.2.2, 38, .inr (.inl rwk))), (mqk, .inl (G.2.1, 38, .inl rvk)), (md, .inl (G.2.1, 38, .inl (fun zz => nI (drw zz))))]  [(o0, .inr (6, [.int (nI rf), .ref mw, .int (nI S), .int (nI B), .ref mv, .int (nI nn), .int (nI dr), .ref mm, .ref mn, .int (nI pk), .long ps, .ref mo, .ref mb, .ref mr, .ref mq, .ref mrk, .ref mqk, .long red, .int rdn, .long gen, .int (nI dm), .ref md])), (mw, .inl (G.2.1, 13, .inl (fun zz => nI ((q_w1 w) zz)))), (mv, .inl (G.2.1, 32, .inl vals)), (mm, .inl (G.2.2, 126, .inr (.inl msk))), (mn, .inl (G.2.1, 126, .inl nums)), (mo, .inl (G.2.1, 38, .inl (fun zz => nI (po zz)))), (mb, .inl (G.2.1, 38, .inl pb)), (mr, .inl (G.2.2, 38, .inr (.inl (q_layR rows red B)))), (mq, .inl (G.2.1, 38, .inl (q_layV rows rv red rdn B))), (mrk, .inl (G.2.2, 38, .inr (.inl rwk))), (mqk, .inl (G.2.1, 38, .inl rvk)), (md, .inl (G.2.1, 38, .inl (fun zz => nI (drw zz))))] := by
  refine vq_openv (cc := cX6_layRow) (maxL := 3) (ret := none) (Ts' := wsX6_layRow.tail) (by decide) rfl (Nat.le_of_ble_eq_true rfl) ?_
  intro p e s m args below meth c A ls C h hnm hl
  have hx := C.1.1
  have hb := C.1.2.1
  have hts := C.1.2.2.2.2
  have hl : lv_has ls 3 [(0, .ref o0)] := hl
  have f106 := C.1.2.2.2.2 (.fieldLink RX6 106 "FountainCodeModel" "reduced" "J") (by decide +kernel)
  have iX6 : ∀ w ∈ u_ws RX6 TX6 22, w ∈ wsX6_layRow := by decide +kernel
  have f17 := C.1.2.2.2.2 (.fieldLink RX6 17 "FountainCodeModel" "blocks" "I") (by decide +kernel)
  have f36 := C.1.2.2.2.2 (.fieldLink RX6 36 "FountainCodeModel" "rows" "[J") (by decide +kernel)
  have f39 := C.1.2.2.2.2 (.fieldLink RX6 39 "FountainCodeModel" "rowNumbers" "[I") (by decide +kernel)
  have f109 := C.1.2.2.2.2 (.fieldLink RX6 109 "FountainCodeModel" "reducedNumber" "I") (by decide +kernel)
  refine lv_aload_n hx hb dX6_layRow_0 rfl (lv_at hl 0 rfl) ?_
  refine q_get (Cn := RX6) (T := TX6) (N := 22) (ci := 6) (v := .long red) C h iX6 0 rfl rfl 17 (by decide) f106 rfl dX6_layRow_1 ?_
  refine lv_lconst (v := 0) hx hb dX6_layRow_4 (by decide) ?_
  refine q_lif_ne (tgt := 10) hx hb dX6_layRow_5 dX6_layRow_6 (by decide) (fun z6 => ?_) (fun z6 => ?_)
  · have hl38 := hlr z6
    have hpl := q_low_lt z6
    refine lv_iconst (v := nI 0) hx hb dX6_layRow_10 (by decide) ?_
    refine lv_istore_n (lv' := [(1, .int (nI 0)), (0, .ref o0)]) hx hb dX6_layRow_11 rfl hl (by decide) rfl (fun ls hl => ?_)
    have loop12 : ∀ (fu : Nat) (b : Nat), 64 - b < fu → (b ≤ q_low red) → ∀ (H : Heap) (locs : List Loc), vq_H G A s [(o0, .inr (6, [.int (nI rf), .ref mw, .int (nI S), .int (nI B), .ref mv, .int (nI nn), .int (nI dr), .ref mm, .ref mn, .int (nI pk), .long ps, .ref mo, .ref mb, .ref mr, .ref mq, .ref mrk, .ref mqk, .long red, .int rdn, .long gen, .int (nI dm), .ref md])), (mw, .inl (G.2.1, 13, .inl (fun zz => nI ((q_w1 w) zz)))), (mv, .inl (G.2.1, 32, .inl vals)), (mm, .inl (G.2.2, 126, .inr (.inl msk))), (mn, .inl (G.2.1, 126, .inl nums)), (mo, .inl (G.2.1, 38, .inl (fun zz => nI (po zz)))), (mb, .inl (G.2.1, 38, .inl pb)), (mr, .inl (G.2.2, 38, .inr (.inl rows))), (mq, .inl (G.2.1, 38, .inl rv)), (mrk, .inl (G.2.2, 38, .inr (.inl rwk))), (mqk, .inl (G.2.1, 38, .inl rvk)), (md, .inl (G.2.1, 38, .inl (fun zz => nI (drw zz))))] H locs → ∀ (ls : Array Slot), lv_has ls 3 [(1, .int (nI b)), (0, .ref o0)] → W p l e ({ frames := 0, cells := 0, slots := 0, locals := 0 } : Room) s m args below meth c H locs 0 0 (MQ below (va_Qv (fun (_ : Unit) => True) (fun _ => vq_T G A [(o0, .inr (6, [.int (nI rf), .ref mw, .int (nI S), .int (nI B), .ref mv, .int (nI nn), .int (nI dr), .ref mm, .ref mn, .int (nI pk), .long ps, .ref mo, .ref mb, .ref mr, .ref mq, .ref mrk, .ref mqk, .long red, .int rdn, .long gen, .int (nI dm), .ref md])), (mw, .inl (G.2.1, 13, .inl (fun zz => nI ((q_w1 w) zz)))), (mv, .inl (G.2.1, 32, .inl vals)), (mm, .inl (G.2.2, 126, .inr (.inl msk))), (mn, .inl (G.2.1, 126, .inl nums)), (mo, .inl (G.2.1, 38, .inl (fun zz => nI (po zz)))), (mb, .inl (G.2.1, 38, .inl pb)), (mr, .inl (G.2.2, 38, .inr (.inl (q_layR rows red B)))), (mq, .inl (G.2.1, 38, .inl (q_layV rows rv red rdn B))), (mrk, .inl (G.2.2, 38, .inr (.inl rwk))), (mqk, .inl (G.2.1, 38, .inl rvk)), (md, .inl (G.2.1, 38, .inl (fun zz => nI (drw zz))))]) A) args s 0 0 A) (F0 m 12 ls []) := by
      intro fu
      induction fu with
      | zero => exact fun b hm => absurd hm (Nat.not_lt_zero _)
      | succ fu ih =>
        intro b hm12 hbl H locs h ls hl
        have ih12 := ih
        clear ih
        refine lv_aload_n hx hb dX6_layRow_12 rfl (lv_at hl 1 rfl) ?_
        refine q_get (Cn := RX6) (T := TX6) (N := 22) (ci := 6) (v := .long red) C h iX6 0 rfl rfl 17 (by decide) f106 rfl dX6_layRow_13 ?_
        refine lv_iload_n hx hb dX6_layRow_16 rfl (lv_at hl 0 rfl) ?_
        refine lv_lshr (v := red >>> ((nI b).toInt64 &&& 63)) hx hb dX6_layRow_17 rfl ?_
        refine lv_lconst (v := 1) hx hb dX6_layRow_18 (by decide) ?_
        refine lv_land hx hb dX6_layRow_19 ?_
        refine lv_lconst (v := 0) hx hb dX6_layRow_20 (by decide) ?_
        refine q_lif_ne (tgt := 31) hx hb dX6_layRow_21 dX6_layRow_22 (by decide) (fun z22 => ?_) (fun z22 => ?_)
        · have hbe : b = q_low red := q_low_at (q_tstN0 (by omega) z22) hbl
          refine lv_iconst (v := nI 0) hx hb dX6_layRow_31 (by decide) ?_
          refine lv_istore_n (lv' := [(2, .int (nI 0)), (1, .int (nI b)), (0, .ref o0)]) hx hb dX6_layRow_32 rfl hl (by decide) rfl (fun ls hl => ?_)
          have loop33 : ∀ (fu : Nat) (k : Nat) (f : Nat → Int64) (g : Nat → Int32), B - k < fu → f = q_elR rows red (q_low red) k → g = q_elV rows rv rdn (q_low red) k → (k ≤ B) → ∀ (H : Heap) (locs : List Loc), vq_H G A s [(o0, .inr (6, [.int (nI rf), .ref mw, .int (nI S), .int (nI B), .ref mv, .int (nI nn), .int (nI dr), .ref mm, .ref mn, .int (nI pk), .long ps, .ref mo, .ref mb, .ref mr, .ref mq, .ref mrk, .ref mqk, .long red, .int rdn, .long gen, .int (nI dm), .ref md])), (mw, .inl (G.2.1, 13, .inl (fun zz => nI ((q_w1 w) zz)))), (mv, .inl (G.2.1, 32, .inl vals)), (mm, .inl (G.2.2, 126, .inr (.inl msk))), (mn, .inl (G.2.1, 126, .inl nums)), (mo, .inl (G.2.1, 38, .inl (fun zz => nI (po zz)))), (mb, .inl (G.2.1, 38, .inl pb)), (mr, .inl (G.2.2, 38, .inr (.inl f))), (mq, .inl (G.2.1, 38, .inl g)), (mrk, .inl (G.2.2, 38, .inr (.inl rwk))), (mqk, .inl (G.2.1, 38, .inl rvk)), (md, .inl (G.2.1, 38, .inl (fun zz => nI (drw zz))))] H locs → ∀ (ls : Array Slot), lv_has ls 3 [(2, .int (nI k)), (1, .int (nI b)), (0, .ref o0)] → W p l e ({ frames := 0, cells := 0, slots := 0, locals := 0 } : Room) s m args below meth c H locs 0 0 (MQ below (va_Qv (fun (_ : Unit) => True) (fun _ => vq_T G A [(o0, .inr (6, [.int (nI rf), .ref mw, .int (nI S), .int (nI B), .ref mv, .int (nI nn), .int (nI dr), .ref mm, .ref mn, .int (nI pk), .long ps, .ref mo, .ref mb, .ref mr, .ref mq, .ref mrk, .ref mqk, .long red, .int rdn, .long gen, .int (nI dm), .ref md])), (mw, .inl (G.2.1, 13, .inl (fun zz => nI ((q_w1 w) zz)))), (mv, .inl (G.2.1, 32, .inl vals)), (mm, .inl (G.2.2, 126, .inr (.inl msk))), (mn, .inl (G.2.1, 126, .inl nums)), (mo, .inl (G.2.1, 38, .inl (fun zz => nI (po zz)))), (mb, .inl (G.2.1, 38, .inl pb)), (mr, .inl (G.2.2, 38, .inr (.inl (q_layR rows red B)))), (mq, .inl (G.2.1, 38, .inl (q_layV rows rv red rdn B))), (mrk, .inl (G.2.2, 38, .inr (.inl rwk))), (mqk, .inl (G.2.1, 38, .inl rvk)), (md, .inl (G.2.1, 38, .inl (fun zz => nI (drw zz))))]) A) args s 0 0 A) (F0 m 33 ls []) := by
            intro fu
            induction fu with
            | zero => exact fun k f g hm => absurd hm (Nat.not_lt_zero _)
            | succ fu ih =>
              intro k f g hm33 e_f e_g hk H locs h ls hl
              have ih33 := ih
              clear ih
              refine lv_iload_n hx hb dX6_layRow_33 rfl (lv_at hl 0 rfl) ?_
              refine lv_aload_n hx hb dX6_layRow_34 rfl (lv_at hl 2 rfl) ?_
              refine q_get (Cn := RX6) (T := TX6) (N := 22) (ci := 6) (v := .int (nI B)) C h iX6 0 rfl rfl 3 (by decide) f17 rfl dX6_layRow_35 ?_
              refine q_icmp_ge (tgt := 88) hx hb (by omega) (by omega) dX6_layRow_38 (by decide) (fun z38 => ?_) (fun z38 => ?_)
              · refine lv_aload_n hx hb dX6_layRow_88 rfl (lv_at hl 2 rfl) ?_
                refine q_get (Cn := RX6) (T := TX6) (N := 22) (ci := 6) (v := .ref mr) C h iX6 0 rfl rfl 13 (by decide) f36 rfl dX6_layRow_89 ?_
                refine lv_iload_n hx hb dX6_layRow_92 rfl (lv_at hl 1 rfl) ?_
                refine lv_aload_n hx hb dX6_layRow_93 rfl (lv_at hl 2 rfl) ?_
                refine q_get (Cn := RX6) (T := TX6) (N := 22) (ci := 6) (v := .long red) C h iX6 0 rfl rfl 17 (by decide) f106 rfl dX6_layRow_94 ?_
                refine q_last (i := b) (g := vp_updL f b red) (w' := [(o0, .inr (6, [.int (nI rf), .ref mw, .int (nI S), .int (nI B), .ref mv, .int (nI nn), .int (nI dr), .ref mm, .ref mn, .int (nI pk), .long ps, .ref mo, .ref mb, .ref mr, .ref mq, .ref mrk, .ref mqk, .long red, .int rdn, .long gen, .int (nI dm), .ref md])), (mw, .inl (G.2.1, 13, .inl (fun zz => nI ((q_w1 w) zz)))), (mv, .inl (G.2.1, 32, .inl vals)), (mm, .inl (G.2.2, 126, .inr (.inl msk))), (mn, .inl (G.2.1, 126, .inl nums)), (mo, .inl (G.2.1, 38, .inl (fun zz => nI (po zz)))), (mb, .inl (G.2.1, 38, .inl pb)), (mr, .inl (G.2.2, 38, .inr (.inl (vp_updL f b red)))), (mq, .inl (G.2.1, 38, .inl g)), (mrk, .inl (G.2.2, 38, .inr (.inl rwk))), (mqk, .inl (G.2.1, 38, .inl rvk)), (md, .inl (G.2.1, 38, .inl (fun zz => nI (drw zz))))]) C h 7 rfl (by omega) (by omega) rfl rfl dX6_layRow_97 (fun H locs h => ?_)
                refine lv_aload_n hx hb dX6_layRow_98 rfl (lv_at hl 2 rfl) ?_
                refine q_get (Cn := RX6) (T := TX6) (N := 22) (ci := 6) (v := .ref mq) C h iX6 0 rfl rfl 14 (by decide) f39 rfl dX6_layRow_99 ?_
                refine lv_iload_n hx hb dX6_layRow_102 rfl (lv_at hl 1 rfl) ?_
                refine lv_aload_n hx hb dX6_layRow_103 rfl (lv_at hl 2 rfl) ?_
                refine q_get (Cn := RX6) (T := TX6) (N := 22) (ci := 6) (v := .int rdn) C h iX6 0 rfl rfl 18 (by decide) f109 rfl dX6_layRow_104 ?_
                refine q_iast (i := b) (g := upd g b rdn) (w' := [(o0, .inr (6, [.int (nI rf), .ref mw, .int (nI S), .int (nI B), .ref mv, .int (nI nn), .int (nI dr), .ref mm, .ref mn, .int (nI pk), .long ps, .ref mo, .ref mb, .ref mr, .ref mq, .ref mrk, .ref mqk, .long red, .int rdn, .long gen, .int (nI dm), .ref md])), (mw, .inl (G.2.1, 13, .inl (fun zz => nI ((q_w1 w) zz)))), (mv, .inl (G.2.1, 32, .inl vals)), (mm, .inl (G.2.2, 126, .inr (.inl msk))), (mn, .inl (G.2.1, 126, .inl nums)), (mo, .inl (G.2.1, 38, .inl (fun zz => nI (po zz)))), (mb, .inl (G.2.1, 38, .inl pb)), (mr, .inl (G.2.2, 38, .inr (.inl (vp_updL f b red)))), (mq, .inl (G.2.1, 38, .inl (upd g b rdn))), (mrk, .inl (G.2.2, 38, .inr (.inl rwk))), (mqk, .inl (G.2.1, 38, .inl rvk)), (md, .inl (G.2.1, 38, .inl (fun zz => nI (drw zz))))]) C h 8 rfl (by omega) (by omega) rfl rfl dX6_layRow_107 (fun H locs h => ?_)
                exact q_retv C h rfl (by rw [e_f, e_g, show k = B from by omega, hbe]; simp [q_layR, q_layV, z6]) dX6_layRow_108
              · refine lv_aload_n hx hb dX6_layRow_41 rfl (lv_at hl 2 rfl) ?_
                refine q_get (Cn := RX6) (T := TX6) (N := 22) (ci := 6) (v := .ref mr) C h iX6 0 rfl rfl 13 (by decide) f36 rfl dX6_layRow_42 ?_
                refine lv_iload_n hx hb dX6_layRow_45 rfl (lv_at hl 0 rfl) ?_
                refine q_lald (i := k) (v := f k) C h 7 rfl (by omega) (by omega) rfl dX6_layRow_46 ?_
                refine lv_iload_n hx hb dX6_layRow_47 rfl (lv_at hl 1 rfl) ?_
                refine lv_lshr (v := (f k) >>> ((nI b).toInt64 &&& 63)) hx hb dX6_layRow_48 rfl ?_
                refine lv_lconst (v := 1) hx hb dX6_layRow_49 (by decide) ?_
                refine lv_land hx hb dX6_layRow_50 ?_
                refine lv_lconst (v := 1) hx hb dX6_layRow_51 (by decide) ?_
                refine q_lif_ne (tgt := 82) hx hb dX6_layRow_52 dX6_layRow_53 (by decide) (fun z53 => ?_) (fun z53 => ?_)
                · have t53 : tb (f k) (q_low red) = false := by rw [← hbe]; exact q_tstN1 (by omega) z53
                  refine lv_iinc (v := nI (k + 1)) (lv' := [(2, .int (nI (k + 1))), (1, .int (nI b)), (0, .ref o0)]) hx hb dX6_layRow_82 hl (k := 0) rfl (q_inc k) (by decide) rfl (fun ls hl => ?_)
                  refine lv_goto (tgt := 33) hx hb dX6_layRow_85 (by decide) ?_
                  exact ih33 (k + 1) f g (by omega) (show f = q_elR rows red (q_low red) (k + 1) from (by subst e_f; first | exact q_elR_1 t53 | exact q_elR_2 t53)) (show g = q_elV rows rv rdn (q_low red) (k + 1) from (by subst e_f; subst e_g; first | exact q_elV_1 t53 | exact q_elV_2 t53)) (show (k + 1) ≤ B from (by omega)) _ _ h _ (lv_sub hl [0, 1, 2] rfl)
                · have t53 : tb (f k) (q_low red) = true := by rw [← hbe]; exact q_tst1 (by omega) z53
                  refine lv_aload_n hx hb dX6_layRow_56 rfl (lv_at hl 2 rfl) ?_
                  refine q_get (Cn := RX6) (T := TX6) (N := 22) (ci := 6) (v := .ref mr) C h iX6 0 rfl rfl 13 (by decide) f36 rfl dX6_layRow_57 ?_
                  refine lv_iload_n hx hb dX6_layRow_60 rfl (lv_at hl 0 rfl) ?_
                  refine lv_dup2_11 hx hb dX6_layRow_61 rfl rfl ?_
                  refine q_lald (i := k) (v := f k) C h 7 rfl (by omega) (by omega) rfl dX6_layRow_62 ?_
                  refine lv_aload_n hx hb dX6_layRow_63 rfl (lv_at hl 2 rfl) ?_
                  refine q_get (Cn := RX6) (T := TX6) (N := 22) (ci := 6) (v := .long red) C h iX6 0 rfl rfl 17 (by decide) f106 rfl dX6_layRow_64 ?_
                  refine lv_lxor hx hb dX6_layRow_67 ?_
                  refine q_last (i := k) (g := vp_updL f k ((f k) ^^^ red)) (w' := [(o0, .inr (6, [.int (nI rf), .ref mw, .int (nI S), .int (nI B), .ref mv, .int (nI nn), .int (nI dr), .ref mm, .ref mn, .int (nI pk), .long ps, .ref mo, .ref mb, .ref mr, .ref mq, .ref mrk, .ref mqk, .long red, .int rdn, .long gen, .int (nI dm), .ref md])), (mw, .inl (G.2.1, 13, .inl (fun zz => nI ((q_w1 w) zz)))), (mv, .inl (G.2.1, 32, .inl vals)), (mm, .inl (G.2.2, 126, .inr (.inl msk))), (mn, .inl (G.2.1, 126, .inl nums)), (mo, .inl (G.2.1, 38, .inl (fun zz => nI (po zz)))), (mb, .inl (G.2.1, 38, .inl pb)), (mr, .inl (G.2.2, 38, .inr (.inl (vp_updL f k ((f k) ^^^ red))))), (mq, .inl (G.2.1, 38, .inl g)), (mrk, .inl (G.2.2, 38, .inr (.inl rwk))), (mqk, .inl (G.2.1, 38, .inl rvk)), (md, .inl (G.2.1, 38, .inl (fun zz => nI (drw zz))))]) C h 7 rfl (by omega) (by omega) rfl rfl dX6_layRow_68 (fun H locs h => ?_)
                  refine lv_aload_n hx hb dX6_layRow_69 rfl (lv_at hl 2 rfl) ?_
                  refine q_get (Cn := RX6) (T := TX6) (N := 22) (ci := 6) (v := .ref mq) C h iX6 0 rfl rfl 14 (by decide) f39 rfl dX6_layRow_70 ?_
                  refine lv_iload_n hx hb dX6_layRow_73 rfl (lv_at hl 0 rfl) ?_
                  refine lv_dup2_11 hx hb dX6_layRow_74 rfl rfl ?_
                  refine q_iald (i := k) (v := (g k)) C h 8 rfl (by omega) (by omega) rfl dX6_layRow_75 ?_
                  refine lv_aload_n hx hb dX6_layRow_76 rfl (lv_at hl 2 rfl) ?_
                  refine q_get (Cn := RX6) (T := TX6) (N := 22) (ci := 6) (v := .int rdn) C h iX6 0 rfl rfl 18 (by decide) f109 rfl dX6_layRow_77 ?_
                  refine lv_ixor hx hb dX6_layRow_80 ?_
                  refine q_iast (i := k) (g := upd g k ((g k) ^^^ rdn)) (w' := [(o0, .inr (6, [.int (nI rf), .ref mw, .int (nI S), .int (nI B), .ref mv, .int (nI nn), .int (nI dr), .ref mm, .ref mn, .int (nI pk), .long ps, .ref mo, .ref mb, .ref mr, .ref mq, .ref mrk, .ref mqk, .long red, .int rdn, .long gen, .int (nI dm), .ref md])), (mw, .inl (G.2.1, 13, .inl (fun zz => nI ((q_w1 w) zz)))), (mv, .inl (G.2.1, 32, .inl vals)), (mm, .inl (G.2.2, 126, .inr (.inl msk))), (mn, .inl (G.2.1, 126, .inl nums)), (mo, .inl (G.2.1, 38, .inl (fun zz => nI (po zz)))), (mb, .inl (G.2.1, 38, .inl pb)), (mr, .inl (G.2.2, 38, .inr (.inl (vp_updL f k ((f k) ^^^ red))))), (mq, .inl (G.2.1, 38, .inl (upd g k ((g k) ^^^ rdn)))), (mrk, .inl (G.2.2, 38, .inr (.inl rwk))), (mqk, .inl (G.2.1, 38, .inl rvk)), (md, .inl (G.2.1, 38, .inl (fun zz => nI (drw zz))))]) C h 8 rfl (by omega) (by omega) rfl rfl dX6_layRow_81 (fun H locs h => ?_)
                  refine lv_iinc (v := nI (k + 1)) (lv' := [(2, .int (nI (k + 1))), (1, .int (nI b)), (0, .ref o0)]) hx hb dX6_layRow_82 hl (k := 0) rfl (q_inc k) (by decide) rfl (fun ls hl => ?_)
                  refine lv_goto (tgt := 33) hx hb dX6_layRow_85 (by decide) ?_
                  exact ih33 (k + 1) (vp_updL f k ((f k) ^^^ red)) (upd g k ((g k) ^^^ rdn)) (by omega) (show (vp_updL f k ((f k) ^^^ red)) = q_elR rows red (q_low red) (k + 1) from (by subst e_f; first | exact q_elR_1 t53 | exact q_elR_2 t53)) (show (upd g k ((g k) ^^^ rdn)) = q_elV rows rv rdn (q_low red) (k + 1) from (by subst e_f; subst e_g; first | exact q_elV_1 t53 | exact q_elV_2 t53)) (show (k + 1) ≤ B from (by omega)) _ _ h _ (lv_sub hl [0, 1, 2] rfl)
          exact loop33 (B - 0 + 1) 0 rows rv (Nat.lt_succ_self _) (show rows = q_elR rows red (q_low red) 0 from (q_elR_0 rows red (q_low red))) (show rv = q_elV rows rv rdn (q_low red) 0 from (q_elV_0 rows rv rdn (q_low red))) (show 0 ≤ B from (Nat.zero_le _)) _ _ h _ (lv_sub hl [0, 1, 2] rfl)
        · refine lv_iinc (v := nI (b + 1)) (lv' := [(1, .int (nI (b + 1))), (0, .ref o0)]) hx hb dX6_layRow_25 hl (k := 0) rfl (q_inc b) (by decide) rfl (fun ls hl => ?_)
          refine lv_goto (tgt := 12) hx hb dX6_layRow_28 (by decide) ?_
          exact ih12 (b + 1) (by omega) (show (b + 1) ≤ q_low red from (q_low_step z6 (q_tst0 (by omega) z22) hbl)) _ _ h _ (lv_sub hl [0, 1] rfl)
    exact loop12 (64 - 0 + 1) 0 (Nat.lt_succ_self _) (show 0 ≤ q_low red from (Nat.zero_le _)) _ _ h _ (lv_sub hl [0, 1] rfl)
  · exact q_retv C h rfl (by simp [q_layR, q_layV, z6]) dX6_layRow_9

set_option maxHeartbeats 4000000 in
set_option maxRecDepth 100000 in
theorem c_X6_addEquation (l : Launch) (G : vq_G) (o0 mw mv mm mn mo mb mr mq mrk mqk md : Nat) (rf S B nn dr pk : Nat) (ps red : Int64) (rdn : Int32) (gen : Int64) (dm : Nat) (w : Nat → Nat) (vals : Nat → Int32) (msk : Nat → Int64) (nums : Nat → Int32) (po : Nat → Nat) (pb : Nat → Int32) (rows : Nat → Int64) (rv : Nat → Int32) (rwk : Nat → Int64) (rvk : Nat → Int32) (drw : Nat → Nat) (x : Int64) (v : Int32) (hS1 : 1 ≤ S) (hS : S ≤ 32) (hSB : S ≤ B) (hB : B ≤ S + 6) (hn : nn < 126) (hlr : (q_rdF rows x B) ≠ 0 → q_low (q_rdF rows x B) < 38) : vq_v l yX6_addEquation wsX6_addEquation 1 24 G [.ref o0, .long x, .int v] [(o0, .inr (6, [.int (nI rf), .ref mw, .int (nI S), .int (nI B), .ref mv, .int (nI nn), .int (nI dr), .ref mm, .ref mn, .int (nI pk), .long ps, .ref mo, .ref mb, .ref mr, .ref mq, .ref mrk, .ref mqk, .long red, .int rdn, .long gen, .int (nI dm), .ref md])), (mw, .inl (G.2.1, 13, .inl (fun zz => nI ((q_w1 w) zz)))), (mv, .inl (G.2.1, 32, .inl vals)), (mm, .inl (G.2.2, 126, .inr (.inl msk))), (mn, .inl (G.2.1, 126, .inl nums)), (mo, .inl (G.2.1, 38, .inl (fun zz => nI (po zz)))), (mb, .inl (G.2.1, 38, .inl pb)), (mr, .inl (G.2.2, 38, .inr (.inl rows))), (mq, .inl (G.2.1, 38, .inl rv)), (mrk, .inl (G.2.2, 38, .inr (.inl rwk))), (mqk, .inl (G.2.1, 38, .inl rvk)), (md, .inl (G.2.1, 38, .inl (fun zz => nI (drw zz))))]  [(o0, .inr (6, [.int (nI rf), .ref mw, .int (nI S), .int (nI B), .ref mv, .int (nI (nn + 1)), .int (nI dr), .ref mm, .ref mn, .int (nI pk), .long ps, .ref mo, .ref mb, .ref mr, .ref mq, .ref mrk, .ref mqk, .long (q_rdF rows x B), .int (q_rnF rows rv x v B), .long gen, .int (nI dm), .ref md])), (mw, .inl (G.2.1, 13, .inl (fun zz => nI ((q_w1 w) zz)))), (mv, .inl (G.2.1, 32, .inl vals)), (mm, .inl (G.2.2, 126, .inr (.inl (vp_updL msk nn x)))), (mn, .inl (G.2.1, 126, .inl (upd nums nn v))), (mo, .inl (G.2.1, 38, .inl (fun zz => nI (po zz)))), (mb, .inl (G.2.1, 38, .inl pb)), (mr, .inl (G.2.2, 38, .inr (.inl (q_layR rows (q_rdF rows x B) B)))), (mq, .inl (G.2.1, 38, .inl (q_layV rows rv (q_rdF rows x B) (q_rnF rows rv x v B) B))), (mrk, .inl (G.2.2, 38, .inr (.inl rwk))), (mqk, .inl (G.2.1, 38, .inl rvk)), (md, .inl (G.2.1, 38, .inl (fun zz => nI (drw zz))))] := by
  refine vq_openv (cc := cX6_addEquation) (maxL := 4) (ret := none) (Ts' := wsX6_addEquation.tail) (by decide) rfl (Nat.le_of_ble_eq_true rfl) ?_
  intro p e s m args below meth c A ls C h hnm hl
  have hx := C.1.1
  have hb := C.1.2.1
  have hts := C.1.2.2.2.2
  have hl : lv_has ls 4 [(0, .ref o0), (1, .long x), (3, .int v)] := hl
  have f23 := C.1.2.2.2.2 (.fieldLink RX6 23 "FountainCodeModel" "masks" "[J") (by decide +kernel)
  have iX6 : ∀ w ∈ u_ws RX6 TX6 22, w ∈ wsX6_addEquation := by decide +kernel
  have f68 := C.1.2.2.2.2 (.fieldLink RX6 68 "FountainCodeModel" "many" "I") (by decide +kernel)
  have f27 := C.1.2.2.2.2 (.fieldLink RX6 27 "FountainCodeModel" "numbers" "[I") (by decide +kernel)
  refine lv_aload_n hx hb dX6_addEquation_0 rfl (lv_at hl 0 rfl) ?_
  refine q_get (Cn := RX6) (T := TX6) (N := 22) (ci := 6) (v := .ref mm) C h iX6 0 rfl rfl 7 (by decide) f23 rfl dX6_addEquation_1 ?_
  refine lv_aload_n hx hb dX6_addEquation_4 rfl (lv_at hl 0 rfl) ?_
  refine q_get (Cn := RX6) (T := TX6) (N := 22) (ci := 6) (v := .int (nI nn)) C h iX6 0 rfl rfl 5 (by decide) f68 rfl dX6_addEquation_5 ?_
  refine lv_lload_n hx hb dX6_addEquation_8 rfl (lv_at hl 1 rfl) ?_
  refine q_last (i := nn) (g := vp_updL msk nn x) (w' := [(o0, .inr (6, [.int (nI rf), .ref mw, .int (nI S), .int (nI B), .ref mv, .int (nI nn), .int (nI dr), .ref mm, .ref mn, .int (nI pk), .long ps, .ref mo, .ref mb, .ref mr, .ref mq, .ref mrk, .ref mqk, .long red, .int rdn, .long gen, .int (nI dm), .ref md])), (mw, .inl (G.2.1, 13, .inl (fun zz => nI ((q_w1 w) zz)))), (mv, .inl (G.2.1, 32, .inl vals)), (mm, .inl (G.2.2, 126, .inr (.inl (vp_updL msk nn x)))), (mn, .inl (G.2.1, 126, .inl nums)), (mo, .inl (G.2.1, 38, .inl (fun zz => nI (po zz)))), (mb, .inl (G.2.1, 38, .inl pb)), (mr, .inl (G.2.2, 38, .inr (.inl rows))), (mq, .inl (G.2.1, 38, .inl rv)), (mrk, .inl (G.2.2, 38, .inr (.inl rwk))), (mqk, .inl (G.2.1, 38, .inl rvk)), (md, .inl (G.2.1, 38, .inl (fun zz => nI (drw zz))))]) C h 3 rfl (by omega) (by omega) rfl rfl dX6_addEquation_9 (fun H locs h => ?_)
  refine lv_aload_n hx hb dX6_addEquation_10 rfl (lv_at hl 0 rfl) ?_
  refine q_get (Cn := RX6) (T := TX6) (N := 22) (ci := 6) (v := .ref mn) C h iX6 0 rfl rfl 8 (by decide) f27 rfl dX6_addEquation_11 ?_
  refine lv_aload_n hx hb dX6_addEquation_14 rfl (lv_at hl 0 rfl) ?_
  refine q_get (Cn := RX6) (T := TX6) (N := 22) (ci := 6) (v := .int (nI nn)) C h iX6 0 rfl rfl 5 (by decide) f68 rfl dX6_addEquation_15 ?_
  refine lv_iload_n hx hb dX6_addEquation_18 rfl (lv_at hl 2 rfl) ?_
  refine q_iast (i := nn) (g := upd nums nn v) (w' := [(o0, .inr (6, [.int (nI rf), .ref mw, .int (nI S), .int (nI B), .ref mv, .int (nI nn), .int (nI dr), .ref mm, .ref mn, .int (nI pk), .long ps, .ref mo, .ref mb, .ref mr, .ref mq, .ref mrk, .ref mqk, .long red, .int rdn, .long gen, .int (nI dm), .ref md])), (mw, .inl (G.2.1, 13, .inl (fun zz => nI ((q_w1 w) zz)))), (mv, .inl (G.2.1, 32, .inl vals)), (mm, .inl (G.2.2, 126, .inr (.inl (vp_updL msk nn x)))), (mn, .inl (G.2.1, 126, .inl (upd nums nn v))), (mo, .inl (G.2.1, 38, .inl (fun zz => nI (po zz)))), (mb, .inl (G.2.1, 38, .inl pb)), (mr, .inl (G.2.2, 38, .inr (.inl rows))), (mq, .inl (G.2.1, 38, .inl rv)), (mrk, .inl (G.2.2, 38, .inr (.inl rwk))), (mqk, .inl (G.2.1, 38, .inl rvk)), (md, .inl (G.2.1, 38, .inl (fun zz => nI (drw zz))))]) C h 4 rfl (by omega) (by omega) rfl rfl dX6_addEquation_19 (fun H locs h => ?_)
  refine lv_aload_n hx hb dX6_addEquation_20 rfl (lv_at hl 0 rfl) ?_
  refine lv_dup hx hb dX6_addEquation_21 rfl ?_
  refine q_get (Cn := RX6) (T := TX6) (N := 22) (ci := 6) (v := .int (nI nn)) C h iX6 0 rfl rfl 5 (by decide) f68 rfl dX6_addEquation_22 ?_
  refine lv_iconst (v := nI 1) hx hb dX6_addEquation_25 (by decide) ?_
  refine q_iadd hx hb dX6_addEquation_26 ?_
  refine q_put (Cn := RX6) (T := TX6) (N := 22) (ci := 6) (v := .int (nI (nn + 1))) (w' := [(o0, .inr (6, [.int (nI rf), .ref mw, .int (nI S), .int (nI B), .ref mv, .int (nI (nn + 1)), .int (nI dr), .ref mm, .ref mn, .int (nI pk), .long ps, .ref mo, .ref mb, .ref mr, .ref mq, .ref mrk, .ref mqk, .long red, .int rdn, .long gen, .int (nI dm), .ref md])), (mw, .inl (G.2.1, 13, .inl (fun zz => nI ((q_w1 w) zz)))), (mv, .inl (G.2.1, 32, .inl vals)), (mm, .inl (G.2.2, 126, .inr (.inl (vp_updL msk nn x)))), (mn, .inl (G.2.1, 126, .inl (upd nums nn v))), (mo, .inl (G.2.1, 38, .inl (fun zz => nI (po zz)))), (mb, .inl (G.2.1, 38, .inl pb)), (mr, .inl (G.2.2, 38, .inr (.inl rows))), (mq, .inl (G.2.1, 38, .inl rv)), (mrk, .inl (G.2.2, 38, .inr (.inl rwk))), (mqk, .inl (G.2.1, 38, .inl rvk)), (md, .inl (G.2.1, 38, .inl (fun zz => nI (drw zz))))]) C h iX6 tyX6 tyX6_ok nmX6 0 rfl rfl 5 (by decide) f68 rfl rfl rfl (Nat.le_of_ble_eq_true rfl) dX6_addEquation_27 rfl (fun H locs h => ?_)
  refine lv_aload_n hx hb dX6_addEquation_30 rfl (lv_at hl 0 rfl) ?_
  refine lv_lload_n hx hb dX6_addEquation_31 rfl (lv_at hl 1 rfl) ?_
  refine lv_iload_n hx hb dX6_addEquation_32 rfl (lv_at hl 2 rfl) ?_
  refine q_callVv C h (c_X6_reduce l G o0 mw mv mm mn mo mb mr mq mrk mqk md rf S B (nn + 1) dr pk ps red rdn gen dm w vals (vp_updL msk nn x) (upd nums nn v) po pb rows rv rwk rvk drw x v (by omega) (by omega) (by omega) (by omega)) (cwV 2 hts gX6_addEquation_X6_reduce rfl rfl rfl (by decide +kernel) ⟨Nat.le_of_ble_eq_true rfl, Nat.le_of_ble_eq_true rfl⟩) [0, 1, 2, 3, 4, 5, 6, 7, 8, 9, 10, 11] rfl rfl [] (wr := []) rfl rfl (by decide) 0 rfl rfl rfl hl.1 rfl (Nat.le_of_ble_eq_true rfl) dX6_addEquation_33 ⟨Nat.zero_le _, Nat.zero_le _⟩ [0, 1, 2, 3, 4, 5, 6, 7, 8, 9, 10, 11] (w' := [(o0, .inr (6, [.int (nI rf), .ref mw, .int (nI S), .int (nI B), .ref mv, .int (nI (nn + 1)), .int (nI dr), .ref mm, .ref mn, .int (nI pk), .long ps, .ref mo, .ref mb, .ref mr, .ref mq, .ref mrk, .ref mqk, .long (q_rdF rows x B), .int (q_rnF rows rv x v B), .long gen, .int (nI dm), .ref md])), (mw, .inl (G.2.1, 13, .inl (fun zz => nI ((q_w1 w) zz)))), (mv, .inl (G.2.1, 32, .inl vals)), (mm, .inl (G.2.2, 126, .inr (.inl (vp_updL msk nn x)))), (mn, .inl (G.2.1, 126, .inl (upd nums nn v))), (mo, .inl (G.2.1, 38, .inl (fun zz => nI (po zz)))), (mb, .inl (G.2.1, 38, .inl pb)), (mr, .inl (G.2.2, 38, .inr (.inl rows))), (mq, .inl (G.2.1, 38, .inl rv)), (mrk, .inl (G.2.2, 38, .inr (.inl rwk))), (mqk, .inl (G.2.1, 38, .inl rvk)), (md, .inl (G.2.1, 38, .inl (fun zz => nI (drw zz))))]) rfl rfl (fun H locs h => ?_)
  refine lv_aload_n hx hb dX6_addEquation_36 rfl (lv_at hl 0 rfl) ?_
  refine q_callVv C h (c_X6_layRow l G o0 mw mv mm mn mo mb mr mq mrk mqk md rf S B (nn + 1) dr pk ps (q_rdF rows x B) (q_rnF rows rv x v B) gen dm w vals (vp_updL msk nn x) (upd nums nn v) po pb rows rv rwk rvk drw (by omega) (by omega) (by omega) (by omega) hlr) (cwV 0 hts gX6_addEquation_X6_layRow rfl rfl rfl (by decide +kernel) ⟨Nat.le_of_ble_eq_true rfl, Nat.le_of_ble_eq_true rfl⟩) [0, 1, 2, 3, 4, 5, 6, 7, 8, 9, 10, 11] rfl rfl [] (wr := []) rfl rfl (by decide) 0 rfl rfl rfl hl.1 rfl (Nat.le_of_ble_eq_true rfl) dX6_addEquation_37 ⟨Nat.zero_le _, Nat.zero_le _⟩ [0, 1, 2, 3, 4, 5, 6, 7, 8, 9, 10, 11] (w' := [(o0, .inr (6, [.int (nI rf), .ref mw, .int (nI S), .int (nI B), .ref mv, .int (nI (nn + 1)), .int (nI dr), .ref mm, .ref mn, .int (nI pk), .long ps, .ref mo, .ref mb, .ref mr, .ref mq, .ref mrk, .ref mqk, .long (q_rdF rows x B), .int (q_rnF rows rv x v B), .long gen, .int (nI dm), .ref md])), (mw, .inl (G.2.1, 13, .inl (fun zz => nI ((q_w1 w) zz)))), (mv, .inl (G.2.1, 32, .inl vals)), (mm, .inl (G.2.2, 126, .inr (.inl (vp_updL msk nn x)))), (mn, .inl (G.2.1, 126, .inl (upd nums nn v))), (mo, .inl (G.2.1, 38, .inl (fun zz => nI (po zz)))), (mb, .inl (G.2.1, 38, .inl pb)), (mr, .inl (G.2.2, 38, .inr (.inl (q_layR rows (q_rdF rows x B) B)))), (mq, .inl (G.2.1, 38, .inl (q_layV rows rv (q_rdF rows x B) (q_rnF rows rv x v B) B))), (mrk, .inl (G.2.2, 38, .inr (.inl rwk))), (mqk, .inl (G.2.1, 38, .inl rvk)), (md, .inl (G.2.1, 38, .inl (fun zz => nI (drw zz))))]) rfl rfl (fun H locs h => ?_)
  exact q_retv C h rfl rfl dX6_addEquation_40

set_option maxHeartbeats 4000000 in
set_option maxRecDepth 100000 in
theorem c_X6_peel (l : Launch) (G : vq_G) (o0 mw mv mm mn mo mb mr mq mrk mqk md : Nat) (rf S B nn dr pk : Nat) (ps red : Int64) (rdn : Int32) (gen : Int64) (dm : Nat) (w : Nat → Nat) (vals : Nat → Int32) (msk : Nat → Int64) (nums : Nat → Int32) (po : Nat → Nat) (pb : Nat → Int32) (rows : Nat → Int64) (rv : Nat → Int32) (rwk : Nat → Int64) (rvk : Nat → Int32) (drw : Nat → Nat) (hn : nn ≤ 126) (hM : ∀ i, i < nn → ∀ k, 38 ≤ k → tb (msk i) k = false) (hp : pk = q_pop ps 38) : vq_i l yX6_peel wsX6_peel 0 0 G [.ref o0] [(o0, .inr (6, [.int (nI rf), .ref mw, .int (nI S), .int (nI B), .ref mv, .int (nI nn), .int (nI dr), .ref mm, .ref mn, .int (nI pk), .long ps, .ref mo, .ref mb, .ref mr, .ref mq, .ref mrk, .ref mqk, .long red, .int rdn, .long gen, .int (nI dm), .ref md])), (mw, .inl (G.2.1, 13, .inl (fun zz => nI ((q_w1 w) zz)))), (mv, .inl (G.2.1, 32, .inl vals)), (mm, .inl (G.2.2, 126, .inr (.inl msk))), (mn, .inl (G.2.1, 126, .inl nums)), (mo, .inl (G.2.1, 38, .inl (fun zz => nI (po zz)))), (mb, .inl (G.2.1, 38, .inl pb)), (mr, .inl (G.2.2, 38, .inr (.inl rows))), (mq, .inl (G.2.1, 38, .inl rv)), (mrk, .inl (G.2.2, 38, .inr (.inl rwk))), (mqk, .inl (G.2.1, 38, .inl rvk)), (md, .inl (G.2.1, 38, .inl (fun zz => nI (drw zz))))] (nI ((q_pn msk nn 38 (po, pb, pk, ps)).2.2.1 - pk)) [(o0, .inr (6, [.int (nI rf), .ref mw, .int (nI S), .int (nI B), .ref mv, .int (nI nn), .int (nI dr), .ref mm, .ref mn, .int (nI ((q_pn msk nn 38 (po, pb, pk, ps)).2.2.1)), .long ((q_pn msk nn 38 (po, pb, pk, ps)).2.2.2), .ref mo, .ref mb, .ref mr, .ref mq, .ref mrk, .ref mqk, .long red, .int rdn, .long gen, .int (nI dm), .ref md])), (mw, .inl (G.2.1, 13, .inl (fun zz => nI ((q_w1 w) zz)))), (mv, .inl (G.2.1, 32, .inl vals)), (mm, .inl (G.2.2, 126, .inr (.inl msk))), (mn, .inl (G.2.1, 126, .inl nums)), (mo, .inl (G.2.1, 38, .inl (fun zz => nI ((q_pn msk nn 38 (po, pb, pk, ps)).1 zz)))), (mb, .inl (G.2.1, 38, .inl ((q_pn msk nn 38 (po, pb, pk, ps)).2.1))), (mr, .inl (G.2.2, 38, .inr (.inl rows))), (mq, .inl (G.2.1, 38, .inl rv)), (mrk, .inl (G.2.2, 38, .inr (.inl rwk))), (mqk, .inl (G.2.1, 38, .inl rvk)), (md, .inl (G.2.1, 38, .inl (fun zz => nI (drw zz))))] := by
  refine vq_openi (cc := cX6_peel) (maxL := 7) (ret := (some .int)) (Ts' := wsX6_peel.tail) (by decide) rfl (Nat.le_of_ble_eq_true rfl) ?_
  intro p e s m args below meth c A ls C h hnm hl
  have hx := C.1.1
  have hb := C.1.2.1
  have hts := C.1.2.2.2.2
  have hl : lv_has ls 7 [(0, .ref o0)] := hl
  have f74 := C.1.2.2.2.2 (.fieldLink RX6 74 "FountainCodeModel" "peeled" "I") (by decide +kernel)
  have iX6 : ∀ w ∈ u_ws RX6 TX6 22, w ∈ wsX6_peel := by decide +kernel
  have f68 := C.1.2.2.2.2 (.fieldLink RX6 68 "FountainCodeModel" "many" "I") (by decide +kernel)
  have f23 := C.1.2.2.2.2 (.fieldLink RX6 23 "FountainCodeModel" "masks" "[J") (by decide +kernel)
  have f77 := C.1.2.2.2.2 (.fieldLink RX6 77 "FountainCodeModel" "peeledMask" "J") (by decide +kernel)
  have k119 := C.1.2.2.2.2 (.constantLong RX6 119 (-1)) (by decide +kernel)
  have f30 := C.1.2.2.2.2 (.fieldLink RX6 30 "FountainCodeModel" "order" "[I") (by decide +kernel)
  have f33 := C.1.2.2.2.2 (.fieldLink RX6 33 "FountainCodeModel" "by" "[I") (by decide +kernel)
  refine lv_aload_n hx hb dX6_peel_0 rfl (lv_at hl 0 rfl) ?_
  refine q_get (Cn := RX6) (T := TX6) (N := 22) (ci := 6) (v := .int (nI pk)) C h iX6 0 rfl rfl 9 (by decide) f74 rfl dX6_peel_1 ?_
  refine lv_istore_n (lv' := [(1, .int (nI pk)), (0, .ref o0)]) hx hb dX6_peel_4 rfl hl (by decide) rfl (fun ls hl => ?_)
  refine lv_iconst (v := nI 1) hx hb dX6_peel_5 (by decide) ?_
  refine lv_istore_n (lv' := [(2, .int (nI 1)), (1, .int (nI pk)), (0, .ref o0)]) hx hb dX6_peel_6 rfl hl (by decide) rfl (fun ls hl => ?_)
  have loop7 : ∀ (fu : Nat) (mo1 : Nat) (po1 : Nat → Nat) (pb1 : Nat → Int32) (pk1 : Nat) (ps1 : Int64), 2 * (38 - pk1) + mo1 < fu → (q_pn msk nn (38 - pk1) (po1, pb1, pk1, ps1) = q_pn msk nn (38 - pk) (po, pb, pk, ps)) → (pk1 = q_pop ps1 38) → (pk ≤ pk1) → (mo1 ≤ 1) → (mo1 = 0 → q_fr (q_rd msk ps1) nn = none) → ∀ (H : Heap) (locs : List Loc), vq_H G A s [(o0, .inr (6, [.int (nI rf), .ref mw, .int (nI S), .int (nI B), .ref mv, .int (nI nn), .int (nI dr), .ref mm, .ref mn, .int (nI pk1), .long ps1, .ref mo, .ref mb, .ref mr, .ref mq, .ref mrk, .ref mqk, .long red, .int rdn, .long gen, .int (nI dm), .ref md])), (mw, .inl (G.2.1, 13, .inl (fun zz => nI ((q_w1 w) zz)))), (mv, .inl (G.2.1, 32, .inl vals)), (mm, .inl (G.2.2, 126, .inr (.inl msk))), (mn, .inl (G.2.1, 126, .inl nums)), (mo, .inl (G.2.1, 38, .inl (fun zz => nI (po1 zz)))), (mb, .inl (G.2.1, 38, .inl pb1)), (mr, .inl (G.2.2, 38, .inr (.inl rows))), (mq, .inl (G.2.1, 38, .inl rv)), (mrk, .inl (G.2.2, 38, .inr (.inl rwk))), (mqk, .inl (G.2.1, 38, .inl rvk)), (md, .inl (G.2.1, 38, .inl (fun zz => nI (drw zz))))] H locs → ∀ (ls : Array Slot), lv_has ls 7 [(2, .int (nI mo1)), (1, .int (nI pk)), (0, .ref o0)] → W p l e ({ frames := 0, cells := 0, slots := 0, locals := 0 } : Room) s m args below meth c H locs 0 0 (MQ below (va_Qi (fun zr (_ : Unit) => zr = (nI ((q_pn msk nn 38 (po, pb, pk, ps)).2.2.1 - pk))) (fun _ => vq_T G A [(o0, .inr (6, [.int (nI rf), .ref mw, .int (nI S), .int (nI B), .ref mv, .int (nI nn), .int (nI dr), .ref mm, .ref mn, .int (nI ((q_pn msk nn 38 (po, pb, pk, ps)).2.2.1)), .long ((q_pn msk nn 38 (po, pb, pk, ps)).2.2.2), .ref mo, .ref mb, .ref mr, .ref mq, .ref mrk, .ref mqk, .long red, .int rdn, .long gen, .int (nI dm), .ref md])), (mw, .inl (G.2.1, 13, .inl (fun zz => nI ((q_w1 w) zz)))), (mv, .inl (G.2.1, 32, .inl vals)), (mm, .inl (G.2.2, 126, .inr (.inl msk))), (mn, .inl (G.2.1, 126, .inl nums)), (mo, .inl (G.2.1, 38, .inl (fun zz => nI ((q_pn msk nn 38 (po, pb, pk, ps)).1 zz)))), (mb, .inl (G.2.1, 38, .inl ((q_pn msk nn 38 (po, pb, pk, ps)).2.1))), (mr, .inl (G.2.2, 38, .inr (.inl rows))), (mq, .inl (G.2.1, 38, .inl rv)), (mrk, .inl (G.2.2, 38, .inr (.inl rwk))), (mqk, .inl (G.2.1, 38, .inl rvk)), (md, .inl (G.2.1, 38, .inl (fun zz => nI (drw zz))))]) A) args s 0 0 A) (F0 m 7 ls []) := by
    intro fu
    induction fu with
    | zero => exact fun mo1 po1 pb1 pk1 ps1 hm => absurd hm (Nat.not_lt_zero _)
    | succ fu ih =>
      intro mo1 po1 pb1 pk1 ps1 hm7 he hp1 hle hmo hfix H locs h ls hl
      have ih7 := ih
      clear ih
      refine lv_iload_n hx hb dX6_peel_7 rfl (lv_at hl 0 rfl) ?_
      refine q_if_eq (tgt := 143) hx hb (by omega) dX6_peel_8 (by decide) (fun z8 => ?_) (fun z8 => ?_)
      · have en : (q_pn msk nn 38 (po, pb, pk, ps)) = (po1, pb1, pk1, ps1) := q_peel_end hM hp hp1 he (hfix z8)
        refine lv_aload_n hx hb dX6_peel_143 rfl (lv_at hl 2 rfl) ?_
        refine q_get (Cn := RX6) (T := TX6) (N := 22) (ci := 6) (v := .int (nI pk1)) C h iX6 0 rfl rfl 9 (by decide) f74 rfl dX6_peel_144 ?_
        refine lv_iload_n hx hb dX6_peel_147 rfl (lv_at hl 1 rfl) ?_
        refine q_isub hx hb (by omega) dX6_peel_148 ?_
        exact q_reti C h rfl (by simp only [en]) (by simp only [en]) dX6_peel_149
      · refine lv_iconst (v := nI 0) hx hb dX6_peel_11 (by decide) ?_
        refine lv_istore_n (lv' := [(2, .int (nI 0)), (1, .int (nI pk)), (0, .ref o0)]) hx hb dX6_peel_12 rfl hl (by decide) rfl (fun ls hl => ?_)
        refine lv_iconst (v := nI 0) hx hb dX6_peel_13 (by decide) ?_
        refine lv_istore_n (lv' := [(3, .int (nI 0)), (2, .int (nI 0)), (1, .int (nI pk)), (0, .ref o0)]) hx hb dX6_peel_14 rfl hl (by decide) rfl (fun ls hl => ?_)
        have loop15 : ∀ (fu : Nat) (k : Nat) (mo2 : Nat) (po2 : Nat → Nat) (pb2 : Nat → Int32) (pk2 : Nat) (ps2 : Int64), nn - k < fu → (k ≤ nn) → (mo2 = 0 → (po2, pb2, pk2, ps2) = (po1, pb1, pk1, ps1)) → (mo2 = 0 → ∀ j, j < k → q_rd msk ps1 j = false) → (mo2 ≠ 0 → mo2 = 1 ∧ ∃ i, q_fr (q_rd msk ps1) nn = some i ∧ (po2, pb2, pk2, ps2) = q_ps1 msk i (po1, pb1, pk1, ps1)) → ∀ (H : Heap) (locs : List Loc), vq_H G A s [(o0, .inr (6, [.int (nI rf), .ref mw, .int (nI S), .int (nI B), .ref mv, .int (nI nn), .int (nI dr), .ref mm, .ref mn, .int (nI pk2), .long ps2, .ref mo, .ref mb, .ref mr, .ref mq, .ref mrk, .ref mqk, .long red, .int rdn, .long gen, .int (nI dm), .ref md])), (mw, .inl (G.2.1, 13, .inl (fun zz => nI ((q_w1 w) zz)))), (mv, .inl (G.2.1, 32, .inl vals)), (mm, .inl (G.2.2, 126, .inr (.inl msk))), (mn, .inl (G.2.1, 126, .inl nums)), (mo, .inl (G.2.1, 38, .inl (fun zz => nI (po2 zz)))), (mb, .inl (G.2.1, 38, .inl pb2)), (mr, .inl (G.2.2, 38, .inr (.inl rows))), (mq, .inl (G.2.1, 38, .inl rv)), (mrk, .inl (G.2.2, 38, .inr (.inl rwk))), (mqk, .inl (G.2.1, 38, .inl rvk)), (md, .inl (G.2.1, 38, .inl (fun zz => nI (drw zz))))] H locs → ∀ (ls : Array Slot), lv_has ls 7 [(3, .int (nI k)), (2, .int (nI mo2)), (1, .int (nI pk)), (0, .ref o0)] → W p l e ({ frames := 0, cells := 0, slots := 0, locals := 0 } : Room) s m args below meth c H locs 0 0 (MQ below (va_Qi (fun zr (_ : Unit) => zr = (nI ((q_pn msk nn 38 (po, pb, pk, ps)).2.2.1 - pk))) (fun _ => vq_T G A [(o0, .inr (6, [.int (nI rf), .ref mw, .int (nI S), .int (nI B), .ref mv, .int (nI nn), .int (nI dr), .ref mm, .ref mn, .int (nI ((q_pn msk nn 38 (po, pb, pk, ps)).2.2.1)), .long ((q_pn msk nn 38 (po, pb, pk, ps)).2.2.2), .ref mo, .ref mb, .ref mr, .ref mq, .ref mrk, .ref mqk, .long red, .int rdn, .long gen, .int (nI dm), .ref md])), (mw, .inl (G.2.1, 13, .inl (fun zz => nI ((q_w1 w) zz)))), (mv, .inl (G.2.1, 32, .inl vals)), (mm, .inl (G.2.2, 126, .inr (.inl msk))), (mn, .inl (G.2.1, 126, .inl nums)), (mo, .inl (G.2.1, 38, .inl (fun zz => nI ((q_pn msk nn 38 (po, pb, pk, ps)).1 zz)))), (mb, .inl (G.2.1, 38, .inl ((q_pn msk nn 38 (po, pb, pk, ps)).2.1))), (mr, .inl (G.2.2, 38, .inr (.inl rows))), (mq, .inl (G.2.1, 38, .inl rv)), (mrk, .inl (G.2.2, 38, .inr (.inl rwk))), (mqk, .inl (G.2.1, 38, .inl rvk)), (md, .inl (G.2.1, 38, .inl (fun zz => nI (drw zz))))]) A) args s 0 0 A) (F0 m 15 ls []) := by
          intro fu
          induction fu with
          | zero => exact fun k mo2 po2 pb2 pk2 ps2 hm => absurd hm (Nat.not_lt_zero _)
          | succ fu ih =>
            intro k mo2 po2 pb2 pk2 ps2 hm15 hk hA hA2 hB H locs h ls hl
            have ih15 := ih
            clear ih
            refine lv_iload_n hx hb dX6_peel_15 rfl (lv_at hl 0 rfl) ?_
            refine lv_aload_n hx hb dX6_peel_16 rfl (lv_at hl 3 rfl) ?_
            refine q_get (Cn := RX6) (T := TX6) (N := 22) (ci := 6) (v := .int (nI nn)) C h iX6 0 rfl rfl 5 (by decide) f68 rfl dX6_peel_17 ?_
            refine q_icmp_ge (tgt := 140) hx hb (by omega) (by omega) dX6_peel_20 (by decide) (fun z20 => ?_) (fun z20 => ?_)
            · have hc := q_peel_case hM hp1 hA hB
              have hfx : mo2 = 0 → q_fr (q_rd msk ps2) nn = none := fun h => by rw [show ps2 = ps1 from congrArg (fun s : q_PS => s.2.2.2) (hA h)]; exact q_fr_nof (fun j hj => hA2 h j (by omega))
              refine lv_goto (tgt := 7) hx hb dX6_peel_140 (by decide) ?_
              exact ih7 mo2 po2 pb2 pk2 ps2 (by omega) (show q_pn msk nn (38 - pk2) (po2, pb2, pk2, ps2) = q_pn msk nn (38 - pk) (po, pb, pk, ps) from (hc.1.trans he)) (show pk2 = q_pop ps2 38 from hc.2.1) (show pk ≤ pk2 from (Nat.le_trans hle hc.2.2.2.2)) (show mo2 ≤ 1 from hc.2.2.1) (show mo2 = 0 → q_fr (q_rd msk ps2) nn = none from hfx) _ _ h _ (lv_sub hl [1, 2, 3] rfl)
            · refine lv_iload_n hx hb dX6_peel_23 rfl (lv_at hl 1 rfl) ?_
              refine q_if_ne (tgt := 140) hx hb (by omega) dX6_peel_24 (by decide) (fun z24 => ?_) (fun z24 => ?_)
              · have hc := q_peel_case hM hp1 hA hB
                have hfx : mo2 = 0 → q_fr (q_rd msk ps2) nn = none := fun h => absurd h z24
                refine lv_goto (tgt := 7) hx hb dX6_peel_140 (by decide) ?_
                exact ih7 mo2 po2 pb2 pk2 ps2 (by omega) (show q_pn msk nn (38 - pk2) (po2, pb2, pk2, ps2) = q_pn msk nn (38 - pk) (po, pb, pk, ps) from (hc.1.trans he)) (show pk2 = q_pop ps2 38 from hc.2.1) (show pk ≤ pk2 from (Nat.le_trans hle hc.2.2.2.2)) (show mo2 ≤ 1 from hc.2.2.1) (show mo2 = 0 → q_fr (q_rd msk ps2) nn = none from hfx) _ _ h _ (lv_sub hl [1, 2, 3] rfl)
              · have hps : ps1 = ps2 := (congrArg (fun s : q_PS => s.2.2.2) (hA z24)).symm
                have hpk : pk1 = pk2 := (congrArg (fun s : q_PS => s.2.2.1) (hA z24)).symm
                refine lv_aload_n hx hb dX6_peel_27 rfl (lv_at hl 3 rfl) ?_
                refine q_get (Cn := RX6) (T := TX6) (N := 22) (ci := 6) (v := .ref mm) C h iX6 0 rfl rfl 7 (by decide) f23 rfl dX6_peel_28 ?_
                refine lv_iload_n hx hb dX6_peel_31 rfl (lv_at hl 0 rfl) ?_
                refine q_lald (i := k) (v := msk k) C h 3 rfl (by omega) (by omega) rfl dX6_peel_32 ?_
                refine lv_aload_n hx hb dX6_peel_33 rfl (lv_at hl 3 rfl) ?_
                refine q_get (Cn := RX6) (T := TX6) (N := 22) (ci := 6) (v := .long ps2) C h iX6 0 rfl rfl 10 (by decide) f77 rfl dX6_peel_34 ?_
                refine q_ldc2 C k119 dX6_peel_37 ?_
                refine lv_lxor hx hb dX6_peel_40 ?_
                refine lv_land hx hb dX6_peel_41 ?_
                refine q_top (v' := .long (q_lf msk ps2 k)) rfl ?_
                refine lv_lstore (lv' := [(4, .long (q_lf msk ps2 k)), (3, .int (nI k)), (2, .int (nI mo2)), (1, .int (nI pk)), (0, .ref o0)]) hx hb dX6_peel_42 hl (by decide) rfl (fun ls hl => ?_)
                refine lv_lload hx hb dX6_peel_44 (lv_at hl 0 rfl) ?_
                refine lv_lconst (v := 0) hx hb dX6_peel_46 (by decide) ?_
                refine q_lif_eq (tgt := 67) hx hb dX6_peel_47 dX6_peel_48 (by decide) (fun z48 => ?_) (fun z48 => ?_)
                · have hrf : q_rd msk ps2 k = false := q_rd_f0 z48
                  refine lv_iconst (v := nI 0) hx hb dX6_peel_67 (by decide) ?_
                  refine lv_istore_n (lv' := [(2, .int (nI 0)), (4, .long (q_lf msk ps2 k)), (3, .int (nI k)), (1, .int (nI pk)), (0, .ref o0)]) hx hb dX6_peel_68 rfl hl (by decide) rfl (fun ls hl => ?_)
                  refine lv_iload_n hx hb dX6_peel_69 rfl (lv_at hl 0 rfl) ?_
                  refine q_if_eq (tgt := 134) hx hb (by decide) dX6_peel_70 (by decide) (fun z70 => ?_) (fun z70 => absurd z70 (by decide))
                  refine lv_iinc (v := nI (k + 1)) (lv' := [(3, .int (nI (k + 1))), (2, .int (nI 0)), (4, .long (q_lf msk ps2 k)), (1, .int (nI pk)), (0, .ref o0)]) hx hb dX6_peel_134 hl (k := 2) rfl (q_inc k) (by decide) rfl (fun ls hl => ?_)
                  refine lv_goto (tgt := 15) hx hb dX6_peel_137 (by decide) ?_
                  exact ih15 (k + 1) 0 po2 pb2 pk2 ps2 (by omega) (show (k + 1) ≤ nn from (by omega)) (show 0 = 0 → (po2, pb2, pk2, ps2) = (po1, pb1, pk1, ps1) from (by first | exact fun h => absurd h (by decide) | exact fun _ => hA z24)) (show 0 = 0 → ∀ j, j < (k + 1) → q_rd msk ps1 j = false from (by first | exact fun h => absurd h (by decide) | exact fun _ j hj => (Nat.lt_or_ge j k).elim (fun a => hA2 z24 j a) (fun a => by rw [show j = k from by omega]; exact hps.symm ▸ hrf))) (show 0 ≠ 0 → 0 = 1 ∧ ∃ i, q_fr (q_rd msk ps1) nn = some i ∧ (po2, pb2, pk2, ps2) = q_ps1 msk i (po1, pb1, pk1, ps1) from (by first | exact fun h => absurd rfl h | exact fun _ => ⟨rfl, k, hsm, by rw [← hA z24, hbe]; rfl⟩)) _ _ h _ (lv_sub hl [0, 1, 3, 4] rfl)
                · refine lv_lload hx hb dX6_peel_51 (lv_at hl 0 rfl) ?_
                  refine lv_lload hx hb dX6_peel_53 (lv_at hl 0 rfl) ?_
                  refine lv_lconst (v := 1) hx hb dX6_peel_55 (by decide) ?_
                  refine lv_lsub hx hb dX6_peel_56 ?_
                  refine lv_land hx hb dX6_peel_57 ?_
                  refine lv_lconst (v := 0) hx hb dX6_peel_58 (by decide) ?_
                  refine q_lif_ne (tgt := 67) hx hb dX6_peel_59 dX6_peel_60 (by decide) (fun z60 => ?_) (fun z60 => ?_)
                  · have hrf : q_rd msk ps2 k = false := q_rd_f1 z60
                    refine lv_iconst (v := nI 0) hx hb dX6_peel_67 (by decide) ?_
                    refine lv_istore_n (lv' := [(2, .int (nI 0)), (4, .long (q_lf msk ps2 k)), (3, .int (nI k)), (1, .int (nI pk)), (0, .ref o0)]) hx hb dX6_peel_68 rfl hl (by decide) rfl (fun ls hl => ?_)
                    refine lv_iload_n hx hb dX6_peel_69 rfl (lv_at hl 0 rfl) ?_
                    refine q_if_eq (tgt := 134) hx hb (by decide) dX6_peel_70 (by decide) (fun z70 => ?_) (fun z70 => absurd z70 (by decide))
                    refine lv_iinc (v := nI (k + 1)) (lv' := [(3, .int (nI (k + 1))), (2, .int (nI 0)), (4, .long (q_lf msk ps2 k)), (1, .int (nI pk)), (0, .ref o0)]) hx hb dX6_peel_134 hl (k := 2) rfl (q_inc k) (by decide) rfl (fun ls hl => ?_)
                    refine lv_goto (tgt := 15) hx hb dX6_peel_137 (by decide) ?_
                    exact ih15 (k + 1) 0 po2 pb2 pk2 ps2 (by omega) (show (k + 1) ≤ nn from (by omega)) (show 0 = 0 → (po2, pb2, pk2, ps2) = (po1, pb1, pk1, ps1) from (by first | exact fun h => absurd h (by decide) | exact fun _ => hA z24)) (show 0 = 0 → ∀ j, j < (k + 1) → q_rd msk ps1 j = false from (by first | exact fun h => absurd h (by decide) | exact fun _ j hj => (Nat.lt_or_ge j k).elim (fun a => hA2 z24 j a) (fun a => by rw [show j = k from by omega]; exact hps.symm ▸ hrf))) (show 0 ≠ 0 → 0 = 1 ∧ ∃ i, q_fr (q_rd msk ps1) nn = some i ∧ (po2, pb2, pk2, ps2) = q_ps1 msk i (po1, pb1, pk1, ps1) from (by first | exact fun h => absurd rfl h | exact fun _ => ⟨rfl, k, hsm, by rw [← hA z24, hbe]; rfl⟩)) _ _ h _ (lv_sub hl [0, 1, 3, 4] rfl)
                  · have hrt : q_rd msk ps2 k = true := q_rd_t z48 z60
                    have hr := q_ready hM (show k < nn by omega) hrt
                    have hpl := q_low_lt z48
                    have hlt := q_pop_lt hr.2 38 hr.1
                    have hsm : q_fr (q_rd msk ps1) nn = some k := q_fr_of (by omega) (hps.symm ▸ hrt) (hA2 z24)
                    have hpk2 : pk2 < 38 := by rw [← hpk, hp1, hps]; exact hlt
                    refine lv_iconst (v := nI 1) hx hb dX6_peel_63 (by decide) ?_
                    refine lv_goto (tgt := 68) hx hb dX6_peel_64 (by decide) ?_
                    refine lv_istore_n (lv' := [(2, .int (nI 1)), (4, .long (q_lf msk ps2 k)), (3, .int (nI k)), (1, .int (nI pk)), (0, .ref o0)]) hx hb dX6_peel_68 rfl hl (by decide) rfl (fun ls hl => ?_)
                    refine lv_iload_n hx hb dX6_peel_69 rfl (lv_at hl 0 rfl) ?_
                    refine q_if_eq (tgt := 134) hx hb (by decide) dX6_peel_70 (by decide) (fun z70 => absurd z70 (by decide)) (fun z70 => ?_)
                    refine lv_iconst (v := nI 0) hx hb dX6_peel_73 (by decide) ?_
                    refine lv_istore (lv' := [(6, .int (nI 0)), (2, .int (nI 1)), (4, .long (q_lf msk ps2 k)), (3, .int (nI k)), (1, .int (nI pk)), (0, .ref o0)]) hx hb dX6_peel_74 hl (by decide) rfl (fun ls hl => ?_)
                    have loop76 : ∀ (fu : Nat) (b : Nat), 64 - b < fu → (b ≤ q_low (q_lf msk ps2 k)) → ∀ (H : Heap) (locs : List Loc), vq_H G A s [(o0, .inr (6, [.int (nI rf), .ref mw, .int (nI S), .int (nI B), .ref mv, .int (nI nn), .int (nI dr), .ref mm, .ref mn, .int (nI pk2), .long ps2, .ref mo, .ref mb, .ref mr, .ref mq, .ref mrk, .ref mqk, .long red, .int rdn, .long gen, .int (nI dm), .ref md])), (mw, .inl (G.2.1, 13, .inl (fun zz => nI ((q_w1 w) zz)))), (mv, .inl (G.2.1, 32, .inl vals)), (mm, .inl (G.2.2, 126, .inr (.inl msk))), (mn, .inl (G.2.1, 126, .inl nums)), (mo, .inl (G.2.1, 38, .inl (fun zz => nI (po2 zz)))), (mb, .inl (G.2.1, 38, .inl pb2)), (mr, .inl (G.2.2, 38, .inr (.inl rows))), (mq, .inl (G.2.1, 38, .inl rv)), (mrk, .inl (G.2.2, 38, .inr (.inl rwk))), (mqk, .inl (G.2.1, 38, .inl rvk)), (md, .inl (G.2.1, 38, .inl (fun zz => nI (drw zz))))] H locs → ∀ (ls : Array Slot), lv_has ls 7 [(6, .int (nI b)), (2, .int (nI 1)), (4, .long (q_lf msk ps2 k)), (3, .int (nI k)), (1, .int (nI pk)), (0, .ref o0)] → W p l e ({ frames := 0, cells := 0, slots := 0, locals := 0 } : Room) s m args below meth c H locs 0 0 (MQ below (va_Qi (fun zr (_ : Unit) => zr = (nI ((q_pn msk nn 38 (po, pb, pk, ps)).2.2.1 - pk))) (fun _ => vq_T G A [(o0, .inr (6, [.int (nI rf), .ref mw, .int (nI S), .int (nI B), .ref mv, .int (nI nn), .int (nI dr), .ref mm, .ref mn, .int (nI ((q_pn msk nn 38 (po, pb, pk, ps)).2.2.1)), .long ((q_pn msk nn 38 (po, pb, pk, ps)).2.2.2), .ref mo, .ref mb, .ref mr, .ref mq, .ref mrk, .ref mqk, .long red, .int rdn, .long gen, .int (nI dm), .ref md])), (mw, .inl (G.2.1, 13, .inl (fun zz => nI ((q_w1 w) zz)))), (mv, .inl (G.2.1, 32, .inl vals)), (mm, .inl (G.2.2, 126, .inr (.inl msk))), (mn, .inl (G.2.1, 126, .inl nums)), (mo, .inl (G.2.1, 38, .inl (fun zz => nI ((q_pn msk nn 38 (po, pb, pk, ps)).1 zz)))), (mb, .inl (G.2.1, 38, .inl ((q_pn msk nn 38 (po, pb, pk, ps)).2.1))), (mr, .inl (G.2.2, 38, .inr (.inl rows))), (mq, .inl (G.2.1, 38, .inl rv)), (mrk, .inl (G.2.2, 38, .inr (.inl rwk))), (mqk, .inl (G.2.1, 38, .inl rvk)), (md, .inl (G.2.1, 38, .inl (fun zz => nI (drw zz))))]) A) args s 0 0 A) (F0 m 76 ls []) := by
                      intro fu
                      induction fu with
                      | zero => exact fun b hm => absurd hm (Nat.not_lt_zero _)
                      | succ fu ih =>
                        intro b hm76 hbl H locs h ls hl
                        have ih76 := ih
                        clear ih
                        refine lv_lload hx hb dX6_peel_76 (lv_at hl 2 rfl) ?_
                        refine lv_iload hx hb dX6_peel_78 (lv_at hl 0 rfl) ?_
                        refine lv_lshr (v := (q_lf msk ps2 k) >>> ((nI b).toInt64 &&& 63)) hx hb dX6_peel_80 rfl ?_
                        refine lv_lconst (v := 1) hx hb dX6_peel_81 (by decide) ?_
                        refine lv_land hx hb dX6_peel_82 ?_
                        refine lv_lconst (v := 0) hx hb dX6_peel_83 (by decide) ?_
                        refine q_lif_ne (tgt := 94) hx hb dX6_peel_84 dX6_peel_85 (by decide) (fun z85 => ?_) (fun z85 => ?_)
                        · have hbe : b = q_low (q_lf msk ps2 k) := q_low_at (q_tstN0 (by omega) z85) hbl
                          have hb38 : b < 38 := by rw [hbe]; exact hr.1
                          refine lv_aload_n hx hb dX6_peel_94 rfl (lv_at hl 5 rfl) ?_
                          refine q_get (Cn := RX6) (T := TX6) (N := 22) (ci := 6) (v := .ref mo) C h iX6 0 rfl rfl 11 (by decide) f30 rfl dX6_peel_95 ?_
                          refine lv_aload_n hx hb dX6_peel_98 rfl (lv_at hl 5 rfl) ?_
                          refine q_get (Cn := RX6) (T := TX6) (N := 22) (ci := 6) (v := .int (nI pk2)) C h iX6 0 rfl rfl 9 (by decide) f74 rfl dX6_peel_99 ?_
                          refine lv_iload hx hb dX6_peel_102 (lv_at hl 0 rfl) ?_
                          refine q_iast (i := pk2) (g := (fun zz => nI ((va_up po2 pk2 b) zz))) (w' := [(o0, .inr (6, [.int (nI rf), .ref mw, .int (nI S), .int (nI B), .ref mv, .int (nI nn), .int (nI dr), .ref mm, .ref mn, .int (nI pk2), .long ps2, .ref mo, .ref mb, .ref mr, .ref mq, .ref mrk, .ref mqk, .long red, .int rdn, .long gen, .int (nI dm), .ref md])), (mw, .inl (G.2.1, 13, .inl (fun zz => nI ((q_w1 w) zz)))), (mv, .inl (G.2.1, 32, .inl vals)), (mm, .inl (G.2.2, 126, .inr (.inl msk))), (mn, .inl (G.2.1, 126, .inl nums)), (mo, .inl (G.2.1, 38, .inl (fun zz => nI ((va_up po2 pk2 b) zz)))), (mb, .inl (G.2.1, 38, .inl pb2)), (mr, .inl (G.2.2, 38, .inr (.inl rows))), (mq, .inl (G.2.1, 38, .inl rv)), (mrk, .inl (G.2.2, 38, .inr (.inl rwk))), (mqk, .inl (G.2.1, 38, .inl rvk)), (md, .inl (G.2.1, 38, .inl (fun zz => nI (drw zz))))]) C h 5 rfl (by omega) (by omega) (q_upN _ _ _) rfl dX6_peel_104 (fun H locs h => ?_)
                          refine lv_aload_n hx hb dX6_peel_105 rfl (lv_at hl 5 rfl) ?_
                          refine q_get (Cn := RX6) (T := TX6) (N := 22) (ci := 6) (v := .ref mb) C h iX6 0 rfl rfl 12 (by decide) f33 rfl dX6_peel_106 ?_
                          refine lv_iload hx hb dX6_peel_109 (lv_at hl 0 rfl) ?_
                          refine lv_iload_n hx hb dX6_peel_111 rfl (lv_at hl 3 rfl) ?_
                          refine q_iast (i := b) (g := upd pb2 b (nI k)) (w' := [(o0, .inr (6, [.int (nI rf), .ref mw, .int (nI S), .int (nI B), .ref mv, .int (nI nn), .int (nI dr), .ref mm, .ref mn, .int (nI pk2), .long ps2, .ref mo, .ref mb, .ref mr, .ref mq, .ref mrk, .ref mqk, .long red, .int rdn, .long gen, .int (nI dm), .ref md])), (mw, .inl (G.2.1, 13, .inl (fun zz => nI ((q_w1 w) zz)))), (mv, .inl (G.2.1, 32, .inl vals)), (mm, .inl (G.2.2, 126, .inr (.inl msk))), (mn, .inl (G.2.1, 126, .inl nums)), (mo, .inl (G.2.1, 38, .inl (fun zz => nI ((va_up po2 pk2 b) zz)))), (mb, .inl (G.2.1, 38, .inl (upd pb2 b (nI k)))), (mr, .inl (G.2.2, 38, .inr (.inl rows))), (mq, .inl (G.2.1, 38, .inl rv)), (mrk, .inl (G.2.2, 38, .inr (.inl rwk))), (mqk, .inl (G.2.1, 38, .inl rvk)), (md, .inl (G.2.1, 38, .inl (fun zz => nI (drw zz))))]) C h 6 rfl (by omega) (by omega) rfl rfl dX6_peel_112 (fun H locs h => ?_)
                          refine lv_aload_n hx hb dX6_peel_113 rfl (lv_at hl 5 rfl) ?_
                          refine lv_dup hx hb dX6_peel_114 rfl ?_
                          refine q_get (Cn := RX6) (T := TX6) (N := 22) (ci := 6) (v := .int (nI pk2)) C h iX6 0 rfl rfl 9 (by decide) f74 rfl dX6_peel_115 ?_
                          refine lv_iconst (v := nI 1) hx hb dX6_peel_118 (by decide) ?_
                          refine q_iadd hx hb dX6_peel_119 ?_
                          refine q_put (Cn := RX6) (T := TX6) (N := 22) (ci := 6) (v := .int (nI (pk2 + 1))) (w' := [(o0, .inr (6, [.int (nI rf), .ref mw, .int (nI S), .int (nI B), .ref mv, .int (nI nn), .int (nI dr), .ref mm, .ref mn, .int (nI (pk2 + 1)), .long ps2, .ref mo, .ref mb, .ref mr, .ref mq, .ref mrk, .ref mqk, .long red, .int rdn, .long gen, .int (nI dm), .ref md])), (mw, .inl (G.2.1, 13, .inl (fun zz => nI ((q_w1 w) zz)))), (mv, .inl (G.2.1, 32, .inl vals)), (mm, .inl (G.2.2, 126, .inr (.inl msk))), (mn, .inl (G.2.1, 126, .inl nums)), (mo, .inl (G.2.1, 38, .inl (fun zz => nI ((va_up po2 pk2 b) zz)))), (mb, .inl (G.2.1, 38, .inl (upd pb2 b (nI k)))), (mr, .inl (G.2.2, 38, .inr (.inl rows))), (mq, .inl (G.2.1, 38, .inl rv)), (mrk, .inl (G.2.2, 38, .inr (.inl rwk))), (mqk, .inl (G.2.1, 38, .inl rvk)), (md, .inl (G.2.1, 38, .inl (fun zz => nI (drw zz))))]) C h iX6 tyX6 tyX6_ok nmX6 0 rfl rfl 9 (by decide) f74 rfl rfl rfl (Nat.le_of_ble_eq_true rfl) dX6_peel_120 rfl (fun H locs h => ?_)
                          refine lv_aload_n hx hb dX6_peel_123 rfl (lv_at hl 5 rfl) ?_
                          refine lv_dup hx hb dX6_peel_124 rfl ?_
                          refine q_get (Cn := RX6) (T := TX6) (N := 22) (ci := 6) (v := .long ps2) C h iX6 0 rfl rfl 10 (by decide) f77 rfl dX6_peel_125 ?_
                          refine lv_lload hx hb dX6_peel_128 (lv_at hl 2 rfl) ?_
                          refine lv_lor hx hb dX6_peel_130 ?_
                          refine q_top (v' := .long (ps2 ||| (q_bit (q_low (q_lf msk ps2 k))))) (congrArg (fun t => Value.long (ps2 ||| t)) (q_one_bit z48 z60)) ?_
                          refine q_put (Cn := RX6) (T := TX6) (N := 22) (ci := 6) (v := .long (ps2 ||| (q_bit (q_low (q_lf msk ps2 k))))) (w' := [(o0, .inr (6, [.int (nI rf), .ref mw, .int (nI S), .int (nI B), .ref mv, .int (nI nn), .int (nI dr), .ref mm, .ref mn, .int (nI (pk2 + 1)), .long (ps2 ||| (q_bit (q_low (q_lf msk ps2 k)))), .ref mo, .ref mb, .ref mr, .ref mq, .ref mrk, .ref mqk, .long red, .int rdn, .long gen, .int (nI dm), .ref md])), (mw, .inl (G.2.1, 13, .inl (fun zz => nI ((q_w1 w) zz)))), (mv, .inl (G.2.1, 32, .inl vals)), (mm, .inl (G.2.2, 126, .inr (.inl msk))), (mn, .inl (G.2.1, 126, .inl nums)), (mo, .inl (G.2.1, 38, .inl (fun zz => nI ((va_up po2 pk2 b) zz)))), (mb, .inl (G.2.1, 38, .inl (upd pb2 b (nI k)))), (mr, .inl (G.2.2, 38, .inr (.inl rows))), (mq, .inl (G.2.1, 38, .inl rv)), (mrk, .inl (G.2.2, 38, .inr (.inl rwk))), (mqk, .inl (G.2.1, 38, .inl rvk)), (md, .inl (G.2.1, 38, .inl (fun zz => nI (drw zz))))]) C h iX6 tyX6 tyX6_ok nmX6 0 rfl rfl 10 (by decide) f77 rfl rfl rfl (Nat.le_of_ble_eq_true rfl) dX6_peel_131 rfl (fun H locs h => ?_)
                          refine lv_iinc (v := nI (k + 1)) (lv' := [(3, .int (nI (k + 1))), (6, .int (nI b)), (2, .int (nI 1)), (4, .long (q_lf msk ps2 k)), (1, .int (nI pk)), (0, .ref o0)]) hx hb dX6_peel_134 hl (k := 3) rfl (q_inc k) (by decide) rfl (fun ls hl => ?_)
                          refine lv_goto (tgt := 15) hx hb dX6_peel_137 (by decide) ?_
                          exact ih15 (k + 1) 1 (va_up po2 pk2 b) (upd pb2 b (nI k)) (pk2 + 1) (ps2 ||| (q_bit (q_low (q_lf msk ps2 k)))) (by omega) (show (k + 1) ≤ nn from (by omega)) (show 1 = 0 → ((va_up po2 pk2 b), (upd pb2 b (nI k)), (pk2 + 1), (ps2 ||| (q_bit (q_low (q_lf msk ps2 k))))) = (po1, pb1, pk1, ps1) from (by first | exact fun h => absurd h (by decide) | exact fun _ => hA z24)) (show 1 = 0 → ∀ j, j < (k + 1) → q_rd msk ps1 j = false from (by first | exact fun h => absurd h (by decide) | exact fun _ j hj => (Nat.lt_or_ge j k).elim (fun a => hA2 z24 j a) (fun a => by rw [show j = k from by omega]; exact hps.symm ▸ hrf))) (show 1 ≠ 0 → 1 = 1 ∧ ∃ i, q_fr (q_rd msk ps1) nn = some i ∧ ((va_up po2 pk2 b), (upd pb2 b (nI k)), (pk2 + 1), (ps2 ||| (q_bit (q_low (q_lf msk ps2 k))))) = q_ps1 msk i (po1, pb1, pk1, ps1) from (by first | exact fun h => absurd rfl h | exact fun _ => ⟨rfl, k, hsm, by rw [← hA z24, hbe]; rfl⟩)) _ _ h _ (lv_sub hl [0, 2, 4, 5] rfl)
                        · refine lv_iinc (v := nI (b + 1)) (lv' := [(6, .int (nI (b + 1))), (2, .int (nI 1)), (4, .long (q_lf msk ps2 k)), (3, .int (nI k)), (1, .int (nI pk)), (0, .ref o0)]) hx hb dX6_peel_88 hl (k := 0) rfl (q_inc b) (by decide) rfl (fun ls hl => ?_)
                          refine lv_goto (tgt := 76) hx hb dX6_peel_91 (by decide) ?_
                          exact ih76 (b + 1) (by omega) (show (b + 1) ≤ q_low (q_lf msk ps2 k) from (q_low_step z48 (q_tst0 (by omega) z85) hbl)) _ _ h _ (lv_sub hl [0, 1, 2, 3, 4, 5] rfl)
                    exact loop76 (64 - 0 + 1) 0 (Nat.lt_succ_self _) (show 0 ≤ q_low (q_lf msk ps2 k) from (Nat.zero_le _)) _ _ h _ (lv_sub hl [0, 1, 2, 3, 4, 5] rfl)
        exact loop15 (nn - 0 + 1) 0 0 po1 pb1 pk1 ps1 (Nat.lt_succ_self _) (show 0 ≤ nn from (Nat.zero_le _)) (show 0 = 0 → (po1, pb1, pk1, ps1) = (po1, pb1, pk1, ps1) from (fun _ => rfl)) (show 0 = 0 → ∀ j, j < 0 → q_rd msk ps1 j = false from (fun _ j hj => absurd hj (Nat.not_lt_zero _))) (show 0 ≠ 0 → 0 = 1 ∧ ∃ i, q_fr (q_rd msk ps1) nn = some i ∧ (po1, pb1, pk1, ps1) = q_ps1 msk i (po1, pb1, pk1, ps1) from (fun h => absurd rfl h)) _ _ h _ (lv_sub hl [0, 1, 2, 3] rfl)
  exact loop7 (2 * (38 - pk) + 1 + 1) 1 po pb pk ps (Nat.lt_succ_self _) (show q_pn msk nn (38 - pk) (po, pb, pk, ps) = q_pn msk nn (38 - pk) (po, pb, pk, ps) from rfl) (show pk = q_pop ps 38 from hp) (show pk ≤ pk from (Nat.le_refl _)) (show 1 ≤ 1 from (by decide)) (show 1 = 0 → q_fr (q_rd msk ps) nn = none from (fun h => absurd h (by decide))) _ _ h _ (lv_sub hl [0, 1, 2] rfl)

set_option maxHeartbeats 4000000 in
set_option maxRecDepth 100000 in
theorem c_X6_rankOf (l : Launch) (G : vq_G) (o0 mw mv mm mn mo mb mr mq mrk mqk md : Nat) (rf S B nn dr pk : Nat) (ps red : Int64) (rdn : Int32) (gen : Int64) (dm : Nat) (w : Nat → Nat) (vals : Nat → Int32) (msk : Nat → Int64) (nums : Nat → Int32) (po : Nat → Nat) (pb : Nat → Int32) (rows : Nat → Int64) (rv : Nat → Int32) (rwk : Nat → Int64) (rvk : Nat → Int32) (drw : Nat → Nat) (hS1 : 1 ≤ S) (hS : S ≤ 32) (hSB : S ≤ B) (hB : B ≤ S + 6) : vq_i l yX6_rankOf wsX6_rankOf 0 0 G [.ref o0] [(o0, .inr (6, [.int (nI rf), .ref mw, .int (nI S), .int (nI B), .ref mv, .int (nI nn), .int (nI dr), .ref mm, .ref mn, .int (nI pk), .long ps, .ref mo, .ref mb, .ref mr, .ref mq, .ref mrk, .ref mqk, .long red, .int rdn, .long gen, .int (nI dm), .ref md])), (mw, .inl (G.2.1, 13, .inl (fun zz => nI ((q_w1 w) zz)))), (mv, .inl (G.2.1, 32, .inl vals)), (mm, .inl (G.2.2, 126, .inr (.inl msk))), (mn, .inl (G.2.1, 126, .inl nums)), (mo, .inl (G.2.1, 38, .inl (fun zz => nI (po zz)))), (mb, .inl (G.2.1, 38, .inl pb)), (mr, .inl (G.2.2, 38, .inr (.inl rows))), (mq, .inl (G.2.1, 38, .inl rv)), (mrk, .inl (G.2.2, 38, .inr (.inl rwk))), (mqk, .inl (G.2.1, 38, .inl rvk)), (md, .inl (G.2.1, 38, .inl (fun zz => nI (drw zz))))] (nI (q_rko rows B)) [(o0, .inr (6, [.int (nI rf), .ref mw, .int (nI S), .int (nI B), .ref mv, .int (nI nn), .int (nI dr), .ref mm, .ref mn, .int (nI pk), .long ps, .ref mo, .ref mb, .ref mr, .ref mq, .ref mrk, .ref mqk, .long red, .int rdn, .long gen, .int (nI dm), .ref md])), (mw, .inl (G.2.1, 13, .inl (fun zz => nI ((q_w1 w) zz)))), (mv, .inl (G.2.1, 32, .inl vals)), (mm, .inl (G.2.2, 126, .inr (.inl msk))), (mn, .inl (G.2.1, 126, .inl nums)), (mo, .inl (G.2.1, 38, .inl (fun zz => nI (po zz)))), (mb, .inl (G.2.1, 38, .inl pb)), (mr, .inl (G.2.2, 38, .inr (.inl rows))), (mq, .inl (G.2.1, 38, .inl rv)), (mrk, .inl (G.2.2, 38, .inr (.inl rwk))), (mqk, .inl (G.2.1, 38, .inl rvk)), (md, .inl (G.2.1, 38, .inl (fun zz => nI (drw zz))))] := by
  refine vq_openi (cc := cX6_rankOf) (maxL := 3) (ret := (some .int)) (Ts' := wsX6_rankOf.tail) (by decide) rfl (Nat.le_of_ble_eq_true rfl) ?_
  intro p e s m args below meth c A ls C h hnm hl
  have hx := C.1.1
  have hb := C.1.2.1
  have hts := C.1.2.2.2.2
  have hl : lv_has ls 3 [(0, .ref o0)] := hl
  have f17 := C.1.2.2.2.2 (.fieldLink RX6 17 "FountainCodeModel" "blocks" "I") (by decide +kernel)
  have iX6 : ∀ w ∈ u_ws RX6 TX6 22, w ∈ wsX6_rankOf := by decide +kernel
  have f36 := C.1.2.2.2.2 (.fieldLink RX6 36 "FountainCodeModel" "rows" "[J") (by decide +kernel)
  refine lv_iconst (v := nI 0) hx hb dX6_rankOf_0 (by decide) ?_
  refine lv_istore_n (lv' := [(1, .int (nI 0)), (0, .ref o0)]) hx hb dX6_rankOf_1 rfl hl (by decide) rfl (fun ls hl => ?_)
  refine lv_iconst (v := nI 0) hx hb dX6_rankOf_2 (by decide) ?_
  refine lv_istore_n (lv' := [(2, .int (nI 0)), (1, .int (nI 0)), (0, .ref o0)]) hx hb dX6_rankOf_3 rfl hl (by decide) rfl (fun ls hl => ?_)
  have loop4 : ∀ (fu : Nat) (k : Nat) (y : Nat), B - k < fu → y = q_rko rows k → (k ≤ B) → ∀ (H : Heap) (locs : List Loc), vq_H G A s [(o0, .inr (6, [.int (nI rf), .ref mw, .int (nI S), .int (nI B), .ref mv, .int (nI nn), .int (nI dr), .ref mm, .ref mn, .int (nI pk), .long ps, .ref mo, .ref mb, .ref mr, .ref mq, .ref mrk, .ref mqk, .long red, .int rdn, .long gen, .int (nI dm), .ref md])), (mw, .inl (G.2.1, 13, .inl (fun zz => nI ((q_w1 w) zz)))), (mv, .inl (G.2.1, 32, .inl vals)), (mm, .inl (G.2.2, 126, .inr (.inl msk))), (mn, .inl (G.2.1, 126, .inl nums)), (mo, .inl (G.2.1, 38, .inl (fun zz => nI (po zz)))), (mb, .inl (G.2.1, 38, .inl pb)), (mr, .inl (G.2.2, 38, .inr (.inl rows))), (mq, .inl (G.2.1, 38, .inl rv)), (mrk, .inl (G.2.2, 38, .inr (.inl rwk))), (mqk, .inl (G.2.1, 38, .inl rvk)), (md, .inl (G.2.1, 38, .inl (fun zz => nI (drw zz))))] H locs → ∀ (ls : Array Slot), lv_has ls 3 [(2, .int (nI k)), (1, .int (nI y)), (0, .ref o0)] → W p l e ({ frames := 0, cells := 0, slots := 0, locals := 0 } : Room) s m args below meth c H locs 0 0 (MQ below (va_Qi (fun zr (_ : Unit) => zr = (nI (q_rko rows B))) (fun _ => vq_T G A [(o0, .inr (6, [.int (nI rf), .ref mw, .int (nI S), .int (nI B), .ref mv, .int (nI nn), .int (nI dr), .ref mm, .ref mn, .int (nI pk), .long ps, .ref mo, .ref mb, .ref mr, .ref mq, .ref mrk, .ref mqk, .long red, .int rdn, .long gen, .int (nI dm), .ref md])), (mw, .inl (G.2.1, 13, .inl (fun zz => nI ((q_w1 w) zz)))), (mv, .inl (G.2.1, 32, .inl vals)), (mm, .inl (G.2.2, 126, .inr (.inl msk))), (mn, .inl (G.2.1, 126, .inl nums)), (mo, .inl (G.2.1, 38, .inl (fun zz => nI (po zz)))), (mb, .inl (G.2.1, 38, .inl pb)), (mr, .inl (G.2.2, 38, .inr (.inl rows))), (mq, .inl (G.2.1, 38, .inl rv)), (mrk, .inl (G.2.2, 38, .inr (.inl rwk))), (mqk, .inl (G.2.1, 38, .inl rvk)), (md, .inl (G.2.1, 38, .inl (fun zz => nI (drw zz))))]) A) args s 0 0 A) (F0 m 4 ls []) := by
    intro fu
    induction fu with
    | zero => exact fun k y hm => absurd hm (Nat.not_lt_zero _)
    | succ fu ih =>
      intro k y hm4 e_y hk H locs h ls hl
      have ih4 := ih
      clear ih
      refine lv_iload_n hx hb dX6_rankOf_4 rfl (lv_at hl 0 rfl) ?_
      refine lv_aload_n hx hb dX6_rankOf_5 rfl (lv_at hl 2 rfl) ?_
      refine q_get (Cn := RX6) (T := TX6) (N := 22) (ci := 6) (v := .int (nI B)) C h iX6 0 rfl rfl 3 (by decide) f17 rfl dX6_rankOf_6 ?_
      refine q_icmp_ge (tgt := 37) hx hb (by omega) (by omega) dX6_rankOf_9 (by decide) (fun z9 => ?_) (fun z9 => ?_)
      · refine lv_iload_n hx hb dX6_rankOf_37 rfl (lv_at hl 1 rfl) ?_
        exact q_reti C h rfl (by rw [e_y, show k = B from by omega]) rfl dX6_rankOf_38
      · refine lv_iload_n hx hb dX6_rankOf_12 rfl (lv_at hl 1 rfl) ?_
        refine lv_aload_n hx hb dX6_rankOf_13 rfl (lv_at hl 2 rfl) ?_
        refine q_get (Cn := RX6) (T := TX6) (N := 22) (ci := 6) (v := .ref mr) C h iX6 0 rfl rfl 13 (by decide) f36 rfl dX6_rankOf_14 ?_
        refine lv_iload_n hx hb dX6_rankOf_17 rfl (lv_at hl 0 rfl) ?_
        refine q_lald (i := k) (v := rows k) C h 7 rfl (by omega) (by omega) rfl dX6_rankOf_18 ?_
        refine lv_lconst (v := 0) hx hb dX6_rankOf_19 (by decide) ?_
        refine q_lif_eq (tgt := 28) hx hb dX6_rankOf_20 dX6_rankOf_21 (by decide) (fun z21 => ?_) (fun z21 => ?_)
        · refine lv_iconst (v := nI 0) hx hb dX6_rankOf_28 (by decide) ?_
          refine q_iadd hx hb dX6_rankOf_29 ?_
          refine lv_istore_n (lv' := [(1, .int (nI (y + 0))), (2, .int (nI k)), (0, .ref o0)]) hx hb dX6_rankOf_30 rfl hl (by decide) rfl (fun ls hl => ?_)
          refine lv_iinc (v := nI (k + 1)) (lv' := [(2, .int (nI (k + 1))), (1, .int (nI (y + 0))), (0, .ref o0)]) hx hb dX6_rankOf_31 hl (k := 1) rfl (q_inc k) (by decide) rfl (fun ls hl => ?_)
          refine lv_goto (tgt := 4) hx hb dX6_rankOf_34 (by decide) ?_
          exact ih4 (k + 1) (y + 0) (by omega) (show (y + 0) = q_rko rows (k + 1) from (by rw [e_y]; simp [q_rko, z21])) (show (k + 1) ≤ B from (by omega)) _ _ h _ (lv_sub hl [0, 1, 2] rfl)
        · refine lv_iconst (v := nI 1) hx hb dX6_rankOf_24 (by decide) ?_
          refine lv_goto (tgt := 29) hx hb dX6_rankOf_25 (by decide) ?_
          refine q_iadd hx hb dX6_rankOf_29 ?_
          refine lv_istore_n (lv' := [(1, .int (nI (y + 1))), (2, .int (nI k)), (0, .ref o0)]) hx hb dX6_rankOf_30 rfl hl (by decide) rfl (fun ls hl => ?_)
          refine lv_iinc (v := nI (k + 1)) (lv' := [(2, .int (nI (k + 1))), (1, .int (nI (y + 1))), (0, .ref o0)]) hx hb dX6_rankOf_31 hl (k := 1) rfl (q_inc k) (by decide) rfl (fun ls hl => ?_)
          refine lv_goto (tgt := 4) hx hb dX6_rankOf_34 (by decide) ?_
          exact ih4 (k + 1) (y + 1) (by omega) (show (y + 1) = q_rko rows (k + 1) from (by rw [e_y]; simp [q_rko, z21])) (show (k + 1) ≤ B from (by omega)) _ _ h _ (lv_sub hl [0, 1, 2] rfl)
  exact loop4 (B - 0 + 1) 0 0 (Nat.lt_succ_self _) (show 0 = q_rko rows 0 from rfl) (show 0 ≤ B from (Nat.zero_le _)) _ _ h _ (lv_sub hl [0, 1, 2] rfl)

set_option maxHeartbeats 4000000 in
set_option maxRecDepth 100000 in
theorem c_X6_determinedMany (l : Launch) (G : vq_G) (o0 mw mv mm mn mo mb mr mq mrk mqk md : Nat) (rf S B nn dr pk : Nat) (ps red : Int64) (rdn : Int32) (gen : Int64) (dm : Nat) (w : Nat → Nat) (vals : Nat → Int32) (msk : Nat → Int64) (nums : Nat → Int32) (po : Nat → Nat) (pb : Nat → Int32) (rows : Nat → Int64) (rv : Nat → Int32) (rwk : Nat → Int64) (rvk : Nat → Int32) (drw : Nat → Nat) (hS1 : 1 ≤ S) (hS : S ≤ 32) (hSB : S ≤ B) (hB : B ≤ S + 6) : vq_i l yX6_determinedMany wsX6_determinedMany 0 0 G [.ref o0] [(o0, .inr (6, [.int (nI rf), .ref mw, .int (nI S), .int (nI B), .ref mv, .int (nI nn), .int (nI dr), .ref mm, .ref mn, .int (nI pk), .long ps, .ref mo, .ref mb, .ref mr, .ref mq, .ref mrk, .ref mqk, .long red, .int rdn, .long gen, .int (nI dm), .ref md])), (mw, .inl (G.2.1, 13, .inl (fun zz => nI ((q_w1 w) zz)))), (mv, .inl (G.2.1, 32, .inl vals)), (mm, .inl (G.2.2, 126, .inr (.inl msk))), (mn, .inl (G.2.1, 126, .inl nums)), (mo, .inl (G.2.1, 38, .inl (fun zz => nI (po zz)))), (mb, .inl (G.2.1, 38, .inl pb)), (mr, .inl (G.2.2, 38, .inr (.inl rows))), (mq, .inl (G.2.1, 38, .inl rv)), (mrk, .inl (G.2.2, 38, .inr (.inl rwk))), (mqk, .inl (G.2.1, 38, .inl rvk)), (md, .inl (G.2.1, 38, .inl (fun zz => nI (drw zz))))] (nI (q_dmo rows B)) [(o0, .inr (6, [.int (nI rf), .ref mw, .int (nI S), .int (nI B), .ref mv, .int (nI nn), .int (nI dr), .ref mm, .ref mn, .int (nI pk), .long ps, .ref mo, .ref mb, .ref mr, .ref mq, .ref mrk, .ref mqk, .long red, .int rdn, .long gen, .int (nI dm), .ref md])), (mw, .inl (G.2.1, 13, .inl (fun zz => nI ((q_w1 w) zz)))), (mv, .inl (G.2.1, 32, .inl vals)), (mm, .inl (G.2.2, 126, .inr (.inl msk))), (mn, .inl (G.2.1, 126, .inl nums)), (mo, .inl (G.2.1, 38, .inl (fun zz => nI (po zz)))), (mb, .inl (G.2.1, 38, .inl pb)), (mr, .inl (G.2.2, 38, .inr (.inl rows))), (mq, .inl (G.2.1, 38, .inl rv)), (mrk, .inl (G.2.2, 38, .inr (.inl rwk))), (mqk, .inl (G.2.1, 38, .inl rvk)), (md, .inl (G.2.1, 38, .inl (fun zz => nI (drw zz))))] := by
  refine vq_openi (cc := cX6_determinedMany) (maxL := 3) (ret := (some .int)) (Ts' := wsX6_determinedMany.tail) (by decide) rfl (Nat.le_of_ble_eq_true rfl) ?_
  intro p e s m args below meth c A ls C h hnm hl
  have hx := C.1.1
  have hb := C.1.2.1
  have hts := C.1.2.2.2.2
  have hl : lv_has ls 3 [(0, .ref o0)] := hl
  have f17 := C.1.2.2.2.2 (.fieldLink RX6 17 "FountainCodeModel" "blocks" "I") (by decide +kernel)
  have iX6 : ∀ w ∈ u_ws RX6 TX6 22, w ∈ wsX6_determinedMany := by decide +kernel
  have f36 := C.1.2.2.2.2 (.fieldLink RX6 36 "FountainCodeModel" "rows" "[J") (by decide +kernel)
  refine lv_iconst (v := nI 0) hx hb dX6_determinedMany_0 (by decide) ?_
  refine lv_istore_n (lv' := [(1, .int (nI 0)), (0, .ref o0)]) hx hb dX6_determinedMany_1 rfl hl (by decide) rfl (fun ls hl => ?_)
  refine lv_iconst (v := nI 0) hx hb dX6_determinedMany_2 (by decide) ?_
  refine lv_istore_n (lv' := [(2, .int (nI 0)), (1, .int (nI 0)), (0, .ref o0)]) hx hb dX6_determinedMany_3 rfl hl (by decide) rfl (fun ls hl => ?_)
  have loop4 : ∀ (fu : Nat) (k : Nat) (y : Nat), B - k < fu → y = q_dmo rows k → (k ≤ B) → ∀ (H : Heap) (locs : List Loc), vq_H G A s [(o0, .inr (6, [.int (nI rf), .ref mw, .int (nI S), .int (nI B), .ref mv, .int (nI nn), .int (nI dr), .ref mm, .ref mn, .int (nI pk), .long ps, .ref mo, .ref mb, .ref mr, .ref mq, .ref mrk, .ref mqk, .long red, .int rdn, .long gen, .int (nI dm), .ref md])), (mw, .inl (G.2.1, 13, .inl (fun zz => nI ((q_w1 w) zz)))), (mv, .inl (G.2.1, 32, .inl vals)), (mm, .inl (G.2.2, 126, .inr (.inl msk))), (mn, .inl (G.2.1, 126, .inl nums)), (mo, .inl (G.2.1, 38, .inl (fun zz => nI (po zz)))), (mb, .inl (G.2.1, 38, .inl pb)), (mr, .inl (G.2.2, 38, .inr (.inl rows))), (mq, .inl (G.2.1, 38, .inl rv)), (mrk, .inl (G.2.2, 38, .inr (.inl rwk))), (mqk, .inl (G.2.1, 38, .inl rvk)), (md, .inl (G.2.1, 38, .inl (fun zz => nI (drw zz))))] H locs → ∀ (ls : Array Slot), lv_has ls 3 [(2, .int (nI k)), (1, .int (nI y)), (0, .ref o0)] → W p l e ({ frames := 0, cells := 0, slots := 0, locals := 0 } : Room) s m args below meth c H locs 0 0 (MQ below (va_Qi (fun zr (_ : Unit) => zr = (nI (q_dmo rows B))) (fun _ => vq_T G A [(o0, .inr (6, [.int (nI rf), .ref mw, .int (nI S), .int (nI B), .ref mv, .int (nI nn), .int (nI dr), .ref mm, .ref mn, .int (nI pk), .long ps, .ref mo, .ref mb, .ref mr, .ref mq, .ref mrk, .ref mqk, .long red, .int rdn, .long gen, .int (nI dm), .ref md])), (mw, .inl (G.2.1, 13, .inl (fun zz => nI ((q_w1 w) zz)))), (mv, .inl (G.2.1, 32, .inl vals)), (mm, .inl (G.2.2, 126, .inr (.inl msk))), (mn, .inl (G.2.1, 126, .inl nums)), (mo, .inl (G.2.1, 38, .inl (fun zz => nI (po zz)))), (mb, .inl (G.2.1, 38, .inl pb)), (mr, .inl (G.2.2, 38, .inr (.inl rows))), (mq, .inl (G.2.1, 38, .inl rv)), (mrk, .inl (G.2.2, 38, .inr (.inl rwk))), (mqk, .inl (G.2.1, 38, .inl rvk)), (md, .inl (G.2.1, 38, .inl (fun zz => nI (drw zz))))]) A) args s 0 0 A) (F0 m 4 ls []) := by
    intro fu
    induction fu with
    | zero => exact fun k y hm => absurd hm (Nat.not_lt_zero _)
    | succ fu ih =>
      intro k y hm4 e_y hk H locs h ls hl
      have ih4 := ih
      clear ih
      refine lv_iload_n hx hb dX6_determinedMany_4 rfl (lv_at hl 0 rfl) ?_
      refine lv_aload_n hx hb dX6_determinedMany_5 rfl (lv_at hl 2 rfl) ?_
      refine q_get (Cn := RX6) (T := TX6) (N := 22) (ci := 6) (v := .int (nI B)) C h iX6 0 rfl rfl 3 (by decide) f17 rfl dX6_determinedMany_6 ?_
      refine q_icmp_ge (tgt := 39) hx hb (by omega) (by omega) dX6_determinedMany_9 (by decide) (fun z9 => ?_) (fun z9 => ?_)
      · refine lv_iload_n hx hb dX6_determinedMany_39 rfl (lv_at hl 1 rfl) ?_
        exact q_reti C h rfl (by rw [e_y, show k = B from by omega]) rfl dX6_determinedMany_40
      · refine lv_iload_n hx hb dX6_determinedMany_12 rfl (lv_at hl 1 rfl) ?_
        refine lv_aload_n hx hb dX6_determinedMany_13 rfl (lv_at hl 2 rfl) ?_
        refine q_get (Cn := RX6) (T := TX6) (N := 22) (ci := 6) (v := .ref mr) C h iX6 0 rfl rfl 13 (by decide) f36 rfl dX6_determinedMany_14 ?_
        refine lv_iload_n hx hb dX6_determinedMany_17 rfl (lv_at hl 0 rfl) ?_
        refine q_lald (i := k) (v := rows k) C h 7 rfl (by omega) (by omega) rfl dX6_determinedMany_18 ?_
        refine lv_lconst (v := 1) hx hb dX6_determinedMany_19 (by decide) ?_
        refine lv_iload_n hx hb dX6_determinedMany_20 rfl (lv_at hl 0 rfl) ?_
        refine lv_lshl (v := q_bit k) hx hb dX6_determinedMany_21 (q_shl k (by omega)) ?_
        refine q_lif_ne (tgt := 30) hx hb dX6_determinedMany_22 dX6_determinedMany_23 (by decide) (fun z23 => ?_) (fun z23 => ?_)
        · refine lv_iconst (v := nI 0) hx hb dX6_determinedMany_30 (by decide) ?_
          refine q_iadd hx hb dX6_determinedMany_31 ?_
          refine lv_istore_n (lv' := [(1, .int (nI (y + 0))), (2, .int (nI k)), (0, .ref o0)]) hx hb dX6_determinedMany_32 rfl hl (by decide) rfl (fun ls hl => ?_)
          refine lv_iinc (v := nI (k + 1)) (lv' := [(2, .int (nI (k + 1))), (1, .int (nI (y + 0))), (0, .ref o0)]) hx hb dX6_determinedMany_33 hl (k := 1) rfl (q_inc k) (by decide) rfl (fun ls hl => ?_)
          refine lv_goto (tgt := 4) hx hb dX6_determinedMany_36 (by decide) ?_
          exact ih4 (k + 1) (y + 0) (by omega) (show (y + 0) = q_dmo rows (k + 1) from (by rw [e_y]; simp [q_dmo, z23])) (show (k + 1) ≤ B from (by omega)) _ _ h _ (lv_sub hl [0, 1, 2] rfl)
        · refine lv_iconst (v := nI 1) hx hb dX6_determinedMany_26 (by decide) ?_
          refine lv_goto (tgt := 31) hx hb dX6_determinedMany_27 (by decide) ?_
          refine q_iadd hx hb dX6_determinedMany_31 ?_
          refine lv_istore_n (lv' := [(1, .int (nI (y + 1))), (2, .int (nI k)), (0, .ref o0)]) hx hb dX6_determinedMany_32 rfl hl (by decide) rfl (fun ls hl => ?_)
          refine lv_iinc (v := nI (k + 1)) (lv' := [(2, .int (nI (k + 1))), (1, .int (nI (y + 1))), (0, .ref o0)]) hx hb dX6_determinedMany_33 hl (k := 1) rfl (q_inc k) (by decide) rfl (fun ls hl => ?_)
          refine lv_goto (tgt := 4) hx hb dX6_determinedMany_36 (by decide) ?_
          exact ih4 (k + 1) (y + 1) (by omega) (show (y + 1) = q_dmo rows (k + 1) from (by rw [e_y]; simp [q_dmo, z23])) (show (k + 1) ≤ B from (by omega)) _ _ h _ (lv_sub hl [0, 1, 2] rfl)
  exact loop4 (B - 0 + 1) 0 0 (Nat.lt_succ_self _) (show 0 = q_dmo rows 0 from rfl) (show 0 ≤ B from (Nat.zero_le _)) _ _ h _ (lv_sub hl [0, 1, 2] rfl)
