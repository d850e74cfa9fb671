/-! the layer of the law: its state, its script, what its cases want -/
/-- the state at the loop's head: the class and the reference agree -/
def q_LI (G : vq_G) (A : Nat → Prop) (s : State) (o0 wh al sh av ph ae ao ab eh ar aw dh ad n0 mw mv mm mn mo mb mr mq mrk mqk md ot : Nat) (H : Heap) (locs : List Loc) : Prop := ∃ (w : Nat → Nat) (vals : Nat → Int32) (S : Nat) (P : Nat) (nn : Nat) (pk : Nat) (ps : Int64) (msk : Nat → Int64) (po : Nat → Nat) (pb : Nat → Int32) (rk : Nat) (rows : Nat → Int64) (rv : Nat → Int32) (gen : Int64) (sz : Nat) (bs : Int64) (row : Nat → Nat) (ov : Nat → Int64) (rf : Nat) (dr : Nat) (red : Int64) (rdn : Int32) (geM : Int64) (dm : Nat) (nums : Nat → Int32) (rwk : Nat → Int64) (rvk : Nat → Int32) (drw : Nat → Nat), (∀ j, w j ≤ 1000) ∧ 0 < q_sum w 12 ∧ 1 ≤ S ∧ S ≤ 32 ∧ P ≤ 6 ∧ q_ok S P (msk, nn, (po, pb, pk, ps), rows, rv, rk) dr ∧ vq_H G A s [(o0, .inr (5, [.ref wh, .ref sh, .ref ph, .ref eh, .ref dh])), (wh, .inr (4, [.ref al])), (al, .inl (G.2.1, 12, .inl (fun zz => nI (w zz)))), (sh, .inr (3, [.ref av, .int (nI S), .int (nI P)])), (av, .inl (G.2.1, 32, .inl vals)), (ph, .inr (2, [.ref ae, .int (nI nn), .ref ao, .ref ab, .int (nI pk), .long ps])), (ae, .inl (G.2.2, 126, .inr (.inl msk))), (ao, .inl (G.2.1, 38, .inl (fun zz => nI (po zz)))), (ab, .inl (G.2.1, 38, .inl pb)), (eh, .inr (1, [.ref ar, .ref aw, .int (nI rk)])), (ar, .inl (G.2.2, 38, .inr (.inl rows))), (aw, .inl (G.2.1, 38, .inl rv)), (dh, .inr (0, [.ref ad, .long gen, .int (nI sz), .long bs])), (ad, .inl (G.2.1, 38, .inl (fun zz => nI (row zz)))), (n0, .inr (6, [.int (nI rf), .ref mw, .int (nI S), .int (nI (S + P)), .ref mv, .int (nI nn), .int (nI dr), .ref mm, .ref mn, .int (nI pk), .long ps, .ref mo, .ref mb, .ref mr, .ref mq, .ref mrk, .ref mqk, .long red, .int rdn, .long geM, .int (nI dm), .ref md])), (mw, .inl (G.2.1, 13, .inl (fun zz => nI ((q_w1 w) zz)))), (mv, .inl (G.2.1, 32, .inl vals)), (mm, .inl (G.2.2, 126, .inr (.inl msk))), (mn, .inl (G.2.1, 126, .inl nums)), (mo, .inl (G.2.1, 38, .inl (fun zz => nI (po zz)))), (mb, .inl (G.2.1, 38, .inl pb)), (mr, .inl (G.2.2, 38, .inr (.inl rows))), (mq, .inl (G.2.1, 38, .inl rv)), (mrk, .inl (G.2.2, 38, .inr (.inl rwk))), (mqk, .inl (G.2.1, 38, .inl rvk)), (md, .inl (G.2.1, 38, .inl (fun zz => nI (drw zz)))), (ot, .inl (G.2.2, 1, .inr (.inl ov)))] H locs
theorem q_sld {p : Program} {l : Launch} {e : Env} {R : Room} {s : State} {m : MethodId} {args : Array Value} {below : List Frame} {meth : Method} {c : Code} {H : Heap} {locs : List Loc} {cells slots : Nat} {Q : State → Prop} {cc : ByteArray} {pc : Nat} {ls : Array Slot} {rest : List Value} {nL : Nat} {ret : Option FieldType} {Ts : List Cond} {own : String} {G : vq_G} {A : Nat → Prop} {ws : va_W} (C : vq_C cc nL ret Ts own G A p s m args meth c) (h : vq_H G A s ws H locs) {b L : Nat} {xs : Nat → Int32} (hXs : va_X b L xs s s.heap) (hbl : b < s.heap.size) (hbA : ¬ A b) {v : Int32} {k : Nat} (hv : xs k = v) (hk : k < L) (hL : L ≤ 1536) (hd : decode cc pc = .ok (.iaload, 1))
    (kk : W p l e R s m args below meth c H locs cells slots Q (F0 m (pc + 1) ls (.int v :: rest))) : W p l e R s m args below meth c H locs cells slots Q (F0 m pc ls (.int (nI k) :: .ref b :: rest)) := by
  have e : (nI k).toNatClampNeg = k := nI_clamp (by omega)
  refine va_sld C.1.1 C.1.2.1 hXs hbl hbA h.2.2 (vp_in_nI hk (by omega)) hd ?_
  rw [e, hv]
  exact kk
theorem q_updL0 (f : Nat → Int64) (v : Int64) : (vp_updL f 0 v) 0 = v := by simp [vp_updL]
theorem q_isb_ex {x : Int32} {n : Nat} (hn : n < 2 ^ 31) (h : q_isb x n = true) : ∃ b, b < n ∧ x = nI b := by
  rcases pk_ix x hn with g | g | g
  · simp [q_isb, g] at h
  · simp [q_isb, g] at h
  · exact g
theorem q_wi_ex {x : Int32} {a c : Nat} (hc : c < 2 ^ 30) (ha : a ≤ c) (h : q_wi x (nI a) (nI c) = true) : ∃ b, a ≤ b ∧ b ≤ c ∧ x = nI b := by
  have h2 : ¬ x < nI a ∧ ¬ nI c < x := by simpa [q_wi] using h
  have h0 : ¬ x < 0 := fun g => h2.1 (by
    have e1 := Int32.lt_iff_toInt_lt.mp g
    have e2 : (nI a).toInt = a := nI_toInt (by omega)
    exact Int32.lt_iff_toInt_lt.mpr (by rw [e2]; exact Int.lt_of_lt_of_le e1 (by show (0 : Int) ≤ a; omega)))
  rcases pk_ix x (show c + 1 < 2 ^ 31 by omega) with g | g | ⟨b, hb, rfl⟩
  · exact absurd g h0
  · refine absurd ?_ h2.2
    have e1 := Int32.le_iff_toInt_le.mp g
    rw [nI_toInt (by omega)] at e1
    exact Int32.lt_iff_toInt_lt.mpr (by rw [nI_toInt (by omega)]; omega)
  · refine ⟨b, ?_, by omega, rfl⟩
    rcases Nat.lt_or_ge b a with q | q
    · exact absurd ((nI_ltI (by omega) (by omega)).mpr q) h2.1
    · exact q
theorem q_first (f : Nat → Bool) : ∀ n, (∀ j, j < n → f j = false) ∨ ∃ i, i < n ∧ f i = true ∧ ∀ j, j < i → f j = false
  | 0 => Or.inl (fun j hj => absurd hj (Nat.not_lt_zero _))
  | n + 1 => by
    rcases q_first f n with h | ⟨i, h1, h2, h3⟩
    · cases hf : f n with
      | true => exact Or.inr ⟨n, Nat.lt_succ_self n, hf, h⟩
      | false =>
        refine Or.inl (fun j hj => ?_)
        rcases Nat.lt_or_ge j n with q | q
        · exact h j q
        · rw [show j = n by omega]; exact hf
    · exact Or.inr ⟨i, by omega, h2, h3⟩
theorem q_sum_up (w : Nat → Nat) (k x : Nat) : ∀ n, q_sum (va_up w k x) n + (if k < n then w k else 0) = q_sum w n + (if k < n then x else 0)
  | 0 => by simp [q_sum]
  | n + 1 => by
    have ih := q_sum_up w k x n
    unfold q_sum
    by_cases c1 : k = n
    · subst c1
      simp [va_up] at ih ⊢
      omega
    · have e : va_up w k x n = w n := by simp [va_up, show ¬ n = k from fun g => c1 g.symm]
      by_cases c2 : k < n
      · simp [c2, show k < n + 1 by omega, e] at ih ⊢
        omega
      · simp [c2, show ¬ k < n + 1 by omega, e] at ih ⊢
        omega
theorem q_sum_up12 {w : Nat → Nat} {d x : Nat} (h1 : 1 ≤ d) (h2 : d ≤ 12) (h : q_sum w 12 - w (d - 1) + x ≠ 0) : 0 < q_sum (va_up w (d - 1) x) 12 := by
  have e := q_sum_up w (d - 1) x 12
  rw [if_pos (by omega), if_pos (by omega)] at e
  have := q_sum_w (w := w) (d := d - 1) 12 (by omega)
  omega
theorem q_up_le {w : Nat → Nat} (hW : ∀ j, w j ≤ 1000) {k x : Nat} (hx : x ≤ 1000) : ∀ j, va_up w k x j ≤ 1000 := by
  intro j
  unfold va_up
  by_cases c : j = k
  · rw [if_pos c]; exact hx
  · rw [if_neg c]; exact hW j
theorem q_start_ok {S P : Nat} (hS : S ≤ 32) (hP : P ≤ 6) (msk : Nat → Int64) (po : Nat → Nat) : q_ok S P (q_bgM S msk P, P, ((q_pn (q_bgM S msk P) P 38 (po, (fun _ => (-1)), 0, 0)).1, (q_pn (q_bgM S msk P) P 38 (po, (fun _ => (-1)), 0, 0)).2.1, (q_pn (q_bgM S msk P) P 38 (po, (fun _ => (-1)), 0, 0)).2.2.1, (q_pn (q_bgM S msk P) P 38 (po, (fun _ => (-1)), 0, 0)).2.2.2), (q_bgR S P).1, (q_bgR S P).2.1, (q_bgR S P).2.2) 0 := by
  obtain ⟨_, g2, g3⟩ := q_bg_mg hS hP P (Nat.le_refl P)
  have hM := q_bgM_hM hS msk P hP
  exact ⟨g2, g3, (Nat.zero_add P).symm, Nat.zero_le _, hM, q_pn_pop hM 38 _ (q_pop_0 38).symm⟩
theorem q_and31 (x : Int32) : ∃ k, k < 32 ∧ x &&& nI 31 = nI k := by
  have e : (x &&& nI 31).toBitVec = x.toBitVec &&& (nI 31).toBitVec := Int32.toBitVec_and x (nI 31)
  refine ⟨(x &&& nI 31).toBitVec.toNat, ?_, ?_⟩
  · rw [e, BitVec.toNat_and]
    have : (nI 31).toBitVec.toNat = 31 := by decide
    rw [this]
    exact Nat.lt_of_le_of_lt Nat.and_le_right (by decide)
  · apply Int32.toBitVec_inj.mp
    show _ = BitVec.ofNat 32 _
    rw [BitVec.ofNat_toNat, BitVec.setWidth_eq]
theorem q_room0 {cells slots : Nat} (hc : cells ≤ 5000) (hs : slots ≤ 20000) : cells ≤ room_1.cells ∧ slots ≤ room_1.slots := ⟨Nat.le_trans hc (Nat.le_of_ble_eq_true rfl), Nat.le_trans hs (Nat.le_of_ble_eq_true rfl)⟩
