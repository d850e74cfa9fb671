/-! the entry of the law: what the tables and the narrow premise give -/
theorem q_len_small {args : Array Value} {s : State} {t : Term} {v : Value} (h : (Term.length t).eval args s none [] s = some v) : ∃ a cell, t.eval args s none [] s = some (.ref a) ∧ s.arrayAt? a = some cell ∧ cell.slots.size < 2 ^ 31 ∧ v = .int cell.slots.size.toInt32 := by
  obtain ⟨a, cell, h1, h2, h3⟩ := Term.length_spec h
  refine ⟨a, cell, h1, h2, ?_, h3⟩
  rcases Nat.lt_or_ge cell.slots.size (2 ^ 31) with c | c
  · exact c
  · exfalso
    have c' : ¬ cell.slots.size < 2 ^ 31 := Nat.not_lt.mpr c
    simp only [Term.eval, Option.bind_eq_bind] at h
    simp [h1, h2, c'] at h <;> omega
theorem q_F_of {args : Array Value} {s : State} {cI : ClassId} (hts : ∀ w ∈ lw_tbl, w.before args s = true) (hs : ∀ c ∈ flatC (Jvm.Cond.and given_1 narrow_1), c.before args s = true) (hcI : s.vm.findClass "[I" = some cI) : vq_F cI (fun q : Nat => s.heap.size ≤ q) s s.heap := by
  have hA : ∀ a : Nat, a < s.heap.size → ¬ (fun q : Nat => s.heap.size ≤ q) a := fun a h => Nat.not_le.mpr h
  have hini := hts (.initialized RX4) (by decide +kernel)
  have hl := hts (.laysStatic RX4 "FIRST_WEIGHTS" "[I") (by decide +kernel)
  have hex := hs (.exactly (.static RX4 "FIRST_WEIGHTS" "[I") "[I") (by decide +kernel)
  obtain ⟨a, c0, cell, k, e1, e2, e3, e4, e5, e6, -⟩ := Cond.exactly_spec (args := args) (first := s) (o := none) (s := s) (idx := []) (t := .static RX4 "FIRST_WEIGHTS" "[I") (cls := "[I") hex
  have hlen : (Term.length (.static RX4 "FIRST_WEIGHTS" "[I")).eval args s none [] s = some (.int (Int32.ofNat 12)) := va_eqt (hs _ (by decide +kernel))
  have h9 : ∀ j : Nat, j < 12 → (Term.elem (.static RX4 "FIRST_WEIGHTS" "[I") (.int (Int32.ofNat j))).eval args s none [] s = some (.int (nI (q_w0 j))) := by
    intro j hj
    rcases (show j = 0 ∨ j = 1 ∨ j = 2 ∨ j = 3 ∨ j = 4 ∨ j = 5 ∨ j = 6 ∨ j = 7 ∨ j = 8 ∨ j = 9 ∨ j = 10 ∨ j = 11 by omega) with rfl | rfl | rfl | rfl | rfl | rfl | rfl | rfl | rfl | rfl | rfl | rfl <;> exact va_eqt (hs _ (by decide +kernel))
  obtain ⟨t, ht, cell1, h1, h2, h3, h4, h5, h6, h7⟩ := va_Tof (ty := .int) (N := 12) (f := fun j => .int (nI (q_w0 j))) (A := fun q : Nat => s.heap.size ≤ q) (by decide) (hs (.arrayOf (.static RX4 "FIRST_WEIGHTS" "[I") .int) (by decide +kernel)) hlen h9 hA
  cases e1.symm.trans ht
  cases e3.symm.trans h1
  obtain ⟨a', cell', f1, f2, f3, f4⟩ := q_len_small hlen
  cases e1.symm.trans f1
  cases e3.symm.trans (State.arrayAt?_spec f2).1
  have hsz : cell.slots.size = 12 := by
    have f5 := congrArg Int32.toInt (Value.int.inj f4)
    have f6 : (nI cell.slots.size).toInt = cell.slots.size := nI_toInt f3
    have f7 : (nI 12).toInt = (12 : Nat) := nI_toInt (by decide)
    have f8 : (nI 12).toInt = (nI cell.slots.size).toInt := f5
    rw [f6, f7] at f8
    omega
  refine ⟨va_Nw.of rfl (hts (.castable "[I" "java/lang/Cloneable") (by decide +kernel)), a, cell, va_Zof hl hini e1 hA, e3, ?_, h3, h2.1, ?_, h7⟩
  · rw [e6]
    exact Option.some.inj (e2.symm.trans hcI)
  · apply Array.ext_getElem?
    intro i
    by_cases c : i < 12
    · rw [h6 i c]
      simp [arrV, c]
    · rw [Array.getElem?_eq_none (by omega), Array.getElem?_eq_none (by rw [arrV_size]; omega)]
theorem q_xm1 : ∀ E ∈ vq_xc, Cond.castable E E ∈ lw_tbl := by decide +kernel
theorem q_xm2 : ∀ y ∈ vq_xd, Cond.declares y ∈ lw_tbl := by decide +kernel
theorem q_xm3 : ∀ q ∈ vq_xs, Cond.exactly (.string RX5 q.1) "java/lang/String" ∈ flatC (Jvm.Cond.and given_1 narrow_1) := by decide +kernel
theorem q_xm4 : ∀ q ∈ vq_xs, Cond.stringRef RX5 q.1 q.2 ∈ lw_tbl := by decide +kernel
theorem q_nm1 : ∀ q ∈ vq_nest, Cond.methodLinkNest q.1 q.2.1 q.2.2 RX5 ∈ lw_tbl := by decide +kernel
theorem q_X_of {args : Array Value} {s : State} (hts : ∀ w ∈ lw_tbl, w.before args s = true) (hs : ∀ c ∈ flatC (Jvm.Cond.and given_1 narrow_1), c.before args s = true) : vq_X (fun q : Nat => s.heap.size ≤ q) s s.heap := by
  have hA : ∀ a : Nat, a < s.heap.size → ¬ (fun q : Nat => s.heap.size ≤ q) a := fun a h => Nat.not_le.mpr h
  refine ⟨fun q hq => ?_, ⟨fun E hE => va_Nw.of rfl (hts _ (q_xm1 E hE)), fun y hy => va_Nw.of rfl (hts _ (q_xm2 y hy))⟩, ⟨va_Nc.of (hs (.not (.castable vq_IS vq_IA)) (by decide +kernel)), va_Nc.of (hs (.not (.castable vq_IS vq_IB)) (by decide +kernel))⟩, vx_Zqof (hts _ (by decide +kernel)) (hts _ (by decide +kernel)) (hs _ (by decide +kernel)) hA, vx_Zqof (hts _ (by decide +kernel)) (hts _ (by decide +kernel)) (hs _ (by decide +kernel)) hA⟩
  obtain ⟨a, _, _, _, e1, -⟩ := Cond.exactly_spec (args := args) (first := s) (o := none) (s := s) (idx := []) (t := .string RX5 q.1) (cls := "java/lang/String") (hs _ (q_xm3 q hq))
  exact ⟨a, vk_R.of (A := args) (hts _ (q_xm4 q hq)) e1⟩
theorem q_N_of {args : Array Value} {s : State} (hts : ∀ w ∈ lw_tbl, w.before args s = true) : vq_N s := fun q hq => va_Nw.of (A := args) rfl (hts _ (q_nm1 q hq))
theorem q_uw0 : ∀ w ∈ u_ws RX0 TX0 4, w ∈ lw_tbl := by decide +kernel
theorem q_uw1 : ∀ w ∈ u_ws RX1 TX1 3, w ∈ lw_tbl := by decide +kernel
theorem q_uw2 : ∀ w ∈ u_ws RX2 TX2 6, w ∈ lw_tbl := by decide +kernel
theorem q_uw3 : ∀ w ∈ u_ws RX3 TX3 3, w ∈ lw_tbl := by decide +kernel
theorem q_uw4 : ∀ w ∈ u_ws RX4 TX4 1, w ∈ lw_tbl := by decide +kernel
theorem q_uw5 : ∀ w ∈ u_ws RX5 TX5 5, w ∈ lw_tbl := by decide +kernel
theorem q_K_of {args : Array Value} {s : State} (hts : ∀ w ∈ lw_tbl, w.before args s = true) : ∃ G : vq_G, va_K G.1 vwCl (vq_ty G) s ∧ s.vm.findClass "[I" = some G.2.1 := by
  obtain ⟨c0, i0, h0⟩ := u_known (C := RX0) (T := TX0) (N := 4) (n := 4) hts q_uw0 (hts (.instantiable RX0 4) (by decide +kernel))
  obtain ⟨c1, i1, h1⟩ := u_known (C := RX1) (T := TX1) (N := 3) (n := 3) hts q_uw1 (hts (.instantiable RX1 3) (by decide +kernel))
  obtain ⟨c2, i2, h2⟩ := u_known (C := RX2) (T := TX2) (N := 6) (n := 6) hts q_uw2 (hts (.instantiable RX2 6) (by decide +kernel))
  obtain ⟨c3, i3, h3⟩ := u_known (C := RX3) (T := TX3) (N := 3) (n := 3) hts q_uw3 (hts (.instantiable RX3 3) (by decide +kernel))
  obtain ⟨c4, i4, h4⟩ := u_known (C := RX4) (T := TX4) (N := 1) (n := 1) hts q_uw4 (hts (.instantiable RX4 1) (by decide +kernel))
  obtain ⟨c5, i5, h5⟩ := u_known (C := RX5) (T := TX5) (N := 5) (n := 5) hts q_uw5 (hts (.instantiable RX5 5) (by decide +kernel))
  obtain ⟨cI, kI, pI, a1, a2, a3⟩ := Cond.arrayClass_spec (hts (.arrayClass .int) (by decide +kernel))
  obtain ⟨cJ, kJ, pJ, b1, b2, b3⟩ := Cond.arrayClass_spec (hts (.arrayClass .long) (by decide +kernel))
  refine ⟨((fun k => match k with | 0 => c0 | 1 => c1 | 2 => c2 | 3 => c3 | 4 => c4 | _ => c5, fun k => match k with | 0 => i0 | 1 => i1 | 2 => i2 | 3 => i3 | 4 => i4 | _ => i5), cI, cJ), ⟨?_, ?_⟩, a1⟩
  · intro k q hq
    match k, hq with
    | 0, hq => cases hq; exact h0
    | 1, hq => cases hq; exact h1
    | 2, hq => cases hq; exact h2
    | 3, hq => cases hq; exact h3
    | 4, hq => cases hq; exact h4
    | 5, hq => cases hq; exact h5
    | k + 6, hq => simp [vwCl] at hq
  · intro k q hq
    match k, hq with
    | 0, hq => cases hq; exact ⟨fun N z => ⟨(fun k h => by cases h), kI, a2, pI, a3⟩, a1⟩
    | 1, hq => cases hq; exact ⟨fun N z => ⟨(fun k h => by cases h), kJ, b2, pJ, b3⟩, b1⟩
    | k + 2, hq => simp [vq_ty] at hq
theorem inlX0 : ∀ w ∈ wsX00, w ∈ wsL_law := fun _ h => List.mem_append_left _ (List.mem_append_left _ (List.mem_append_left _ (List.mem_append_left _ (List.mem_append_right _ h))))
theorem inlX1 : ∀ w ∈ wsX10, w ∈ wsL_law := fun _ h => List.mem_append_left _ (List.mem_append_left _ (List.mem_append_left _ (List.mem_append_left _ (List.mem_append_left _ (List.mem_append_right _ h)))))
theorem inlX2 : ∀ w ∈ wsX20, w ∈ wsL_law := fun _ h => List.mem_append_left _ (List.mem_append_left _ (List.mem_append_left _ (List.mem_append_left _ (List.mem_append_left _ (List.mem_append_left _ (List.mem_append_right _ h))))))
theorem inlX3 : ∀ w ∈ wsX30, w ∈ wsL_law := fun _ h => List.mem_append_left _ (List.mem_append_left _ (List.mem_append_left _ (List.mem_append_left _ (List.mem_append_left _ (List.mem_append_left _ (List.mem_append_left _ (List.mem_append_right _ h)))))))
theorem inlX4 : ∀ w ∈ wsX40, w ∈ wsL_law := fun _ h => List.mem_append_left _ (List.mem_append_left _ (List.mem_append_left _ (List.mem_append_left _ (List.mem_append_left _ (List.mem_append_left _ (List.mem_append_left _ (List.mem_append_left _ (List.mem_append_right _ h))))))))
theorem inlX5 : ∀ w ∈ wsX50, w ∈ wsL_law := fun _ h => List.mem_append_left _ (List.mem_append_left _ (List.mem_append_left _ (List.mem_append_left _ (List.mem_append_left _ (List.mem_append_left _ (List.mem_append_left _ (List.mem_append_left _ (List.mem_append_left _ (List.mem_append_right _ h)))))))))
