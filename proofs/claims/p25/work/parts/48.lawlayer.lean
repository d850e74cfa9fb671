/-! the layer of the law: its state, what its cases want -/
/-- the state at the loop's head -/
def r_LI (G : vq_G) (A : Nat → Prop) (s : State) (o0 wh al sh av ph ae ao ab eh ar aw dh ad : Nat) (tr : Bool) (P : Nat) (H : Heap) (locs : List Loc) : Prop := ∃ (w : Nat → Nat) (vals : Nat → Int32) (S : Nat) (nn : Nat) (pk : Nat) (ps : Int64) (msk : Nat → Int64) (po : Nat → Nat) (pb : Nat → Int32) (rk : Nat) (rows : Nat → Int64) (rv : Nat → Int32) (gen : Int64) (sz : Nat) (bs : Int64) (row : Nat → Nat) (dr : Nat), (∀ j, w j ≤ 1000) ∧ 0 < q_sum w 12 ∧ 1 ≤ S ∧ S ≤ 32 ∧ P ≤ 6 ∧ r_st S P (msk, nn, (po, pb, pk, ps), rows, rv, rk) dr ∧ (tr = true → r_tru (q_vb vals S) rows rv) ∧ vq_H G A s [(o0, .inr (5, [.ref wh, .ref sh, .ref ph, .ref eh, .ref dh])), (wh, .inr (4, [.ref al])), (al, .inl (G.2.1, 12, .inl (fun zz => nI (w zz)))), (sh, .inr (3, [.ref av, .int (nI S), .int (nI P)])), (av, .inl (G.2.1, 32, .inl vals)), (ph, .inr (2, [.ref ae, .int (nI nn), .ref ao, .ref ab, .int (nI pk), .long ps])), (ae, .inl (G.2.2, 126, .inr (.inl msk))), (ao, .inl (G.2.1, 38, .inl (fun zz => nI (po zz)))), (ab, .inl (G.2.1, 38, .inl pb)), (eh, .inr (1, [.ref ar, .ref aw, .int (nI rk)])), (ar, .inl (G.2.2, 38, .inr (.inl rows))), (aw, .inl (G.2.1, 38, .inl rv)), (dh, .inr (0, [.ref ad, .long gen, .int (nI sz), .long bs])), (ad, .inl (G.2.1, 38, .inl (fun zz => nI (row zz))))] H locs
theorem q_sum_up (w : Nat → Nat) (k x : Nat) : ∀ n, q_sum (va_up w k x) n + (if k < n then w k else 0) = q_sum w n + (if k < n then x else 0)
  | 0 => by simp [q_sum]
  | n + 1 => by
    have ih := q_sum_up w k x n
    unfold q_sum
    by_cases c1 : k = n
    · subst c1
      simp [va_up] at ih ⊢
      omega
    · have e : va_up w k x n = w n := by simp [va_up, show ¬ n = k from fun g => c1 g.symm]
      by_cases c2 : k < n
      · simp [c2, show k < n + 1 by omega, e] at ih ⊢
        omega
      · simp [c2, show ¬ k < n + 1 by omega, e] at ih ⊢
        omega
theorem q_sum_up12 {w : Nat → Nat} {d x : Nat} (h1 : 1 ≤ d) (h2 : d ≤ 12) (h : q_sum w 12 - w (d - 1) + x ≠ 0) : 0 < q_sum (va_up w (d - 1) x) 12 := by
  have e := q_sum_up w (d - 1) x 12
  rw [if_pos (by omega), if_pos (by omega)] at e
  have := q_sum_w (w := w) (d := d - 1) 12 (by omega)
  omega
theorem q_up_le {w : Nat → Nat} (hW : ∀ j, w j ≤ 1000) {k x : Nat} (hx : x ≤ 1000) : ∀ j, va_up w k x j ≤ 1000 := by
  intro j
  unfold va_up
  by_cases c : j = k
  · rw [if_pos c]; exact hx
  · rw [if_neg c]; exact hW j
theorem r_up_at (w : Nat → Nat) (k x : Nat) : va_up w k x k = x := by simp [va_up]
theorem q_first (f : Nat → Bool) : ∀ n, (∀ j, j < n → f j = false) ∨ ∃ i, i < n ∧ f i = true ∧ ∀ j, j < i → f j = false
  | 0 => Or.inl (fun j hj => absurd hj (Nat.not_lt_zero _))
  | n + 1 => by
    rcases q_first f n with h | ⟨i, h1, h2, h3⟩
    · cases hf : f n with
      | true => exact Or.inr ⟨n, Nat.lt_succ_self n, hf, h⟩
      | false =>
        refine Or.inl (fun j hj => ?_)
        rcases Nat.lt_or_ge j n with q | q
        · exact h j q
        · rw [show j = n by omega]; exact hf
    · exact Or.inr ⟨i, by omega, h2, h3⟩
theorem r_nh (n : Nat) (f : Nat → Bool) : n = 0 ∨ (n ≠ 0 ∧ ∀ j, j < 500 → f j = false) ∨ (n ≠ 0 ∧ ∃ i, i < 500 ∧ f i = true ∧ ∀ j, j < i → f j = false) := by
  by_cases h : n = 0
  · exact Or.inl h
  · rcases q_first f 500 with g | g
    · exact Or.inr (Or.inl ⟨h, g⟩)
    · exact Or.inr (Or.inr ⟨h, g⟩)
theorem r_nim1 {k : Nat} (h : k < 2 ^ 31) : nI k ≠ -1 := by
  intro g
  have e := nI_toInt h
  rw [g, show ((-1 : Int32)).toInt = -1 by decide] at e
  omega
theorem r_vb_at (vals : Nat → Int32) {S b : Nat} (hS : S ≤ 32) (hb : b < S) : q_vb vals S b = vals b := by
  unfold q_vb
  rw [if_pos hb, q_kv_bit vals (by omega) hb]
theorem r_vb_upd (vals : Nat → Int32) {S b : Nat} (hS : S ≤ 32) (hb : b < S) (v : Int32) : q_vb (upd vals b v) S b = v := by
  rw [r_vb_at _ hS hb]
  unfold upd
  exact if_pos rfl
theorem r_upd_ne (vals : Nat → Int32) {b j : Nat} (h : j ≠ b) (v : Int32) : upd vals b v j = vals j := by
  unfold upd
  exact if_neg h
theorem r_upd_same {vals : Nat → Int32} {b : Nat} {v : Int32} (h : vals b = v) : upd vals b v = vals := by
  funext j
  unfold upd
  by_cases c : j = b
  · rw [if_pos c, c, h]
  · rw [if_neg c]
theorem r_rko_0 {rows : Nat → Int64} : ∀ n, q_rko rows n = 0 → ∀ k, k < n → rows k = 0
  | 0, _, k, hk => absurd hk (Nat.not_lt_zero _)
  | n + 1, h, k, hk => by
    rw [show q_rko rows (n + 1) = q_rko rows n + (if rows n ≠ 0 then 1 else 0) from rfl] at h
    by_cases c : rows n = 0
    · rcases Nat.lt_or_ge k n with q | q
      · exact r_rko_0 n (by omega) k q
      · rw [show k = n by omega]; exact c
    · rw [if_pos c] at h
      omega
/-- no equation: any values are true -/
theorem r_tru_e {S P : Nat} {s : q_ST} {dr : Nat} (h : r_st S P s dr) (h0 : s.2.1 = 0) (g : Nat → Int32) : r_tru g s.2.2.2.1 s.2.2.2.2.1 := by
  have I := h.1.1
  have hk : q_rko s.2.2.2.1 (S + P) = 0 := by
    have e := h.1.2.1
    have e2 := h.2.2.2
    omega
  intro j
  have z : s.2.2.2.1 j = 0 := by
    rcases Nat.lt_or_ge j (S + P) with q | q
    · exact r_rko_0 _ hk j q
    · exact q_inv_ge I q
  rw [z, q_kv_0, I.2.2 j z]
  rfl
theorem r_tru_same {vals : Nat → Int32} {S b : Nat} (hS : S ≤ 32) (hb : b < S) {y : Nat} (hy : y < 2 ^ 31) (h : (q_vb vals S b).toInt64 = lN y) {rows : Nat → Int64} {rv : Nat → Int32} (T : r_tru (q_vb vals S) rows rv) : r_tru (q_vb (upd vals b (nI y)) S) rows rv := by
  rw [← nI_l hy] at h
  rw [r_upd_same ((r_vb_at vals hS hb).symm.trans (r_leq.mp h))]
  exact T
theorem q_room0 {cells slots : Nat} (hc : cells ≤ 50000) (hs : slots ≤ 400000) : cells ≤ room_1.cells ∧ slots ≤ room_1.slots := ⟨Nat.le_trans hc (Nat.le_of_ble_eq_true rfl), Nat.le_trans hs (Nat.le_of_ble_eq_true rfl)⟩
theorem r_k24 : Cond.constantLong RL 24 (-9000000000000000003) ∈ wsL_law := by decide +kernel
theorem r_k31 : Cond.constantLong RL 31 (-9000000000000000001) ∈ wsL_law := by decide +kernel
theorem r_h0 {w : Nat → Nat} {B y : Nat} {rows : Nat → Int64} {c : Bool} (h : q_hlp rows (q_set w B (nI y + nI 0)) = c) : q_hlp rows (q_set w B (nI y)) = c := by
  rw [nI_add] at h
  exact h
theorem r_hk {w : Nat → Nat} {B y k : Nat} {rows : Nat → Int64} {c : Bool} (h : q_hlp rows (q_set w B (nI y + nI k)) = c) : q_hlp rows (q_set w B (nI (y + k))) = c := by
  rw [nI_add] at h
  exact h
theorem r_hm {w : Nat → Nat} {B y k : Nat} {rows : Nat → Int64} {c : Bool} (hk : 1 ≤ k) (h : q_hlp rows (q_set w B (nI y + nI (k - 1))) = c) : q_hlp rows (q_set w B (nI (y + k - 1))) = c := by
  rw [nI_add, show y + (k - 1) = y + k - 1 by omega] at h
  exact h
