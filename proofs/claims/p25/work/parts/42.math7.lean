/-! small facts for the law's helpers -/
theorem r_isb_ge {n m : Nat} (h : n ≤ m) (hm : m < 2 ^ 31) : q_isb (nI m) n = false := by
  unfold q_isb
  rw [decide_eq_true ((nI_leI (by omega) hm).mpr h)]
  exact Bool.and_false _
theorem r_isb_m1 (n : Nat) : q_isb (-1) n = false := by
  unfold q_isb
  rw [show decide ((-1 : Int32) < 0) = true by decide]
  rfl
/-- the receiver as one number -/
def r_nw (vals : Nat → Int32) (S nn rk pk : Nat) (pb : Nat → Int32) (rows : Nat → Int64) (rv : Nat → Int32) : Nat → Int64
  | 0 => 31 * (31 * (lN nn) + (lN rk)) + (lN pk)
  | k + 1 => 31 * (31 * (31 * r_nw vals S nn rk pk pb rows rv k + (pb k).toInt64) + (q_bl (decide (q_bit k ^^^ rows k = 0)))) + (if q_bit k ^^^ rows k = 0 then (q_kv rv (q_bit k) 38).toInt64 else (-9000000000000000003)) + (q_vb vals S k).toInt64
theorem r_nw_y {vals : Nat → Int32} {S nn rk pk : Nat} {pb : Nat → Int32} {rows : Nat → Int64} {rv : Nat → Int32} {k : Nat} (hd : q_bit k ^^^ rows k = 0) : r_nw vals S nn rk pk pb rows rv (k + 1) = 31 * (31 * (31 * r_nw vals S nn rk pk pb rows rv k + (pb k).toInt64) + (q_bl (decide (q_bit k ^^^ rows k = 0)))) + (q_kv rv (q_bit k) 38).toInt64 + (q_vb vals S k).toInt64 := by
  rw [r_nw, if_pos hd]
theorem r_nw_n {vals : Nat → Int32} {S nn rk pk : Nat} {pb : Nat → Int32} {rows : Nat → Int64} {rv : Nat → Int32} {k : Nat} (hd : ¬ q_bit k ^^^ rows k = 0) : r_nw vals S nn rk pk pb rows rv (k + 1) = 31 * (31 * (31 * r_nw vals S nn rk pk pb rows rv k + (pb k).toInt64) + (q_bl (decide (q_bit k ^^^ rows k = 0)))) + (-9000000000000000003) + (q_vb vals S k).toInt64 := by
  rw [r_nw, if_neg hd]
theorem r_pb {nn : Nat} {rows : Nat → Int64} {po : Nat → Nat} {pb : Nat → Int32} {pk : Nat} {ps : Int64} (h : r_pl nn rows (po, pb, pk, ps)) (k : Nat) : (∃ e, e < nn ∧ pb k = nI e ∧ tb ps k = true) ∨ (pb k = -1 ∧ tb ps k = false) := by
  cases g : tb ps k with
  | true =>
    obtain ⟨e, h1, h2⟩ := h.2.2.2.2.1 k g
    exact Or.inl ⟨e, h1, h2, rfl⟩
  | false => exact Or.inr ⟨h.2.2.2.2.2 k g, rfl⟩
theorem r_tru_at {g : Nat → Int32} {rows : Nat → Int64} {rv : Nat → Int32} (T : r_tru g rows rv) {k : Nat} (hd : q_bit k ^^^ rows k = 0) (hk : k < 38) : q_kv rv (q_bit k) 38 = g k := by
  have e := T k
  rw [(q_bitx rows k).mp hd, q_kv_bit g (by omega) hk] at e
  rw [q_kv_bit rv (by omega) hk, e]
theorem r_cnt_n (rows : Nat → Int64) (x : Int64) : ∀ n, q_cnt rows x n ≤ n
  | 0 => Nat.le_refl _
  | n + 1 => by
    have ih := r_cnt_n rows x n
    unfold q_cnt
    by_cases c : q_bit n ^^^ rows n = x
    · rw [if_pos c]; omega
    · rw [if_neg c]; omega
theorem r_wd0 {rows : Nat → Int64} {x : Int64} {B : Nat} (h : q_hlp rows x = false) : q_wd rows x B = 0 := by
  unfold q_wd
  have := of_decide_eq_false h
  by_cases z : q_rem rows x 38 = 0
  · rw [if_pos z]
  · exact absurd z this
theorem r_wd_le (rows : Nat → Int64) (x : Int64) (B : Nat) : q_wd rows x B ≤ B := by
  unfold q_wd
  by_cases z : q_rem rows x 38 = 0
  · rw [if_pos z]; omega
  · rw [if_neg z]; exact r_cnt_n _ _ _
theorem r_lneg {n : Nat} (h : n < 2 ^ 31) : ¬ lN n ≤ -1 := by
  rw [Int64.le_iff_toInt_le, lN_toInt h]
  have : (-1 : Int64).toInt = -1 := by decide
  omega
