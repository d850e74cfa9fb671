/-! where nothing is missing, no drop helps -/
theorem q_rko_le (rows : Nat → Int64) : ∀ n, q_rko rows n ≤ n
  | 0 => Nat.le_refl _
  | n + 1 => by
    have ih := q_rko_le rows n
    show q_rko rows n + (if rows n ≠ 0 then 1 else 0) ≤ n + 1
    by_cases c : rows n ≠ 0
    · rw [if_pos c]; omega
    · rw [if_neg c]; omega
theorem q_rko_full {rows : Nat → Int64} : ∀ n, q_rko rows n = n → ∀ k, k < n → rows k ≠ 0
  | 0, _, k, h => absurd h (Nat.not_lt_zero _)
  | n + 1, e, k, h => by
    have hl := q_rko_le rows n
    have e' : q_rko rows n + (if rows n ≠ 0 then 1 else 0) = n + 1 := e
    by_cases c : rows n ≠ 0
    · rw [if_pos c] at e'
      by_cases g : k = n
      · rw [g]; exact c
      · exact q_rko_full n (by omega) k (by omega)
    · rw [if_neg c] at e'
      omega
theorem q_full_rem {B : Nat} {rows : Nat → Int64} {rv : Nat → Int32} (I : q_inv B rows rv) (hB : B ≤ 38) (hr : q_rko rows B = B) {x : Int64} (hx : ∀ t, B ≤ t → tb x t = false) : q_rem rows x 38 = 0 := by
  apply tb_ext
  intro k _
  rw [tb_zero]
  rcases Nat.lt_or_ge k B with a | a
  · exact q_rem_red I x (q_rko_full B hr k a) 38 (by omega)
  · exact q_rem_hi I hx 38 k a
theorem q_full_hlp {B : Nat} {rows : Nat → Int64} {rv : Nat → Int32} (I : q_inv B rows rv) (hB : B ≤ 38) (hr : q_rko rows B = B) {x : Int64} (hx : ∀ t, B ≤ t → tb x t = false) : q_hlp rows x = false := by
  unfold q_hlp
  rw [q_full_rem I hB hr hx]
  rfl
