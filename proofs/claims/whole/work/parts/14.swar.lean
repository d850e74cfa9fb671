/-! bitCount answers 1 for one bit alone -/
theorem q_bc_one (x : Int64) : q_bc x = nI 1 ↔ (x ≠ 0 ∧ x &&& (x - 1) = 0) := sorry
theorem q_one_bit {x : Int64} (hx : x ≠ 0) (h : x &&& (x - 1) = 0) : x = q_bit (q_low x) := sorry
theorem q_rd_t {msk : Nat → Int64} {ps : Int64} {i : Nat} (h1 : q_lf msk ps i ≠ 0) (h2 : q_lf msk ps i &&& (q_lf msk ps i - 1) = 0) : q_rd msk ps i = true := decide_eq_true ((q_bc_one _).mpr ⟨h1, h2⟩)
theorem q_rd_f0 {msk : Nat → Int64} {ps : Int64} {i : Nat} (h1 : q_lf msk ps i = 0) : q_rd msk ps i = false := decide_eq_false (fun h => ((q_bc_one _).mp h).1 h1)
theorem q_rd_f1 {msk : Nat → Int64} {ps : Int64} {i : Nat} (h2 : q_lf msk ps i &&& (q_lf msk ps i - 1) ≠ 0) : q_rd msk ps i = false := decide_eq_false (fun h => h2 ((q_bc_one _).mp h).2)
