/-! bitCount as its bytecode has it; the lowest bit; peeling; drops -/
def q_u (x : Int64) (n : Nat) : Int64 := (x.toUInt64 >>> ((nI n).toInt64.toUInt64 &&& Int64.toUInt64 63)).toInt64
def q_bc1 (x : Int64) : Int64 := x - (q_u x 1 &&& 6148914691236517205)
def q_bc2 (x : Int64) : Int64 := (x &&& 3689348814741910323) + (q_u x 2 &&& 3689348814741910323)
def q_bc3 (x : Int64) : Int64 := (x + q_u x 4) &&& 1085102592571150095
def q_bc4 (x : Int64) : Int64 := x + q_u x 8
def q_bc5 (x : Int64) : Int64 := x + q_u x 16
def q_bc6 (x : Int64) : Int64 := x + q_u x 32
def q_bc (x : Int64) : Int32 := (q_bc6 (q_bc5 (q_bc4 (q_bc3 (q_bc2 (q_bc1 x)))))).toInt32 &&& nI 127
theorem q_bc_low0 : q_bc (((0 : Int64) &&& -0) - 1) = nI 64 := by decide +kernel
theorem q_bc_low1 : ∀ k, k < 64 → q_bc (q_bit k - 1) = nI k := by decide +kernel
theorem tb_neg (x : Int64) (j : Nat) : tb (-x) j = (tb x j ^^ (decide (j < 64) && decide (∃ i, i < j ∧ tb x i = true))) := by
  show (-x).toBitVec.getLsbD j = _
  rw [Int64.toBitVec_neg, BitVec.getLsbD_neg]
  rfl
theorem q_lowbit {x : Int64} {k : Nat} (hk : k < 64) (h1 : tb x k = true) (h2 : ∀ j, j < k → tb x j = false) : x &&& -x = q_bit k := by
  apply tb_ext
  intro j hj
  rw [tb_and, tb_neg, tb_bit]
  rcases Nat.lt_trichotomy j k with a | a | a
  · rw [h2 j a]
    have : j ≠ k := by omega
    simp [this]
  · subst a
    have : ¬ ∃ i, i < j ∧ tb x i = true := fun ⟨i, hi, ht⟩ => by rw [h2 i hi] at ht; cases ht
    simp [h1, this, hj]
  · have : ∃ i, i < j ∧ tb x i = true := ⟨k, a, h1⟩
    have n : j ≠ k := by omega
    simp [this, hj, n]
theorem q_bc_low (x : Int64) : q_bc ((x &&& (-x)) - 1) = nI (q_low x) := by
  rcases q_low_spec x with ⟨h1, h2⟩ | ⟨h1, h2, h3⟩
  · rw [h1, h2]
    exact q_bc_low0
  · rw [q_lowbit h1 h2 h3]
    exact q_bc_low1 _ h1
/-- drops: the row after k places, and the generator -/
def q_dr (B : Nat) (row : Nat → Nat) (g : Int64) : Nat → (Nat → Nat) × Int64
  | 0 => (row, g)
  | k + 1 => (va_up (va_up (q_dr B row g k).1 k ((q_dr B row g k).1 (k + q_hi (q_step (q_dr B row g k).2) % (B - k)))) (k + q_hi (q_step (q_dr B row g k).2) % (B - k)) ((q_dr B row g k).1 k), q_step (q_dr B row g k).2)
def q_ds (B : Nat) (row : Nat → Nat) (g : Int64) : Nat → Int64
  | 0 => 0
  | k + 1 => q_ds B row g k ||| q_bit ((q_dr B row g (k + 1)).1 k)
def q_g0 (num : Int32) : Int64 := q_step num.toInt64
noncomputable def q_sz (w : Nat → Nat) (B : Nat) (num : Int32) : Nat := min (q_deg w (q_hi (q_g0 num) % q_sum w 12)) B
theorem q_swap_lt {B : Nat} {ro : Nat → Nat} (h : ∀ j, j < B → ro j < B) {i j : Nat} (hi : i < B) (hj : j < B) : ∀ t, t < B → va_up (va_up ro i (ro j)) j (ro i) t < B := by
  intro t ht
  unfold va_up
  by_cases a : t = j
  · simp [a, h i hi]
  · by_cases b : t = i
    · simp [a, b, h j hj]
      by_cases c : i = j <;> simp [c, h j hj]
    · simp [a, b, h t ht]
theorem q_line_lt {B : Nat} (row : Nat → Nat) : ∀ j, j < B → q_line row B j < B := fun j hj => by simp [q_line, hj]
theorem q_dr_irr {B : Nat} {r1 r2 : Nat → Nat} (h : ∀ j, j < B → r1 j = r2 j) (g : Int64) : ∀ k, k ≤ B → (∀ j, j < B → (q_dr B r1 g k).1 j = (q_dr B r2 g k).1 j) ∧ (q_dr B r1 g k).2 = (q_dr B r2 g k).2
  | 0, _ => ⟨h, rfl⟩
  | k + 1, hk => by
    obtain ⟨h1, h2⟩ := q_dr_irr h g k (by omega)
    have hq : q_hi (q_step (q_dr B r2 g k).2) % (B - k) < B - k := Nat.mod_lt _ (by omega)
    refine ⟨fun j hj => ?_, ?_⟩
    · show va_up (va_up (q_dr B r1 g k).1 k _) _ _ j = va_up (va_up (q_dr B r2 g k).1 k _) _ _ j
      rw [h2, h1 _ (show k + q_hi (q_step (q_dr B r2 g k).2) % (B - k) < B by omega), h1 k (by omega)]
      unfold va_up
      rw [h1 j hj]
    · show q_step (q_dr B r1 g k).2 = q_step (q_dr B r2 g k).2
      rw [h2]
theorem q_ds_irr {B : Nat} {r1 r2 : Nat → Nat} (h : ∀ j, j < B → r1 j = r2 j) (g : Int64) : ∀ k, k ≤ B → q_ds B r1 g k = q_ds B r2 g k
  | 0, _ => rfl
  | k + 1, hk => by
    show q_ds B r1 g k ||| q_bit ((q_dr B r1 g (k + 1)).1 k) = q_ds B r2 g k ||| q_bit ((q_dr B r2 g (k + 1)).1 k)
    rw [q_ds_irr h g k (by omega), (q_dr_irr h g (k + 1) hk).1 k (by omega)]
theorem q_sz_le (w : Nat → Nat) (B : Nat) (num : Int32) : q_sz w B num ≤ B := Nat.min_le_right _ _
/-- a drop's blocks, as a set; and in their order -/
noncomputable def q_set (w : Nat → Nat) (B : Nat) (num : Int32) : Int64 := q_ds B (fun j => j) (q_g0 num) (q_sz w B num)
noncomputable def q_blk (w : Nat → Nat) (B : Nat) (num : Int32) : Nat → Nat := (q_dr B (fun j => j) (q_g0 num) (q_sz w B num)).1
noncomputable def q_rowS (row : Nat → Nat) (w : Nat → Nat) (B : Nat) (num : Int32) : Nat → Nat := (q_dr B (q_line row B) (q_g0 num) (q_sz w B num)).1
theorem q_line_id {B : Nat} (row : Nat → Nat) : ∀ j, j < B → q_line row B j = j := fun j hj => by simp [q_line, hj]
theorem q_rowS_at (row : Nat → Nat) (w : Nat → Nat) (B : Nat) (num : Int32) {i : Nat} (hi : i < B) : q_rowS row w B num i = q_blk w B num i := (q_dr_irr (q_line_id row) (q_g0 num) _ (q_sz_le w B num)).1 i hi
theorem q_set_S (row : Nat → Nat) (w : Nat → Nat) (B : Nat) (num : Int32) : q_ds B (q_line row B) (q_g0 num) (q_sz w B num) = q_set w B num := q_ds_irr (q_line_id row) (q_g0 num) _ (q_sz_le w B num)
noncomputable def q_gen (w : Nat → Nat) (B : Nat) (num : Int32) : Int64 := (q_dr B (fun j => j) (q_g0 num) (q_sz w B num)).2
theorem q_gen_S (row : Nat → Nat) (w : Nat → Nat) (B : Nat) (num : Int32) : (q_dr B (q_line row B) (q_g0 num) (q_sz w B num)).2 = q_gen w B num := (q_dr_irr (q_line_id row) (q_g0 num) _ (q_sz_le w B num)).2
/-! peeling -/
def q_lf (msk : Nat → Int64) (ps : Int64) (i : Nat) : Int64 := msk i &&& (ps ^^^ (-1))
def q_rd (msk : Nat → Int64) (ps : Int64) (i : Nat) : Bool := decide (q_bc (q_lf msk ps i) = nI 1)
def q_fr (p : Nat → Bool) (n : Nat) : Option Nat := (List.range n).find? p
theorem q_fr_none {p : Nat → Bool} {n : Nat} (h : q_fr p n = none) : ∀ j, j < n → p j = false := by
  intro j hj
  have := List.find?_eq_none.mp h j (List.mem_range.mpr hj)
  simpa using this
theorem q_fr_some {p : Nat → Bool} {n i : Nat} (h : q_fr p n = some i) : i < n ∧ p i = true ∧ ∀ j, j < i → p j = false := by
  unfold q_fr at h
  rw [List.find?_range_eq_some] at h
  obtain ⟨h1, h2, h3⟩ := h
  exact ⟨List.mem_range.mp h2, h1, fun j hj => by simpa using h3 j hj⟩
abbrev q_PS : Type := (Nat → Nat) × (Nat → Int32) × Nat × Int64
noncomputable def q_ps1 (msk : Nat → Int64) (i : Nat) (s : q_PS) : q_PS := (va_up s.1 s.2.2.1 (q_low (q_lf msk s.2.2.2 i)), upd s.2.1 (q_low (q_lf msk s.2.2.2 i)) (nI i), s.2.2.1 + 1, s.2.2.2 ||| q_bit (q_low (q_lf msk s.2.2.2 i)))
noncomputable def q_pn (msk : Nat → Int64) (nn : Nat) : Nat → q_PS → q_PS
  | 0, s => s
  | f + 1, s => match q_fr (q_rd msk s.2.2.2) nn with
    | none => s
    | some i => q_pn msk nn f (q_ps1 msk i s)
def q_pop (x : Int64) : Nat → Nat
  | 0 => 0
  | k + 1 => if tb x k then q_pop x k + 1 else q_pop x k
theorem q_pop_le (x : Int64) : ∀ n, q_pop x n ≤ n
  | 0 => Nat.le_refl _
  | n + 1 => by
    have := q_pop_le x n
    unfold q_pop
    by_cases h : tb x n = true <;> simp [h] <;> omega
theorem q_pop_lt {x : Int64} {k : Nat} (hx : tb x k = false) : ∀ n, k < n → q_pop x n < n
  | 0, h => absurd h (Nat.not_lt_zero _)
  | n + 1, h => by
    have := q_pop_le x n
    unfold q_pop
    by_cases e : k = n
    · subst e
      simp [hx]
      omega
    · have := q_pop_lt hx n (by omega)
      by_cases h : tb x n = true <;> simp [h] <;> omega
theorem q_pop_same {x y : Int64} : ∀ n, (∀ j, j < n → tb x j = tb y j) → q_pop x n = q_pop y n
  | 0, _ => rfl
  | n + 1, h => by
    unfold q_pop
    rw [h n (Nat.lt_succ_self _), q_pop_same n (fun j hj => h j (by omega))]
theorem q_pop_set {x : Int64} {k : Nat} (hk : k < 64) (hx : tb x k = false) : ∀ n, k < n → q_pop (x ||| q_bit k) n = q_pop x n + 1
  | 0, h => absurd h (Nat.not_lt_zero _)
  | n + 1, h => by
    unfold q_pop
    rw [tb_or, tb_bit]
    by_cases e : n = k
    · subst e
      have := q_pop_same (x := x ||| q_bit n) (y := x) n (fun j hj => by rw [tb_or, tb_bit]; have : j ≠ n := (by omega); simp [this])
      simp [hx, hk, this]
    · have := q_pop_set hk hx n (by omega)
      by_cases h : tb x n = true <;> simp [h, e, this]
theorem q_bc0 : ¬ q_bc 0 = nI 1 := by decide +kernel
theorem q_ready {msk : Nat → Int64} {nn i : Nat} {ps : Int64} (hM : ∀ i, i < nn → ∀ k, 38 ≤ k → tb (msk i) k = false) (hi : i < nn) (h1 : q_rd msk ps i = true) : q_low (q_lf msk ps i) < 38 ∧ tb ps (q_low (q_lf msk ps i)) = false := by
  have h1 := of_decide_eq_true h1
  rcases q_low_spec (q_lf msk ps i) with ⟨a, b⟩ | ⟨a, b, c⟩
  · rw [b] at h1
    exact absurd h1 q_bc0
  · have e : tb (q_lf msk ps i) (q_low (q_lf msk ps i)) = (tb (msk i) (q_low (q_lf msk ps i)) && (tb ps (q_low (q_lf msk ps i)) ^^ tb (-1) (q_low (q_lf msk ps i)))) := by
      show tb (msk i &&& (ps ^^^ (-1))) _ = _
      rw [tb_and, tb_xor]
    have m1 : ∀ k, k < 64 → tb (-1) k = true := by decide +kernel
    rw [b, m1 _ a] at e
    refine ⟨Nat.lt_of_not_le fun g => ?_, ?_⟩
    · rw [hM i hi _ g] at e
      simp at e
    · cases z : tb ps (q_low (q_lf msk ps i)) with
      | false => rfl
      | true => rw [z] at e; simp at e
theorem q_nI_m1 {i : Nat} (h : i < 2 ^ 31) : ¬ nI i = -1 := fun e => nI_pos h (by rw [e]; decide)
theorem q_deg_ex {w : Nat → Nat} {r : Nat} : ∀ n, r < q_sum w n → ∃ d, d ≤ n ∧ r < q_sum w d ∧ ∀ j, j < d → q_sum w j ≤ r
  | 0, h => absurd h (Nat.not_lt_zero _)
  | n + 1, h => by
    rcases Nat.lt_or_ge r (q_sum w n) with a | a
    · obtain ⟨d, h1, h2⟩ := q_deg_ex n a
      exact ⟨d, by omega, h2⟩
    · have mono : ∀ i j, i ≤ j → q_sum w i ≤ q_sum w j := by
        intro i j hij
        induction hij with
        | refl => exact Nat.le_refl _
        | step _ ih => exact Nat.le_trans ih (Nat.le_add_right _ _)
      exact ⟨n + 1, Nat.le_refl _, h, fun j hj => Nat.le_trans (mono j n (by omega)) a⟩
theorem q_deg_le12 {w : Nat → Nat} (_hW : ∀ j, w j ≤ 1000) (hs : 0 < q_sum w 12) (x : Nat) : q_deg w (x % q_sum w 12) ≤ 12 := by
  obtain ⟨d, h1, h2, h3⟩ := q_deg_ex 12 (Nat.mod_lt x hs)
  rw [q_deg_eq h2 h3]
  exact h1
