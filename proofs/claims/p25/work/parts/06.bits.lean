/-! bits of a long; sums of weights; the generator -/
def tb (x : Int64) (k : Nat) : Bool := x.toBitVec.getLsbD k
def q_bit (k : Nat) : Int64 := Int64.ofBitVec (1#64 <<< k)
theorem tb_ge {x : Int64} {k : Nat} (h : 64 ≤ k) : tb x k = false := BitVec.getLsbD_of_ge x.toBitVec k h
theorem tb_ext {x y : Int64} (h : ∀ k, k < 64 → tb x k = tb y k) : x = y := Int64.toBitVec_inj.mp (BitVec.eq_of_getLsbD_eq (fun i hi => h i hi))
theorem tb_xor (x y : Int64) (k : Nat) : tb (x ^^^ y) k = (tb x k ^^ tb y k) := by simp [tb]
theorem tb_and (x y : Int64) (k : Nat) : tb (x &&& y) k = (tb x k && tb y k) := by simp [tb]
theorem tb_or (x y : Int64) (k : Nat) : tb (x ||| y) k = (tb x k || tb y k) := by simp [tb]
theorem tb_zero (k : Nat) : tb 0 k = false := by simp [tb]
theorem tb_one (k : Nat) : tb 1 k = decide (k = 0) := by
  show (1#64).getLsbD k = _
  by_cases h : k = 0 <;> simp [h]
theorem tb_bit (k j : Nat) : tb (q_bit k) j = (decide (j < 64) && decide (j = k)) := by
  show (1#64 <<< k).getLsbD j = _
  rw [BitVec.getLsbD_shiftLeft]
  by_cases h1 : j < 64
  · by_cases h2 : j < k
    · have : j ≠ k := by omega
      simp [h2, this]
    · by_cases h3 : j = k
      · subst h3; simp [h1]
      · have : j - k ≠ 0 := by omega
        simp [h1, h2, h3, this]
  · simp [h1]
theorem q_shl : ∀ k, k < 64 → (1 : Int64) <<< ((nI k).toInt64 &&& 63) = q_bit k := by decide +kernel
theorem q_smod : ∀ k, k < 64 → (((nI k).toInt64 &&& 63).toBitVec.smod 64).toNat = k := by decide +kernel
theorem q_shr1 (x : Int64) {k : Nat} (hk : k < 64) : (x >>> ((nI k).toInt64 &&& 63)) &&& 1 = if tb x k then 1 else 0 := by
  apply tb_ext
  intro j hj
  rw [tb_and, tb_one]
  by_cases h : j = 0
  · subst h
    have e : tb (x >>> ((nI k).toInt64 &&& 63)) 0 = tb x k := by
      show (x >>> ((nI k).toInt64 &&& 63)).toBitVec.getLsbD 0 = _
      rw [Int64.toBitVec_shiftRight, BitVec.getLsbD_sshiftRight', q_smod k hk]
      simp [hk, tb]
    rw [e]
    cases hx : tb x k <;> simp [tb_zero, tb_one]
  · cases hx : tb x k <;> simp [tb_zero, tb_one, h]
theorem q_and0 {x : Int64} {k : Nat} (hk : k < 64) (h : x &&& q_bit k = 0) : tb x k = false := by
  have e : tb (x &&& q_bit k) k = tb 0 k := by rw [h]
  rw [tb_and, tb_bit, tb_zero] at e
  simpa [hk] using e
theorem q_and1 {x : Int64} {k : Nat} (h : x &&& q_bit k ≠ 0) : tb x k = true := by
  cases hx : tb x k with
  | true => rfl
  | false =>
    refine absurd (tb_ext (fun j hj => ?_)) h
    rw [tb_and, tb_bit, tb_zero]
    by_cases e : j = k
    · subst e; simp [hx]
    · simp [e]
theorem q_test (x : Int64) {k : Nat} (hk : k < 64) : ((x >>> ((nI k).toInt64 &&& 63)) &&& 1 = 1 ↔ tb x k = true) ∧ ((x >>> ((nI k).toInt64 &&& 63)) &&& 1 = 0 ↔ tb x k = false) := by
  rw [q_shr1 x hk]
  cases tb x k <;> decide
def q_sum (w : Nat → Nat) : Nat → Nat
  | 0 => 0
  | k + 1 => q_sum w k + w k
theorem q_sum_le {w : Nat → Nat} (hW : ∀ j, w j ≤ 1000) : ∀ k, q_sum w k ≤ 1000 * k
  | 0 => Nat.le_refl _
  | k + 1 => by
    have := q_sum_le hW k
    have := hW k
    show q_sum w k + w k ≤ _
    omega
/-- the smallest d whose first d weights add up to more than r -/
noncomputable def q_deg (w : Nat → Nat) (r : Nat) : Nat := Classical.epsilon (fun d => r < q_sum w d ∧ ∀ j, j < d → q_sum w j ≤ r)
theorem q_deg_eq {w : Nat → Nat} {r d : Nat} (h1 : r < q_sum w d) (h2 : ∀ j, j < d → q_sum w j ≤ r) : q_deg w r = d := by
  have h := Classical.epsilon_spec (p := fun d => r < q_sum w d ∧ ∀ j, j < d → q_sum w j ≤ r) ⟨d, h1, h2⟩
  rcases Nat.lt_trichotomy (q_deg w r) d with a | a | a
  · exact absurd h.1 (Nat.not_lt.mpr (h2 _ a))
  · exact a
  · exact absurd h1 (Nat.not_lt.mpr (h.2 _ a))
def q_step (g : Int64) : Int64 := g * 6364136223846793005 + 1442695040888963407
def q_hi (x : Int64) : Nat := x.toBitVec.toNat / 2 ^ 33
theorem q_hi_lt (x : Int64) : q_hi x < 2 ^ 31 := by
  have := x.toBitVec.isLt
  unfold q_hi
  omega
theorem q_ushr33 (x : Int64) : (x.toUInt64 >>> ((nI 33).toInt64.toUInt64 &&& Int64.toUInt64 63)).toInt64 = lN (q_hi x) := by
  apply Int64.toBitVec_inj.mp
  apply BitVec.eq_of_toNat_eq
  have e : ((nI 33).toInt64.toUInt64 &&& Int64.toUInt64 63) = 33 := by decide
  rw [e]
  have h := q_hi_lt x
  show (x.toUInt64 >>> 33).toBitVec.toNat = (BitVec.ofNat 64 (q_hi x)).toNat
  rw [BitVec.toNat_ofNat, Nat.mod_eq_of_lt (by omega)]
  show (x.toBitVec >>> (33#64 % 64#64)).toNat = _
  rw [show (33#64 % 64#64) = 33#64 from by decide]
  show (x.toBitVec >>> (33 : Nat)).toNat = _
  rw [BitVec.toNat_ushiftRight, Nat.shiftRight_eq_div_pow]
  rfl
theorem q_lN0 {n : Nat} (h0 : 0 < n) (h : n < 2 ^ 31) : ¬ lN n = 0 := fun e => by
  have := (lN_eq h (b := 0) (by decide)).mp e
  omega
/-! what the elimination's rows do -/
def q_rem (rows : Nat → Int64) (mask : Int64) : Nat → Int64
  | 0 => mask
  | k + 1 => if tb mask k then q_rem rows mask k ^^^ rows k else q_rem rows mask k
def q_kv (rv : Nat → Int32) (mask : Int64) : Nat → Int32
  | 0 => 0
  | k + 1 => if tb mask k then q_kv rv mask k ^^^ rv k else q_kv rv mask k
def q_cnt (rows : Nat → Int64) (r : Int64) : Nat → Nat
  | 0 => 0
  | k + 1 => if q_bit k ^^^ rows k = r then q_cnt rows r k + 1 else q_cnt rows r k
def q_con (rows : Nat → Int64) (rv : Nat → Int32) (mask : Int64) (v : Int32) : Bool := decide (q_rem rows mask 38 = 0) && decide (q_kv rv mask 38 ≠ v)
/-- the lowest bit; 64 where there is none -/
noncomputable def q_low (x : Int64) : Nat := Classical.epsilon (fun k => (k = 64 ∨ tb x k = true) ∧ ∀ j, j < k → tb x j = false)
theorem q_low_eq {x : Int64} {k : Nat} (h1 : k = 64 ∨ tb x k = true) (h2 : ∀ j, j < k → tb x j = false) : q_low x = k := by
  have h := Classical.epsilon_spec (p := fun k => (k = 64 ∨ tb x k = true) ∧ ∀ j, j < k → tb x j = false) ⟨k, h1, h2⟩
  have h3 : (q_low x = 64 ∨ tb x (q_low x) = true) ∧ ∀ j, j < q_low x → tb x j = false := h
  rcases Nat.lt_trichotomy (q_low x) k with a | a | a
  · rcases h3.1 with b | b
    · rcases h1 with c | c
      · omega
      · have := tb_ge (x := x) (k := k) (by omega)
        rw [this] at c
        cases c
    · rw [h2 _ a] at b
      cases b
  · exact a
  · rcases h1 with c | c
    · rcases h3.1 with b | b
      · omega
      · rw [tb_ge (by omega)] at b
        cases b
    · rw [h3.2 _ a] at c
      cases c
theorem q_least (x : Int64) : ∀ n : Nat, (∀ j, j < n → tb x j = false) ∨ ∃ k, k < n ∧ tb x k = true ∧ ∀ j, j < k → tb x j = false
  | 0 => Or.inl (fun j hj => absurd hj (Nat.not_lt_zero _))
  | n + 1 => by
    rcases q_least x n with h | ⟨k, h1, h2, h3⟩
    · cases hx : tb x n with
      | true => exact Or.inr ⟨n, Nat.lt_succ_self _, hx, h⟩
      | false =>
        refine Or.inl (fun j hj => ?_)
        rcases Nat.lt_or_ge j n with a | a
        · exact h j a
        · have : j = n := by omega
          rw [this]
          exact hx
    · exact Or.inr ⟨k, Nat.lt_succ_of_lt h1, h2, h3⟩
theorem q_low_spec (x : Int64) : (q_low x = 64 ∧ x = 0) ∨ (q_low x < 64 ∧ tb x (q_low x) = true ∧ ∀ j, j < q_low x → tb x j = false) := by
  rcases q_least x 64 with h | ⟨k, h1, h2, h3⟩
  · exact Or.inl ⟨q_low_eq (Or.inl rfl) h, tb_ext (fun j hj => by rw [h j hj, tb_zero])⟩
  · have e := q_low_eq (Or.inr h2) h3
    rw [e]
    exact Or.inr ⟨h1, h2, h3⟩
theorem q_low_le (x : Int64) : q_low x ≤ 64 := by
  rcases q_low_spec x with h | h
  · omega
  · omega
def q_elR (rows : Nat → Int64) (rest : Int64) (ld : Nat) (n : Nat) : Nat → Int64 := fun j => if decide (j < n) && tb (rows j) ld then rows j ^^^ rest else rows j
def q_elV (rows : Nat → Int64) (rv : Nat → Int32) (num : Int32) (ld : Nat) (n : Nat) : Nat → Int32 := fun j => if decide (j < n) && tb (rows j) ld then rv j ^^^ num else rv j
theorem q_elR_0 (rows : Nat → Int64) (rest : Int64) (ld : Nat) : rows = q_elR rows rest ld 0 := by
  funext j
  simp [q_elR]
theorem q_elV_0 (rows : Nat → Int64) (rv : Nat → Int32) (num : Int32) (ld : Nat) : rv = q_elV rows rv num ld 0 := by
  funext j
  simp [q_elV]
theorem q_elR_at (rows : Nat → Int64) (rest : Int64) (ld k : Nat) : q_elR rows rest ld k k = rows k := by simp [q_elR]
theorem q_elV_at (rows : Nat → Int64) (rv : Nat → Int32) (num : Int32) (ld k : Nat) : q_elV rows rv num ld k k = rv k := by simp [q_elV]
theorem q_elR_1 {rows : Nat → Int64} {rest : Int64} {ld k : Nat} (z : tb (q_elR rows rest ld k k) ld = true) : vp_updL (q_elR rows rest ld k) k (q_elR rows rest ld k k ^^^ rest) = q_elR rows rest ld (k + 1) := by
  rw [q_elR_at] at z ⊢
  funext j
  unfold vp_updL q_elR
  by_cases h : j = k
  · subst h
    simp [z]
  · have : decide (j < k + 1) = decide (j < k) := decide_eq_decide.mpr (by omega)
    simp [h, this]
theorem q_elR_2 {rows : Nat → Int64} {rest : Int64} {ld k : Nat} (z : tb (q_elR rows rest ld k k) ld = false) : q_elR rows rest ld k = q_elR rows rest ld (k + 1) := by
  rw [q_elR_at] at z
  funext j
  unfold q_elR
  by_cases h : j = k
  · subst h
    simp [z]
  · have : decide (j < k + 1) = decide (j < k) := decide_eq_decide.mpr (by omega)
    simp [this]
theorem q_elV_1 {rows : Nat → Int64} {rv : Nat → Int32} {num : Int32} {rest : Int64} {ld k : Nat} (z : tb (q_elR rows rest ld k k) ld = true) : upd (q_elV rows rv num ld k) k (q_elV rows rv num ld k k ^^^ num) = q_elV rows rv num ld (k + 1) := by
  rw [q_elR_at] at z
  rw [q_elV_at]
  funext j
  unfold upd q_elV
  by_cases h : j = k
  · subst h
    simp [z]
  · have : decide (j < k + 1) = decide (j < k) := decide_eq_decide.mpr (by omega)
    simp [h, this]
theorem q_elV_2 {rows : Nat → Int64} {rv : Nat → Int32} {num : Int32} {rest : Int64} {ld k : Nat} (z : tb (q_elR rows rest ld k k) ld = false) : q_elV rows rv num ld k = q_elV rows rv num ld (k + 1) := by
  rw [q_elR_at] at z
  funext j
  unfold q_elV
  by_cases h : j = k
  · subst h
    simp [z]
  · have : decide (j < k + 1) = decide (j < k) := decide_eq_decide.mpr (by omega)
    simp [this]
/-- does an equation with this rest make a row -/
noncomputable def q_new (rest : Int64) : Bool := decide (rest ≠ 0) && decide (q_low rest < 38)
noncomputable def q_addR (rows : Nat → Int64) (rest : Int64) : Nat → Int64 := if q_new rest then vp_updL (q_elR rows rest (q_low rest) 38) (q_low rest) rest else rows
noncomputable def q_addV (rows : Nat → Int64) (rv : Nat → Int32) (rest : Int64) (num : Int32) : Nat → Int32 := if q_new rest then upd (q_elV rows rv num (q_low rest) 38) (q_low rest) num else rv
noncomputable def q_addK (rest : Int64) (rk : Nat) : Nat := if q_new rest then rk + 1 else rk
def q_fill (f : Nat → Int32) (v : Int32) (k : Nat) : Nat → Int32 := fun j => if j < k then v else f j
def q_fillL (f : Nat → Int64) (v : Int64) (k : Nat) : Nat → Int64 := fun j => if j < k then v else f j
theorem q_fill_0 (f : Nat → Int32) (v : Int32) : f = q_fill f v 0 := by
  funext j
  simp [q_fill]
theorem q_fill_1 (f : Nat → Int32) (v : Int32) (k : Nat) : upd (q_fill f v k) k v = q_fill f v (k + 1) := by
  funext j
  unfold upd q_fill
  by_cases h : j = k
  · simp [h]
  · have : j < k + 1 ↔ j < k := by omega
    simp [h, this]
theorem q_fill_at (f : Nat → Int32) (v : Int32) {k j : Nat} (h : j < k) : q_fill f v k j = v := by simp [q_fill, h]
theorem q_fillL_0 (f : Nat → Int64) (v : Int64) : f = q_fillL f v 0 := by
  funext j
  simp [q_fillL]
theorem q_fillL_1 (f : Nat → Int64) (v : Int64) (k : Nat) : vp_updL (q_fillL f v k) k v = q_fillL f v (k + 1) := by
  funext j
  unfold vp_updL q_fillL
  by_cases h : j = k
  · simp [h]
  · have : j < k + 1 ↔ j < k := by omega
    simp [h, this]
theorem q_fillL_at (f : Nat → Int64) (v : Int64) {k j : Nat} (h : j < k) : q_fillL f v k j = v := by simp [q_fillL, h]
def q_line (f : Nat → Nat) (k : Nat) : Nat → Nat := fun j => if j < k then j else f j
theorem q_line_0 (f : Nat → Nat) : f = q_line f 0 := by
  funext j
  simp [q_line]
theorem q_line_1 (f : Nat → Nat) (k : Nat) : va_up (q_line f k) k k = q_line f (k + 1) := by
  funext j
  unfold va_up q_line
  by_cases h : j = k
  · simp [h]
  · have : j < k + 1 ↔ j < k := by omega
    simp [h, this]
/-- does parity block j cover source block k -/
def q_cv (j k : Nat) : Bool := ((k + 1) / 2 ^ j) % 2 == 1
def q_cov (j : Nat) : Nat → Int64
  | 0 => 0
  | k + 1 => if q_cv j k then q_cov j k ||| q_bit k else q_cov j k
theorem q_sm32 : ∀ j, j < 32 → (((nI j) &&& 31).toBitVec.smod 32).toNat = j := by decide +kernel
theorem q_ishr {n j : Nat} (hn : n < 2 ^ 31) (hj : j < 31) : nI n >>> (nI j &&& 31) = nI (n / 2 ^ j) := pk_shrN hn _ j (q_sm32 j (by omega))
theorem q_half {n j : Nat} (h : n < 2 ^ 32) : n / 2 ^ j < 2 ^ 32 := Nat.lt_of_le_of_lt (Nat.div_le_self _ _) h
theorem q_and1b {n : Nat} (h : n < 2 ^ 32) : nI n &&& nI 1 = q_b (n % 2 == 1) := by
  rw [pk_andN h (m := nI 1) 1 (by decide)]
  rcases Nat.mod_two_eq_zero_or_one n with e | e <;> rw [e] <;> decide
def q_vb (vals : Nat → Int32) (S b : Nat) : Int32 := if b < S then q_kv vals (q_bit b) S else q_kv vals (q_cov (b - S) S) S
def q_vs (vals : Nat → Int32) (S : Nat) (x : Int64) : Nat → Int32
  | 0 => q_kv vals x S
  | i + 1 => if tb x (S + i) then q_vs vals S x i ^^^ q_vb vals S (S + i) else q_vs vals S x i
