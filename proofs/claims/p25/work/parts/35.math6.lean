/-! longs and ints, the order's bits, drops -/
theorem r_ll (x : Int32) : x.toInt64.toInt32 = x := by
  apply Int32.toBitVec_inj.mp
  show BitVec.signExtend 32 (BitVec.signExtend 64 x.toBitVec) = x.toBitVec
  apply BitVec.eq_of_getLsbD_eq
  intro i hi
  rw [BitVec.getLsbD_signExtend, BitVec.getLsbD_signExtend]
  simp [hi, show i < 64 by omega]
theorem r_leq {x y : Int32} : x.toInt64 = y.toInt64 ↔ x = y := ⟨fun h => by rw [← r_ll x, h, r_ll], fun h => by rw [h]⟩
theorem r_np (x : Int32) {z : Int64} (hz : z.toInt < -2147483648) : x.toInt64 ≠ z := by
  intro g
  have e : x.toInt64.toInt = x.toInt := Int32.toInt_toInt64 x
  have h := Int32.le_toInt x
  rw [g] at e
  omega
theorem r_np1 (x : Int32) : x.toInt64 ≠ (-9000000000000000001) := r_np x (by decide)
theorem r_np2 (x : Int32) : x.toInt64 ≠ (-9000000000000000002) := r_np x (by decide)
theorem r_np3 (x : Int32) : x.toInt64 ≠ (-9000000000000000003) := r_np x (by decide)
theorem r_m1l : ((-1 : Int32)).toInt64 = -1 := by decide
theorem r_l0 : (lN 0 : Int64) = 0 := rfl
theorem r_l1 : (lN 1 : Int64) = 1 := rfl
theorem r_lge {n : Nat} (h : n < 2 ^ 31) : ¬ lN n < 0 := by
  rw [← r_l0, lN_lt h (by decide)]
  omega
theorem r_smod : ∀ b, b < 64 → (((nI b).toInt64 &&& 63).toBitVec.smod 64).toNat = b := by decide +kernel
theorem r_bl_bit (c : Bool) (k : Nat) (hk : k < 64) : tb (q_bl c) k = (c && decide (k = 0)) := by
  cases c
  · exact tb_zero k
  · exact tb_one k
theorem r_shr (x : Int64) {b : Nat} (hb : b < 64) : (x >>> ((nI b).toInt64 &&& 63)) &&& 1 = q_bl (tb x b) := by
  apply tb_ext
  intro k hk
  rw [tb_and, tb_one, r_bl_bit _ k hk]
  by_cases c : k = 0
  · subst c
    rw [decide_eq_true rfl, Bool.and_true, Bool.and_true]
    unfold tb
    rw [Int64.toBitVec_shiftRight]
    show (BitVec.sshiftRight x.toBitVec (((nI b).toInt64 &&& 63).toBitVec.smod 64).toNat).getLsbD 0 = _
    rw [r_smod b hb, BitVec.getLsbD_sshiftRight]
    simp [hb]
  · rw [decide_eq_false c, Bool.and_false, Bool.and_false]
theorem r_or_in (row : Nat → Nat) : ∀ k i, i < k → row i < 64 → tb (q_or row k) (row i) = true
  | 0, i, h, _ => absurd h (Nat.not_lt_zero _)
  | k + 1, i, h, hr => by
    rw [show q_or row (k + 1) = q_or row k ||| q_bit (row k) from rfl, tb_or]
    by_cases c : i = k
    · subst c
      rw [tb_bit, decide_eq_true hr, decide_eq_true rfl, Bool.and_self, Bool.or_true]
    · rw [r_or_in row k i (by omega) hr, Bool.true_or]
theorem r_ord {nn : Nat} {rows : Nat → Int64} {s : q_PS} (h : r_pl nn rows s) (b : Nat) : tb (q_or s.1 s.2.2.1) b = tb s.2.2.2 b := by
  cases g : tb s.2.2.2 b with
  | true =>
    obtain ⟨i, hi, e⟩ := h.2.2.2.1 b g
    have := r_or_in s.1 s.2.2.1 i hi (by rw [e]; have := (h.1 b g).1; omega)
    rw [e] at this
    exact this
  | false =>
    cases g2 : tb (q_or s.1 s.2.2.1) b with
    | false => rfl
    | true =>
      obtain ⟨i, hi, e⟩ := q_or_mem s.1 _ b g2
      have := h.2.1 i hi
      rw [e, g] at this
      cases this
theorem r_or_new {row : Nat → Nat} {k : Nat} (h : ∀ i, i < k → row i ≠ row k) : tb (q_or row k) (row k) = false := by
  cases g : tb (q_or row k) (row k) with
  | false => rfl
  | true =>
    obtain ⟨i, hi, e⟩ := q_or_mem row k _ g
    exact absurd e (h i hi)
theorem r_blk_lt (w : Nat → Nat) (B : Nat) (num : Int32) {i : Nat} (hi : i < q_sz w B num) : q_blk w B num i < B := (q_ds_lt (fun _ h => h) (q_g0 num) _ (q_sz_le w B num)).1 i (Nat.lt_of_lt_of_le hi (q_sz_le w B num))
theorem r_blk_inj (w : Nat → Nat) (B : Nat) (num : Int32) {k : Nat} (hk : k < q_sz w B num) : ∀ i, i < k → q_blk w B num i ≠ q_blk w B num k := fun i hi e => by
  have h := q_dr_inj (B := B) (row := fun j => j) (fun _ _ _ _ e => e) (q_g0 num) _ (q_sz_le w B num)
  have := h i k (by have := q_sz_le w B num; omega) (by have := q_sz_le w B num; omega) e
  omega
theorem r_sz_1 {w : Nat → Nat} {B : Nat} (hs : 0 < q_sum w 12) (hB : 1 ≤ B) (num : Int32) : 1 ≤ q_sz w B num := by
  obtain ⟨d, h1, h2, h3⟩ := q_deg_ex 12 (Nat.mod_lt (q_hi (q_g0 num)) hs)
  have e := q_deg_eq h2 h3
  have hd : 1 ≤ d := by
    rcases Nat.eq_zero_or_pos d with g | g
    · subst g
      exact absurd h2 (Nat.not_lt_zero _)
    · exact g
  unfold q_sz
  rw [e]
  exact Nat.le_min.mpr ⟨hd, hB⟩
theorem r_sz_12 {w : Nat → Nat} (hW : ∀ j, w j ≤ 1000) (hs : 0 < q_sum w 12) (B : Nat) (num : Int32) : q_sz w B num ≤ 12 := Nat.le_trans (Nat.min_le_left _ _) (q_deg_le12 hW hs _)
