/-! further functions of the reference -/
theorem q_sz_pos {w : Nat → Nat} {B : Nat} (hs : 0 < q_sum w 12) (hB : 1 ≤ B) (num : Int32) : 1 ≤ q_sz w B num := by
  obtain ⟨d, h1, h2, h3⟩ := q_deg_ex 12 (Nat.mod_lt (q_hi (q_g0 num)) hs)
  have e := q_deg_eq h2 h3
  have hd : 1 ≤ d := by
    rcases Nat.eq_zero_or_pos d with a | a
    · subst a
      exact absurd h2 (Nat.not_lt_zero _)
    · exact a
  unfold q_sz
  rw [e]
  omega
def q_mk (S j : Nat) : Nat → Int64
  | 0 => q_bit (S + j)
  | i + 1 => q_mk S j i ||| (if q_cv j i then q_bit i else 0)
theorem q_mk_cov (S j : Nat) : ∀ n, q_mk S j n = q_bit (S + j) ||| q_cov j n
  | 0 => by
    apply tb_ext
    intro t _
    show tb (q_bit (S + j)) t = tb (q_bit (S + j) ||| 0) t
    rw [tb_or, tb_zero, Bool.or_false]
  | n + 1 => by
    show q_mk S j n ||| (if q_cv j n then q_bit n else 0) = q_bit (S + j) ||| (if q_cv j n then q_cov j n ||| q_bit n else q_cov j n)
    rw [q_mk_cov S j n]
    apply tb_ext
    intro t _
    by_cases c : q_cv j n = true
    · rw [if_pos c, if_pos c, tb_or, tb_or, tb_or, tb_or, Bool.or_assoc]
    · rw [if_neg c, if_neg c, tb_or, tb_zero, Bool.or_false]
theorem q_mk_bx (S j : Nat) : q_mk S j S = q_bx S j := q_mk_cov S j S
theorem q_rdF_hi {rows : Nat → Int64} (hR : ∀ j t, 38 ≤ t → tb (rows j) t = false) {x : Int64} (hx : ∀ t, 38 ≤ t → tb x t = false) : ∀ k t, 38 ≤ t → tb (q_rdF rows x k) t = false
  | 0, t, ht => hx t ht
  | k + 1, t, ht => by
    have h := q_rdF_hi hR hx k t ht
    unfold q_rdF
    by_cases c : tb (q_rdF rows x k) k = true
    · rw [if_pos c]
      by_cases d : rows k ≠ 0
      · rw [if_pos d, tb_xor, h, hR k t ht]
        rfl
      · rw [if_neg d]
        exact h
    · rw [if_neg c]
      exact h
theorem q_low_hi {x : Int64} (hx : ∀ t, 38 ≤ t → tb x t = false) (h : x ≠ 0) : q_low x < 38 := by
  have hl := q_low_lt h
  rcases Nat.lt_or_ge (q_low x) 38 with a | a
  · exact a
  · have := hx _ a
    rw [hl.2.1] at this
    cases this
theorem q_layR_hi {rows : Nat → Int64} (hR : ∀ j t, 38 ≤ t → tb (rows j) t = false) {red : Int64} (hx : ∀ t, 38 ≤ t → tb red t = false) (B : Nat) : ∀ j t, 38 ≤ t → tb (q_layR rows red B j) t = false := by
  intro j t ht
  unfold q_layR
  by_cases c : red = 0
  · rw [if_pos c]
    exact hR j t ht
  · rw [if_neg c]
    unfold vp_updL q_elR
    by_cases d : j = q_low red
    · rw [if_pos d]
      exact hx t ht
    · rw [if_neg d]
      by_cases e : (decide (j < B) && tb (rows j) (q_low red)) = true
      · rw [if_pos e, tb_xor, hR j t ht, hx t ht]
        rfl
      · rw [if_neg e]
        exact hR j t ht
noncomputable def q_mgR (S B : Nat) : Nat → (Nat → Int64) × (Nat → Int32)
  | 0 => (fun _ => 0, fun _ => nI 0)
  | j + 1 => (q_layR (q_mgR S B j).1 (q_rdF (q_mgR S B j).1 (q_bx S j) B) B, q_layV (q_mgR S B j).1 (q_mgR S B j).2 (q_rdF (q_mgR S B j).1 (q_bx S j) B) (q_rnF (q_mgR S B j).1 (q_mgR S B j).2 (q_bx S j) (nI 0) B) B)
theorem q_bx_hi {S j : Nat} (h : S + j < 38) : ∀ t, 38 ≤ t → tb (q_bx S j) t = false := by
  intro t ht
  cases e : tb (q_bx S j) t with
  | false => rfl
  | true => have := q_bx_lt e; omega
def q_ref (dr : Nat) (rows : Nat → Int64) (rv : Nat → Int32) (x : Int64) (v : Int32) (B : Nat) : Bool := decide (dr = 120) || (decide (q_rdF rows x B = 0) && decide (q_rnF rows rv x v B ≠ 0))
noncomputable def q_mtk (B : Nat) (x : Int64) (v : Int32) (s : q_ST) : q_ST := (vp_updL s.1 s.2.1 x, s.2.1 + 1, q_pn (vp_updL s.1 s.2.1 x) (s.2.1 + 1) 38 s.2.2.1, q_layR s.2.2.2.1 (q_rdF s.2.2.2.1 x B) B, q_layV s.2.2.2.1 s.2.2.2.2.1 (q_rdF s.2.2.2.1 x B) (q_rnF s.2.2.2.1 s.2.2.2.2.1 x v B) B, s.2.2.2.2.2 + 1)
noncomputable def q_nmW (w : Nat → Nat) (vals : Nat → Int32) (S B : Nat) (num : Int32) : Int32 := q_nm vals S (q_blk w B num) (q_sz w B num)
noncomputable def q_mra (w : Nat → Nat) (vals : Nat → Int32) (S B : Nat) (first : Int32) : Nat → Nat → q_ST → Nat × q_ST
  | 0, k, s => (k, s)
  | f + 1, k, s => if q_ref s.2.2.2.2.2 s.2.2.2.1 s.2.2.2.2.1 (q_set w B (first + nI k)) (q_nmW w vals S B (first + nI k)) B then (k, s) else q_mra w vals S B first f (k + 1) (q_mtk B (q_set w B (first + nI k)) (q_nmW w vals S B (first + nI k)) s)
def q_hlm (rows : Nat → Int64) (B : Nat) (x : Int64) : Bool := decide (q_rdF rows x B ≠ 0)
theorem q_sumX_ge {w : Nat → Nat} (hW : ∀ j, w j ≤ 1000) (d : Nat) : ∀ k, q_sumX w d k ≤ 1000 * k
  | 0 => Nat.le_refl _
  | k + 1 => by
    have := q_sumX_ge hW d k
    have := hW k
    unfold q_sumX
    by_cases c : k + 1 = d
    · rw [if_pos c]; omega
    · rw [if_neg c]; omega
theorem q_ref_lt {dr : Nat} {rows : Nat → Int64} {rv : Nat → Int32} {x : Int64} {v : Int32} {B : Nat} (h : q_ref dr rows rv x v B = false) (hd : dr ≤ 120) : dr < 120 := by
  rcases Nat.lt_or_ge dr 120 with a | a
  · exact a
  · exfalso
    have e : dr = 120 := by omega
    subst e
    simp [q_ref] at h
theorem q_sumX_1 {w : Nat → Nat} {d k : Nat} (h1 : 1 ≤ k) (z : k = d) : q_sumX w d (k - 1) + 0 = q_sumX w d (k + 1 - 1) := by
  obtain ⟨t, rfl⟩ : ∃ t, k = t + 1 := ⟨k - 1, by omega⟩
  show q_sumX w d t + 0 = q_sumX w d t + (if t + 1 = d then 0 else w t)
  rw [if_pos z]
theorem q_sumX_2 {w : Nat → Nat} {d k : Nat} (h1 : 1 ≤ k) (z : ¬ k = d) : q_sumX w d (k - 1) + q_w1 w k = q_sumX w d (k + 1 - 1) := by
  obtain ⟨t, rfl⟩ : ∃ t, k = t + 1 := ⟨k - 1, by omega⟩
  show q_sumX w d t + w t = q_sumX w d t + (if t + 1 = d then 0 else w t)
  rw [if_neg z]
section QREF
variable {dr : Nat} {rows : Nat → Int64} {rv : Nat → Int32} {x : Int64} {v : Int32} {B : Nat}
theorem q_ref_a (h : dr = 120) : true = q_ref dr rows rv x v B := by simp [q_ref, h]
theorem q_ref_b (h : dr ≠ 120) (h2 : q_rdF rows x B ≠ 0) : false = q_ref dr rows rv x v B := by
  unfold q_ref
  rw [decide_eq_false h, decide_eq_false h2]
  rfl
theorem q_ref_c (h : dr ≠ 120) (h2 : q_rdF rows x B = 0) (h3 : q_rnF rows rv x v B = 0) : false = q_ref dr rows rv x v B := by
  unfold q_ref
  rw [decide_eq_false h, decide_eq_true h2, decide_eq_false (fun g => g h3)]
  rfl
theorem q_ref_d (h : dr ≠ 120) (h2 : q_rdF rows x B = 0) (h3 : ¬ q_rnF rows rv x v B = 0) : true = q_ref dr rows rv x v B := by
  unfold q_ref
  rw [decide_eq_false h, decide_eq_true h2, decide_eq_true h3]
  rfl
end QREF
