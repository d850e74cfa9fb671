/-! what counts hold of the class's own state: the row space, peeling, the sender's truth -/
theorem r_xa (X Y r : Int64) : (X ^^^ Y) ^^^ r = X ^^^ (Y ^^^ r) := tb_ext (fun k _ => by
  simp only [tb_xor]
  cases tb X k <;> cases tb Y k <;> cases tb r k <;> rfl)
theorem r_xb (X Y r : Int64) : (X ^^^ Y) ^^^ r = (X ^^^ r) ^^^ Y := tb_ext (fun k _ => by
  simp only [tb_xor]
  cases tb X k <;> cases tb Y k <;> cases tb r k <;> rfl)
theorem r_xc (X Y r : Int64) : X ^^^ Y = (X ^^^ r) ^^^ (Y ^^^ r) := tb_ext (fun k _ => by
  simp only [tb_xor]
  cases tb X k <;> cases tb Y k <;> cases tb r k <;> rfl)
theorem r_xs (X : Int64) : X ^^^ X = 0 := tb_ext (fun k _ => by
  simp only [tb_xor, tb_zero]
  cases tb X k <;> rfl)
theorem r_ifx (a b : Bool) (X Y r : Int64) : (if (a ^^ b) = true then (X ^^^ Y) ^^^ r else X ^^^ Y) = (if a = true then X ^^^ r else X) ^^^ (if b = true then Y ^^^ r else Y) := by
  cases a <;> cases b
  · rfl
  · exact r_xa X Y r
  · exact r_xb X Y r
  · exact r_xc X Y r
theorem r_if2 (a b : Bool) (X Y r : Int64) : (if (a ^^ b) = true then (X ^^^ Y) ^^^ r else X ^^^ Y) = (if a = true then X ^^^ r else X) ^^^ (if b = true then Y ^^^ r else Y) := r_ifx a b X Y r
theorem r_rem_xor (rows : Nat → Int64) (x y : Int64) : ∀ n, q_rem rows (x ^^^ y) n = q_rem rows x n ^^^ q_rem rows y n
  | 0 => rfl
  | n + 1 => by
    have ih := r_rem_xor rows x y n
    unfold q_rem
    rw [ih, tb_xor]
    exact r_ifx (tb x n) (tb y n) _ _ _
theorem r_ya (X Y r : Int32) : (X ^^^ Y) ^^^ r = X ^^^ (Y ^^^ r) := Int32.xor_assoc X Y r
theorem r_yb (X Y r : Int32) : (X ^^^ Y) ^^^ r = (X ^^^ r) ^^^ Y := by rw [Int32.xor_assoc, Int32.xor_comm (a := Y), ← Int32.xor_assoc]
theorem r_yc (X Y r : Int32) : X ^^^ Y = (X ^^^ r) ^^^ (Y ^^^ r) := by
  rw [Int32.xor_comm (a := Y) (b := r), ← Int32.xor_assoc, Int32.xor_assoc (a := X) (b := r) (c := r), Int32.xor_self, Int32.xor_zero]
theorem r_kv_xor (f : Nat → Int32) (x y : Int64) : ∀ n, q_kv f (x ^^^ y) n = q_kv f x n ^^^ q_kv f y n
  | 0 => (Int32.xor_zero).symm
  | n + 1 => by
    have ih := r_kv_xor f x y n
    unfold q_kv
    rw [ih, tb_xor]
    cases tb x n <;> cases tb y n
    · rfl
    · exact r_ya _ _ _
    · exact r_yb _ _ _
    · exact r_yc _ _ _
/-- the value of a row, read off its blocks -/
def r_tru (g : Nat → Int32) (rows : Nat → Int64) (rv : Nat → Int32) : Prop := ∀ j, q_kv g (rows j) 38 = rv j
theorem r_tru_0 (g : Nat → Int32) : r_tru g (fun _ => 0) (fun _ => nI 0) := fun _ => q_kv_0 g 38
theorem r_tru_val {g : Nat → Int32} {rows : Nat → Int64} {rv : Nat → Int32} (T : r_tru g rows rv) (x : Int64) : ∀ n, q_kv g (q_rem rows x n) 38 = q_kv g x 38 ^^^ q_kv rv x n
  | 0 => (Int32.xor_zero).symm
  | n + 1 => by
    have ih := r_tru_val T x n
    unfold q_rem
    rw [show q_kv rv x (n + 1) = if tb x n then q_kv rv x n ^^^ rv n else q_kv rv x n from rfl]
    by_cases c : tb x n = true
    · rw [if_pos c, if_pos c, r_kv_xor, ih, T n, Int32.xor_assoc]
    · rw [if_neg c, if_neg c, ih]
theorem r_tru_known {g : Nat → Int32} {rows : Nat → Int64} {rv : Nat → Int32} (T : r_tru g rows rv) {x : Int64} (h : q_rem rows x 38 = 0) : q_kv rv x 38 = q_kv g x 38 := by
  have e := r_tru_val T x 38
  rw [h, q_kv_0] at e
  have e2 : q_kv g x 38 ^^^ (q_kv g x 38 ^^^ q_kv rv x 38) = q_kv g x 38 := by rw [← e, Int32.xor_zero]
  rw [← Int32.xor_assoc, Int32.xor_self, Int32.zero_xor] at e2
  exact e2
theorem r_layR_at {B : Nat} {rows : Nat → Int64} {r : Int64} (z : r ≠ 0) (j : Nat) : q_layR rows r B j = if j = q_low r then r else q_elR rows r (q_low r) B j := by
  unfold q_layR
  rw [if_neg z]
  unfold vp_updL
  rfl
theorem r_layV_at {B : Nat} {rows : Nat → Int64} {rv : Nat → Int32} {r : Int64} {v : Int32} (z : r ≠ 0) (j : Nat) : q_layV rows rv r v B j = if j = q_low r then v else q_elV rows rv v (q_low r) B j := by
  unfold q_layV
  rw [if_neg z]
  unfold upd
  rfl
theorem r_tru_lay {B : Nat} {g : Nat → Int32} {rows : Nat → Int64} {rv : Nat → Int32} (T : r_tru g rows rv) {r : Int64} {v : Int32} (hv : q_kv g r 38 = v) : r_tru g (q_layR rows r B) (q_layV rows rv r v B) := by
  intro j
  by_cases z : r = 0
  · unfold q_layR q_layV
    rw [if_pos z, if_pos z]
    exact T j
  · rw [r_layR_at z, r_layV_at z]
    by_cases c : j = q_low r
    · rw [if_pos c, if_pos c, hv]
    · rw [if_neg c, if_neg c]
      unfold q_elR q_elV
      by_cases d : (decide (j < B) && tb (rows j) (q_low r)) = true
      · rw [if_pos d, if_pos d, r_kv_xor, T j, hv]
      · rw [if_neg d, if_neg d]
        exact T j
theorem r_tru_add {B : Nat} (hB : B ≤ 38) {g : Nat → Int32} {rows : Nat → Int64} {rv : Nat → Int32} (I : q_inv B rows rv) (T : r_tru g rows rv) {x : Int64} (hx : ∀ t, B ≤ t → tb x t = false) {v : Int32} (hv : q_kv g x 38 = v) : r_tru g (q_addR rows (q_rem rows x 38)) (q_addV rows rv (q_rem rows x 38) (v ^^^ q_kv rv x 38)) := by
  have R := q_red_of I hB hx
  rw [← q_lay_addR I hB R, ← q_lay_addV I hB R]
  exact r_tru_lay T (by rw [r_tru_val T, hv])
/-- a row more: what was spanned stays spanned, what was added is -/
theorem r_rem_lay {B : Nat} {rows : Nat → Int64} {rv : Nat → Int32} (I : q_inv B rows rv) {r : Int64} (h : q_red B rows r) (z : r ≠ 0) (y : Int64) : ∀ n, q_rem (q_layR rows r B) y n = if (tb (q_rem rows y n) (q_low r) ^^ (tb y (q_low r) && decide (n ≤ q_low r))) = true then q_rem rows y n ^^^ r else q_rem rows y n
  | 0 => by
    show y = if (tb y (q_low r) ^^ (tb y (q_low r) && decide (0 ≤ q_low r))) = true then y ^^^ r else y
    rw [decide_eq_true (Nat.zero_le _), Bool.and_true, Bool.xor_self]
    rfl
  | n + 1 => by
    have ih := r_rem_lay I h z y n
    obtain ⟨lB, l0⟩ := q_red_low h z
    rw [show q_rem (q_layR rows r B) y (n + 1) = if tb y n then q_rem (q_layR rows r B) y n ^^^ q_layR rows r B n else q_rem (q_layR rows r B) y n from rfl]
    rw [show q_rem rows y (n + 1) = if tb y n then q_rem rows y n ^^^ rows n else q_rem rows y n from rfl]
    by_cases c : tb y n = true
    · rw [if_pos c, if_pos c, ih]
      have e1 : q_layR rows r B n = if (decide (n = q_low r) || tb (rows n) (q_low r)) = true then rows n ^^^ r else rows n := by
        rw [q_layR_at I z n]
        by_cases d : n = q_low r
        · rw [if_pos d, decide_eq_true d, Bool.true_or, if_pos rfl, d, l0]
          exact (tb_ext (fun k _ => by rw [tb_xor, tb_zero, Bool.false_xor]))
        · rw [if_neg d, decide_eq_false d, Bool.false_or]
      rw [e1, ← r_ifx]
      congr 1
      rw [tb_xor]
      by_cases d : n = q_low r
      · subst d
        rw [c, l0, tb_zero, decide_eq_true rfl, decide_eq_true (Nat.le_refl _), decide_eq_false (show ¬ q_low r + 1 ≤ q_low r by omega)]
        cases tb (q_rem rows y (q_low r)) (q_low r) <;> rfl
      · rw [decide_eq_false d, Bool.false_or, show decide (n + 1 ≤ q_low r) = decide (n ≤ q_low r) from decide_eq_decide.mpr (by omega)]
        cases tb (q_rem rows y n) (q_low r) <;> cases tb (rows n) (q_low r) <;> cases tb y (q_low r) <;> cases decide (n ≤ q_low r) <;> rfl
    · rw [if_neg c, if_neg c, ih]
      have e2 : (tb y (q_low r) && decide (n ≤ q_low r)) = (tb y (q_low r) && decide (n + 1 ≤ q_low r)) := by
        by_cases d : n = q_low r
        · subst d
          rw [Bool.eq_false_iff.mpr c]
          rfl
        · rw [show decide (n + 1 ≤ q_low r) = decide (n ≤ q_low r) from decide_eq_decide.mpr (by omega)]
      rw [e2]
theorem r_rem_lay38 {B : Nat} (hB : B ≤ 38) {rows : Nat → Int64} {rv : Nat → Int32} (I : q_inv B rows rv) {r : Int64} (h : q_red B rows r) (z : r ≠ 0) (y : Int64) : q_rem (q_layR rows r B) y 38 = if tb (q_rem rows y 38) (q_low r) = true then q_rem rows y 38 ^^^ r else q_rem rows y 38 := by
  have e := r_rem_lay I h z y 38
  obtain ⟨lB, l0⟩ := q_red_low h z
  rw [decide_eq_false (show ¬ 38 ≤ q_low r by omega), Bool.and_false, Bool.xor_false] at e
  exact e
theorem r_keep {B : Nat} (hB : B ≤ 38) {rows : Nat → Int64} {rv : Nat → Int32} (I : q_inv B rows rv) {x : Int64} (hx : ∀ t, B ≤ t → tb x t = false) {y : Int64} (hy : q_rem rows y 38 = 0) : q_rem (q_addR rows (q_rem rows x 38)) y 38 = 0 := by
  have R := q_red_of I hB hx
  rw [← q_lay_addR I hB R]
  by_cases z : q_rem rows x 38 = 0
  · unfold q_layR
    rw [if_pos z]
    exact hy
  · rw [r_rem_lay38 hB I R z, hy, tb_zero]
    rfl
theorem r_self {B : Nat} (hB : B ≤ 38) {rows : Nat → Int64} {rv : Nat → Int32} (I : q_inv B rows rv) {x : Int64} (hx : ∀ t, B ≤ t → tb x t = false) : q_rem (q_addR rows (q_rem rows x 38)) x 38 = 0 := by
  have R := q_red_of I hB hx
  by_cases z : q_rem rows x 38 = 0
  · exact r_keep hB I hx z
  · rw [← q_lay_addR I hB R, r_rem_lay38 hB I R z, (q_low_lt z).2.1, if_pos rfl]
    exact r_xs _
theorem r_rem_one (rows : Nat → Int64) {b : Nat} (hb : b < 38) : ∀ n, q_rem rows (q_bit b) n = if b < n then q_bit b ^^^ rows b else q_bit b
  | 0 => rfl
  | n + 1 => by
    have ih := r_rem_one rows hb n
    rw [show q_rem rows (q_bit b) (n + 1) = if tb (q_bit b) n then q_rem rows (q_bit b) n ^^^ rows n else q_rem rows (q_bit b) n from rfl, ih, tb_bit]
    by_cases e : n = b
    · subst e
      rw [decide_eq_true (show n < 64 by omega), decide_eq_true rfl, Bool.and_self, if_pos rfl, if_neg (Nat.lt_irrefl _), if_pos (Nat.lt_succ_self _)]
    · rw [decide_eq_false e, Bool.and_false, if_neg (by decide)]
      by_cases f : b < n
      · rw [if_pos f, if_pos (by omega)]
      · rw [if_neg f, if_neg (by omega)]
theorem r_rem_bit (rows : Nat → Int64) {b : Nat} (hb : b < 38) : q_rem rows (q_bit b) 38 = q_bit b ^^^ rows b := by rw [r_rem_one rows hb, if_pos hb]
theorem r_rem_sub {rows : Nat → Int64} {y : Int64} (h : ∀ b, tb y b = true → b < 38 ∧ rows b = q_bit b) : ∀ n k, k < 64 → tb (q_rem rows y n) k = (tb y k && decide (n ≤ k))
  | 0, k, _ => by
    rw [decide_eq_true (Nat.zero_le _), Bool.and_true]
    rfl
  | n + 1, k, hk => by
    have ih := r_rem_sub h n k hk
    rw [show q_rem rows y (n + 1) = if tb y n then q_rem rows y n ^^^ rows n else q_rem rows y n from rfl]
    by_cases c : tb y n = true
    · rw [if_pos c, tb_xor, ih, (h n c).2, tb_bit, decide_eq_true hk, Bool.true_and]
      by_cases e : k = n
      · subst e
        rw [c, decide_eq_true rfl, decide_eq_true (Nat.le_refl _), decide_eq_false (show ¬ k + 1 ≤ k by omega)]
        rfl
      · rw [decide_eq_false e, Bool.xor_false, show decide (n + 1 ≤ k) = decide (n ≤ k) from decide_eq_decide.mpr (by omega)]
    · rw [if_neg c, ih]
      by_cases e : k = n
      · subst e
        rw [Bool.eq_false_iff.mpr c]
        rfl
      · rw [show decide (n + 1 ≤ k) = decide (n ≤ k) from decide_eq_decide.mpr (by omega)]
theorem r_rem_sub0 {rows : Nat → Int64} {y : Int64} (h : ∀ b, tb y b = true → b < 38 ∧ rows b = q_bit b) : q_rem rows y 38 = 0 := by
  apply tb_ext
  intro k hk
  rw [r_rem_sub h 38 k hk, tb_zero]
  cases e : tb y k with
  | false => rfl
  | true => rw [decide_eq_false (show ¬ 38 ≤ k by have := (h k e).1; omega)]; rfl
/-- what the peeler's rows say: every peeled block is determined, the order, and which equation peeled it -/
def r_pl (nn : Nat) (rows : Nat → Int64) (s : q_PS) : Prop :=
  (∀ b, tb s.2.2.2 b = true → b < 38 ∧ rows b = q_bit b) ∧ (∀ i, i < s.2.2.1 → tb s.2.2.2 (s.1 i) = true) ∧ (∀ i j, i < j → j < s.2.2.1 → s.1 i ≠ s.1 j) ∧ (∀ b, tb s.2.2.2 b = true → ∃ i, i < s.2.2.1 ∧ s.1 i = b) ∧ (∀ b, tb s.2.2.2 b = true → ∃ e, e < nn ∧ s.2.1 b = nI e) ∧ (∀ b, tb s.2.2.2 b = false → s.2.1 b = -1)
theorem r_pl_0 (nn : Nat) (rows : Nat → Int64) (po : Nat → Nat) : r_pl nn rows (po, (fun _ => (-1)), 0, 0) := by
  refine ⟨fun b h => ?_, fun i hi => absurd hi (Nat.not_lt_zero _), fun i j _ hj => absurd hj (Nat.not_lt_zero _), fun b h => ?_, fun b h => ?_, fun b _ => rfl⟩
  all_goals (rw [show tb (0 : Int64) b = false from tb_zero b] at h; cases h)
theorem r_bit_rows {rows : Nat → Int64} {b : Nat} (hb : b < 38) (h : q_rem rows (q_bit b) 38 = 0) : rows b = q_bit b := (q_bitx rows b).mp ((r_rem_bit rows hb).symm.trans h)
theorem r_rows_bit {rows : Nat → Int64} {b : Nat} (hb : b < 38) (h : rows b = q_bit b) : q_rem rows (q_bit b) 38 = 0 := (r_rem_bit rows hb).trans ((q_bitx rows b).mpr h)
theorem r_lf_one {msk : Nat → Int64} {ps : Int64} {i : Nat} (h : q_rd msk ps i = true) : q_lf msk ps i = q_bit (q_low (q_lf msk ps i)) := by
  have g := (q_bc_one _).mp (of_decide_eq_true h)
  exact q_one_bit g.1 g.2
theorem r_m1 : ∀ k, k < 64 → tb (-1) k = true := by decide +kernel
theorem r_lf_split (msk : Nat → Int64) (ps : Int64) (i : Nat) : msk i = q_lf msk ps i ^^^ (msk i &&& ps) := by
  apply tb_ext
  intro k hk
  unfold q_lf
  rw [tb_xor, tb_and, tb_and, tb_xor, r_m1 k hk]
  cases tb (msk i) k <;> cases tb ps k <;> rfl
theorem r_pl_step {msk : Nat → Int64} {nn i : Nat} {rows : Nat → Int64} {s : q_PS} (hM : ∀ i, i < nn → ∀ k, 38 ≤ k → tb (msk i) k = false) (hE : ∀ i, i < nn → q_rem rows (msk i) 38 = 0) (h : r_pl nn rows s) (hi : i < nn) (hr : q_rd msk s.2.2.2 i = true) : r_pl nn rows (q_ps1 msk i s) := by
  obtain ⟨h1, h2, h3, h4, h5, h6⟩ := h
  obtain ⟨b38, b0⟩ := q_ready hM hi hr
  have e1 := r_lf_one hr
  unfold q_ps1
  generalize q_low (q_lf msk s.2.2.2 i) = b at *
  have eb : rows b = q_bit b := by
    refine r_bit_rows b38 ?_
    have g := hE i hi
    have e0 : q_rem rows (msk i &&& s.2.2.2) 38 = 0 := r_rem_sub0 (fun t ht => h1 t (by rw [tb_and] at ht; exact (Bool.and_eq_true_iff.mp ht).2))
    rw [r_lf_split msk s.2.2.2 i, r_rem_xor, e1, e0, q_xor0] at g
    exact g
  have tbit : ∀ t, tb (s.2.2.2 ||| q_bit b) t = true ↔ (tb s.2.2.2 t = true ∨ t = b) := by
    intro t
    rw [tb_or, tb_bit]
    constructor
    · intro g
      rcases Bool.or_eq_true_iff.mp g with g | g
      · exact Or.inl g
      · exact Or.inr (of_decide_eq_true (Bool.and_eq_true_iff.mp g).2)
    · rintro (g | g)
      · rw [g, Bool.true_or]
      · subst g
        rw [decide_eq_true (show t < 64 by omega), decide_eq_true rfl, Bool.and_true, Bool.or_true]
  refine ⟨fun t ht => ?_, fun j hj => ?_, fun j k hjk hk => ?_, fun t ht => ?_, fun t ht => ?_, fun t ht => ?_⟩
  · rcases (tbit t).mp ht with g | g
    · exact h1 t g
    · subst g; exact ⟨b38, eb⟩
  · have hj : j < s.2.2.1 + 1 := hj
    refine (tbit _).mpr ?_
    show tb s.2.2.2 (va_up s.1 s.2.2.1 b j) = true ∨ va_up s.1 s.2.2.1 b j = b
    unfold va_up
    by_cases c : j = s.2.2.1
    · rw [if_pos c]; exact Or.inr rfl
    · rw [if_neg c]; exact Or.inl (h2 j (by omega))
  · have hk : k < s.2.2.1 + 1 := hk
    show va_up s.1 s.2.2.1 b j ≠ va_up s.1 s.2.2.1 b k
    unfold va_up
    rw [if_neg (show ¬ j = s.2.2.1 by omega)]
    by_cases c : k = s.2.2.1
    · rw [if_pos c]
      intro g
      have := h2 j (by omega)
      rw [g, b0] at this
      cases this
    · rw [if_neg c]; exact h3 j k hjk (by omega)
  · show ∃ i, i < s.2.2.1 + 1 ∧ va_up s.1 s.2.2.1 b i = t
    unfold va_up
    rcases (tbit t).mp ht with g | g
    · obtain ⟨i, q1, q2⟩ := h4 t g
      exact ⟨i, by omega, by rw [if_neg (by omega), q2]⟩
    · exact ⟨s.2.2.1, by omega, by rw [if_pos rfl, g]⟩
  · show ∃ e, e < nn ∧ upd s.2.1 b (nI i) t = nI e
    unfold upd
    by_cases c : t = b
    · exact ⟨i, hi, if_pos c⟩
    · rw [if_neg c]
      rcases (tbit t).mp ht with g | g
      · exact h5 t g
      · exact absurd g c
  · show upd s.2.1 b (nI i) t = -1
    unfold upd
    by_cases c : t = b
    · exfalso
      have g := (tbit t).mpr (Or.inr c)
      have ht2 : tb (s.2.2.2 ||| q_bit b) t = false := ht
      rw [g] at ht2
      cases ht2
    · rw [if_neg c]
      refine h6 t ?_
      cases g : tb s.2.2.2 t with
      | false => rfl
      | true =>
        have g2 := (tbit t).mpr (Or.inl g)
        have ht2 : tb (s.2.2.2 ||| q_bit b) t = false := ht
        rw [g2] at ht2
        cases ht2
theorem r_pl_pn {msk : Nat → Int64} {nn : Nat} {rows : Nat → Int64} (hM : ∀ i, i < nn → ∀ k, 38 ≤ k → tb (msk i) k = false) (hE : ∀ i, i < nn → q_rem rows (msk i) 38 = 0) : ∀ (f : Nat) (s : q_PS), r_pl nn rows s → r_pl nn rows (q_pn msk nn f s) ∧ s.2.2.1 ≤ (q_pn msk nn f s).2.2.1
  | 0, s, h => ⟨h, Nat.le_refl _⟩
  | f + 1, s, h => by
    rw [q_pn]
    cases hf : q_fr (q_rd msk s.2.2.2) nn with
    | none => exact ⟨h, Nat.le_refl _⟩
    | some i =>
      have hp := q_fr_some hf
      obtain ⟨g1, g2⟩ := r_pl_pn hM hE f (q_ps1 msk i s) (r_pl_step hM hE h hp.1 hp.2.1)
      refine ⟨g1, Nat.le_trans ?_ g2⟩
      show s.2.2.1 ≤ s.2.2.1 + 1
      omega
theorem r_pl_up {nn : Nat} {rows rows' : Nat → Int64} {s : q_PS} (h : r_pl nn rows s) (hk : ∀ b, b < 38 → rows b = q_bit b → rows' b = q_bit b) : r_pl (nn + 1) rows' s :=
  ⟨fun b hb => ⟨(h.1 b hb).1, hk b (h.1 b hb).1 (h.1 b hb).2⟩, h.2.1, h.2.2.1, h.2.2.2.1, fun b hb => by obtain ⟨e, q1, q2⟩ := h.2.2.2.2.1 b hb; exact ⟨e, by omega, q2⟩, h.2.2.2.2.2⟩
/-- a state of the class: what its counts rest on -/
def r_st (S P : Nat) (s : q_ST) (dr : Nat) : Prop := q_ok S P s dr ∧ (∀ i, i < s.2.1 → q_rem s.2.2.2.1 (s.1 i) 38 = 0) ∧ r_pl s.2.1 s.2.2.2.1 s.2.2.1 ∧ s.2.2.2.2.2 ≤ s.2.1
