/-! values, drops and whole states: the class against the reference -/
theorem q_kv_same {f g : Nat → Int32} {x y : Int64} : ∀ n, (∀ t, t < n → f t = g t) → (∀ t, t < n → tb x t = tb y t) → q_kv f x n = q_kv g y n
  | 0, _, _ => rfl
  | n + 1, h, hx => by
    unfold q_kv
    rw [h n (by omega), hx n (by omega), q_kv_same n (fun t ht => h t (by omega)) (fun t ht => hx t (by omega))]
theorem q_kv_0 (f : Nat → Int32) : ∀ n, q_kv f 0 n = 0
  | 0 => rfl
  | n + 1 => by
    unfold q_kv
    rw [tb_zero, if_neg (by decide), q_kv_0 f n]
theorem q_kv_set {g : Nat → Int32} {x : Int64} {r : Nat} (hr : r < 64) (hx : tb x r = false) : ∀ n, r < n → q_kv g (x ||| q_bit r) n = q_kv g x n ^^^ g r
  | 0, h => absurd h (Nat.not_lt_zero _)
  | n + 1, h => by
    unfold q_kv
    by_cases e : r = n
    · subst e
      have h1 : tb (x ||| q_bit r) r = true := by
        rw [tb_or, tb_bit, decide_eq_true hr, decide_eq_true rfl, Bool.true_and, Bool.or_true]
      have h2 : q_kv g (x ||| q_bit r) r = q_kv g x r := q_kv_same r (fun _ _ => rfl) (fun t ht => by
        rw [tb_or, tb_bit, decide_eq_false (show ¬ t = r by omega), Bool.and_false, Bool.or_false])
      rw [if_pos h1, h2, hx, if_neg (by decide)]
    · have ih := q_kv_set (g := g) hr hx n (by omega)
      have h1 : tb (x ||| q_bit r) n = tb x n := by
        rw [tb_or, tb_bit, decide_eq_false (show ¬ n = r by omega), Bool.and_false, Bool.or_false]
      rw [h1, ih]
      by_cases c : tb x n = true
      · rw [if_pos c, if_pos c, Int32.xor_assoc, Int32.xor_comm (g r), ← Int32.xor_assoc]
      · rw [if_neg c, if_neg c]
theorem q_bit_or (b : Nat) : q_bit b = 0 ||| q_bit b := tb_ext (fun k _ => by rw [tb_or, tb_zero, Bool.false_or])
theorem q_kv_bit (f : Nat → Int32) {b : Nat} (hb : b < 64) {n : Nat} (h : b < n) : q_kv f (q_bit b) n = f b := by
  rw [q_bit_or, q_kv_set hb (tb_zero b) n h, q_kv_0, Int32.zero_xor]
theorem tb_cov (j : Nat) : ∀ n t, t < 64 → tb (q_cov j n) t = (decide (t < n) && q_cv j t)
  | 0, t, _ => by
    show tb 0 t = _
    rw [tb_zero, decide_eq_false (Nat.not_lt_zero t)]
    rfl
  | n + 1, t, ht => by
    have ih := tb_cov j n t ht
    show tb (if q_cv j n then q_cov j n ||| q_bit n else q_cov j n) t = _
    by_cases e : t = n
    · subst e
      rw [decide_eq_true (show t < t + 1 by omega), Bool.true_and]
      rw [decide_eq_false (Nat.lt_irrefl t), Bool.false_and] at ih
      by_cases c : q_cv j t = true
      · rw [if_pos c, tb_or, tb_bit, decide_eq_true ht, decide_eq_true rfl, c, Bool.true_and, Bool.or_true]
      · rw [if_neg c, ih]
        cases hx : q_cv j t with
        | false => rfl
        | true => exact absurd hx c
    · have h1 : decide (t < n + 1) = decide (t < n) := decide_eq_decide.mpr (by omega)
      rw [h1]
      by_cases c : q_cv j n = true
      · rw [if_pos c, tb_or, tb_bit, decide_eq_false e, Bool.and_false, Bool.or_false, ih]
      · rw [if_neg c, ih]
theorem q_vm_kv (vals : Nat → Int32) {S : Nat} (hS : S ≤ 32) (b : Nat) : ∀ n, n ≤ S → q_vm vals S b n = q_kv vals (q_cov (b - S) S) n
  | 0, _ => rfl
  | n + 1, h => by
    have ih := q_vm_kv vals hS b n (by omega)
    show q_vm vals S b n ^^^ (if q_cv (b - S) n then vals n else nI 0) = if tb (q_cov (b - S) S) n then q_kv vals (q_cov (b - S) S) n ^^^ vals n else q_kv vals (q_cov (b - S) S) n
    rw [ih, tb_cov _ _ _ (by omega), decide_eq_true (show n < S by omega), Bool.true_and]
    by_cases c : q_cv (b - S) n = true
    · rw [if_pos c, if_pos c]
    · rw [if_neg c, if_neg c, q_kv0]
theorem q_va_vb (vals : Nat → Int32) {S : Nat} (hS : S ≤ 32) (b : Nat) : q_va vals S b = q_vb vals S b := by
  unfold q_va q_vb
  by_cases h : b < S
  · rw [if_pos h, if_pos h, q_kv_bit vals (by omega) h]
  · rw [if_neg h, if_neg h, q_vm_kv vals hS b S (Nat.le_refl _)]
theorem q_vs_kv (vals : Nat → Int32) {S : Nat} (hS : S ≤ 32) (x : Int64) : ∀ i, q_vs vals S x i = q_kv (q_vb vals S) x (S + i)
  | 0 => q_kv_same S (fun t ht => by unfold q_vb; rw [if_pos ht, q_kv_bit vals (by omega) ht]) (fun _ _ => rfl)
  | i + 1 => by
    have ih := q_vs_kv vals hS x i
    show (if tb x (S + i) then q_vs vals S x i ^^^ q_vb vals S (S + i) else q_vs vals S x i) = _
    rw [ih]
    rfl
def q_inj (B : Nat) (r : Nat → Nat) : Prop := ∀ i j, i < B → j < B → r i = r j → i = j
def q_tr (i j t : Nat) : Nat := if t = j then i else if t = i then j else t
theorem q_tr_inj {i j a b : Nat} (h : q_tr i j a = q_tr i j b) : a = b := by
  unfold q_tr at h
  by_cases h1 : a = j
  · rw [if_pos h1] at h
    by_cases h3 : b = j
    · omega
    · rw [if_neg h3] at h
      by_cases h4 : b = i
      · rw [if_pos h4] at h; omega
      · rw [if_neg h4] at h; omega
  · rw [if_neg h1] at h
    by_cases h2 : a = i
    · rw [if_pos h2] at h
      by_cases h3 : b = j
      · rw [if_pos h3] at h; omega
      · rw [if_neg h3] at h
        by_cases h4 : b = i
        · omega
        · rw [if_neg h4] at h; omega
    · rw [if_neg h2] at h
      by_cases h3 : b = j
      · rw [if_pos h3] at h; omega
      · rw [if_neg h3] at h
        by_cases h4 : b = i
        · rw [if_pos h4] at h; omega
        · rw [if_neg h4] at h; omega
theorem q_swap_tr (ro : Nat → Nat) (i j t : Nat) : va_up (va_up ro i (ro j)) j (ro i) t = ro (q_tr i j t) := by
  unfold va_up q_tr
  by_cases h1 : t = j
  · rw [if_pos h1, if_pos h1]
  · rw [if_neg h1, if_neg h1]
    by_cases h2 : t = i
    · rw [if_pos h2, if_pos h2]
    · rw [if_neg h2, if_neg h2]
theorem q_tr_lt {B i j t : Nat} (hi : i < B) (hj : j < B) (ht : t < B) : q_tr i j t < B := by
  unfold q_tr
  by_cases h1 : t = j
  · rw [if_pos h1]; exact hi
  · rw [if_neg h1]
    by_cases h2 : t = i
    · rw [if_pos h2]; exact hj
    · rw [if_neg h2]; exact ht
theorem q_dr_inj {B : Nat} {row : Nat → Nat} (h : q_inj B row) (g : Int64) : ∀ k, k ≤ B → q_inj B (q_dr B row g k).1
  | 0, _ => h
  | k + 1, hk => by
    have ih := q_dr_inj h g k (by omega)
    have hq : q_hi (q_step (q_dr B row g k).2) % (B - k) < B - k := Nat.mod_lt _ (by omega)
    intro a b ha hb e
    have e' : va_up (va_up (q_dr B row g k).1 k ((q_dr B row g k).1 (k + q_hi (q_step (q_dr B row g k).2) % (B - k)))) (k + q_hi (q_step (q_dr B row g k).2) % (B - k)) ((q_dr B row g k).1 k) a = va_up (va_up (q_dr B row g k).1 k ((q_dr B row g k).1 (k + q_hi (q_step (q_dr B row g k).2) % (B - k)))) (k + q_hi (q_step (q_dr B row g k).2) % (B - k)) ((q_dr B row g k).1 k) b := e
    rw [q_swap_tr, q_swap_tr] at e'
    exact q_tr_inj (ih _ _ (q_tr_lt (by omega) (by omega) ha) (q_tr_lt (by omega) (by omega) hb) e')
theorem q_or_mem (row : Nat → Nat) : ∀ k t, tb (q_or row k) t = true → ∃ i, i < k ∧ row i = t
  | 0, t, h => by rw [show q_or row 0 = 0 from rfl, tb_zero] at h; cases h
  | k + 1, t, h => by
    rw [show q_or row (k + 1) = q_or row k ||| q_bit (row k) from rfl, tb_or] at h
    cases h4 : tb (q_or row k) t with
    | true =>
      obtain ⟨i, hi, e⟩ := q_or_mem row k t h4
      exact ⟨i, by omega, e⟩
    | false =>
      rw [h4, tb_bit] at h
      simp at h
      exact ⟨k, by omega, h.2.symm⟩
theorem q_nm_kv (vals : Nat → Int32) {S B : Nat} (hS : S ≤ 32) (hB : B ≤ 38) {row : Nat → Nat} (hi : q_inj B row) (hl : ∀ i, i < B → row i < B) : ∀ k, k ≤ B → q_nm vals S row k = q_kv (q_vb vals S) (q_or row k) B
  | 0, _ => (q_kv_0 _ _).symm
  | k + 1, hk => by
    have ih := q_nm_kv vals hS hB hi hl k (by omega)
    have hx : tb (q_or row k) (row k) = false := by
      cases h : tb (q_or row k) (row k) with
      | false => rfl
      | true =>
        obtain ⟨i, h1, h2⟩ := q_or_mem row k _ h
        have := hi i k (by omega) (by omega) h2
        omega
    have hr := hl k (by omega)
    show q_nm vals S row k ^^^ q_va vals S (row k) = q_kv (q_vb vals S) (q_or row k ||| q_bit (row k)) B
    rw [q_kv_set (by omega) hx B hr, ih, q_va_vb vals hS]
theorem q_nmW_vs (w : Nat → Nat) (vals : Nat → Int32) {S P : Nat} (hS : S ≤ 32) (hP : P ≤ 6) (num : Int32) : q_nmW w vals S (S + P) num = q_vs vals S (q_set w (S + P) num) P := by
  unfold q_nmW
  rw [q_vs_kv vals hS]
  have h := q_nm_kv vals hS (show S + P ≤ 38 by omega) (row := q_blk w (S + P) num) (q_dr_inj (row := fun j => j) (fun _ _ _ _ e => e) (q_g0 num) _ (q_sz_le w (S + P) num)) (q_ds_lt (fun _ h => h) (q_g0 num) _ (q_sz_le w (S + P) num)).1 _ (q_sz_le w (S + P) num)
  have e : q_or (q_blk w (S + P) num) (q_sz w (S + P) num) = q_set w (S + P) num := q_or_ds (fun j => j) (q_g0 num) (q_sz w (S + P) num)
  rw [e] at h
  exact h
theorem q_x32 (v k : Int32) : v ^^^ k = 0 ↔ k = v := by
  constructor
  · intro h
    have : v ^^^ k ^^^ k = 0 ^^^ k := by rw [h]
    rw [Int32.xor_assoc, Int32.xor_self, Int32.xor_zero, Int32.zero_xor] at this
    exact this.symm
  · intro h
    rw [h, Int32.xor_self]
theorem q_ref_can {S P dr nn : Nat} {rows : Nat → Int64} {rv : Nat → Int32} (I : q_inv (S + P) rows rv) (hB : S + P ≤ 38) (hd : nn = dr + P) (hl : dr ≤ 120) (x : Int64) (v : Int32) : q_ref dr rows rv x v (S + P) = !q_can nn P rows rv x v := by
  unfold q_ref q_can q_con
  rw [q_rem38 I hB, q_kv38 I hB]
  have h1 : decide (dr = 120) = !decide (nn - P < 120) := by
    by_cases c : dr = 120
    · rw [decide_eq_true c, decide_eq_false (show ¬ nn - P < 120 by omega)]; rfl
    · rw [decide_eq_false c, decide_eq_true (show nn - P < 120 by omega)]; rfl
  have h2 : decide (v ^^^ q_kv rv x 38 ≠ 0) = decide (q_kv rv x 38 ≠ v) := decide_eq_decide.mpr (not_congr (q_x32 _ _))
  rw [h1, h2]
  cases decide (nn - P < 120) <;> cases decide (q_rem rows x 38 = 0) <;> cases decide (q_kv rv x 38 ≠ v) <;> rfl
/-- a state of the class that is one of the reference's -/
def q_ok (S P : Nat) (s : q_ST) (dr : Nat) : Prop := q_inv (S + P) s.2.2.2.1 s.2.2.2.2.1 ∧ s.2.2.2.2.2 = q_rko s.2.2.2.1 (S + P) ∧ s.2.1 = dr + P ∧ dr ≤ 120 ∧ (∀ i, i < s.2.1 → ∀ k, 38 ≤ k → tb (s.1 i) k = false) ∧ s.2.2.1.2.2.1 = q_pop s.2.2.1.2.2.2 38
def q_mS (s : q_ST) (dr : Nat) : q_ST := (s.1, s.2.1, s.2.2.1, s.2.2.2.1, s.2.2.2.2.1, dr)
theorem q_tk_ok {S P : Nat} (hS : S ≤ 32) (hP : P ≤ 6) {s : q_ST} {dr : Nat} (h : q_ok S P s dr) (hd : dr < 120) {x : Int64} (hx : ∀ t, S + P ≤ t → tb x t = false) (v : Int32) : q_mtk (S + P) x v (q_mS s dr) = q_mS (q_tk x v s) (dr + 1) ∧ q_ok S P (q_tk x v s) (dr + 1) := by
  obtain ⟨I, hr, hn, hl, hM, hp⟩ := h
  have hB : S + P ≤ 38 := by omega
  have hR := q_red_of I hB hx
  have hM' := q_hM_upd hM (fun k hk => hx k (by omega))
  refine ⟨?_, ?_, ?_, ?_, by omega, hM', q_pn_pop hM' 38 s.2.2.1 hp⟩
  · unfold q_mtk q_mS q_tk
    simp only [q_rem38 I hB, q_kv38 I hB, q_lay_addR I hB hR, q_lay_addV I hB hR]
  · show q_inv (S + P) (q_addR s.2.2.2.1 (q_rem s.2.2.2.1 x 38)) (q_addV s.2.2.2.1 s.2.2.2.2.1 (q_rem s.2.2.2.1 x 38) (v ^^^ q_kv s.2.2.2.2.1 x 38))
    rw [← q_lay_addR I hB hR, ← q_lay_addV I hB hR]
    exact q_inv_add I hB hR _
  · show q_addK (q_rem s.2.2.2.1 x 38) s.2.2.2.2.2 = q_rko (q_addR s.2.2.2.1 (q_rem s.2.2.2.1 x 38)) (S + P)
    rw [← q_lay_addR I hB hR]
    exact q_rank_add I hB hR hr
  · show s.2.1 + 1 = dr + 1 + P
    omega
theorem q_set_B (w : Nat → Nat) (B : Nat) (num : Int32) : ∀ t, B ≤ t → tb (q_set w B num) t = false := by
  intro t ht
  cases h : tb (q_set w B num) t with
  | false => rfl
  | true =>
    have := q_set_lt w B num h
    omega
theorem q_ra_ok (w : Nat → Nat) (vals : Nat → Int32) {S P : Nat} (hS : S ≤ 32) (hP : P ≤ 6) (first : Int32) : ∀ (f k : Nat) (s : q_ST) (dr : Nat), q_ok S P s dr → ∃ dr', q_mra w vals S (S + P) first f k (q_mS s dr) = ((q_ra w vals S P first f k s).1, q_mS (q_ra w vals S P first f k s).2 dr') ∧ q_ok S P (q_ra w vals S P first f k s).2 dr'
  | 0, k, s, dr, h => ⟨dr, rfl, h⟩
  | f + 1, k, s, dr, h => by
    have hB : S + P ≤ 38 := by omega
    have e1 := q_nmW_vs w vals hS hP (first + nI k)
    have e2 := q_ref_can h.1 hB h.2.2.1 h.2.2.2.1 (q_set w (S + P) (first + nI k)) (q_vs vals S (q_set w (S + P) (first + nI k)) P)
    unfold q_mra q_ra
    show ∃ dr', (if q_ref dr s.2.2.2.1 s.2.2.2.2.1 (q_set w (S + P) (first + nI k)) (q_nmW w vals S (S + P) (first + nI k)) (S + P) then (k, q_mS s dr) else q_mra w vals S (S + P) first f (k + 1) (q_mtk (S + P) (q_set w (S + P) (first + nI k)) (q_nmW w vals S (S + P) (first + nI k)) (q_mS s dr))) = _ ∧ _
    rw [e1, e2]
    by_cases c : q_can s.2.1 P s.2.2.2.1 s.2.2.2.2.1 (q_set w (S + P) (first + nI k)) (q_vs vals S (q_set w (S + P) (first + nI k)) P) = true
    · have hd : dr < 120 := by
        have := of_decide_eq_true (Bool.and_eq_true _ _ ▸ c : _ ∧ _).1
        have := h.2.2.1
        omega
      obtain ⟨g1, g2⟩ := q_tk_ok hS hP h hd (q_set_B w (S + P) (first + nI k)) (q_vs vals S (q_set w (S + P) (first + nI k)) P)
      rw [c, g1]
      exact q_ra_ok w vals hS hP first f (k + 1) _ (dr + 1) g2
    · have c' : q_can s.2.1 P s.2.2.2.1 s.2.2.2.2.1 (q_set w (S + P) (first + nI k)) (q_vs vals S (q_set w (S + P) (first + nI k)) P) = false := by
        cases hx : q_can s.2.1 P s.2.2.2.1 s.2.2.2.2.1 (q_set w (S + P) (first + nI k)) (q_vs vals S (q_set w (S + P) (first + nI k)) P) with
        | false => rfl
        | true => exact absurd hx c
      rw [c']
      exact ⟨dr, rfl, h⟩
theorem q_bx_B {S P j : Nat} (hj : j < P) : ∀ t, S + P ≤ t → tb (q_bx S j) t = false := by
  intro t ht
  cases h : tb (q_bx S j) t with
  | false => rfl
  | true =>
    have := q_bx_lt h
    omega
theorem q_bg_mg {S P : Nat} (hS : S ≤ 32) (hP : P ≤ 6) : ∀ j, j ≤ P → q_mgR S (S + P) j = ((q_bgR S j).1, (q_bgR S j).2.1) ∧ q_inv (S + P) (q_bgR S j).1 (q_bgR S j).2.1 ∧ (q_bgR S j).2.2 = q_rko (q_bgR S j).1 (S + P)
  | 0, _ => ⟨rfl, q_inv_0 _, (q_rko_0 _).symm⟩
  | j + 1, hj => by
    obtain ⟨e, I, hr⟩ := q_bg_mg hS hP j (by omega)
    have hB : S + P ≤ 38 := by omega
    have hR := q_red_of I hB (q_bx_B (S := S) (show j < P by omega))
    refine ⟨?_, ?_, ?_⟩
    · show (q_layR (q_mgR S (S + P) j).1 (q_rdF (q_mgR S (S + P) j).1 (q_bx S j) (S + P)) (S + P), q_layV (q_mgR S (S + P) j).1 (q_mgR S (S + P) j).2 (q_rdF (q_mgR S (S + P) j).1 (q_bx S j) (S + P)) (q_rnF (q_mgR S (S + P) j).1 (q_mgR S (S + P) j).2 (q_bx S j) (nI 0) (S + P)) (S + P)) = (q_addR (q_bgR S j).1 (q_rem (q_bgR S j).1 (q_bx S j) 38), q_addV (q_bgR S j).1 (q_bgR S j).2.1 (q_rem (q_bgR S j).1 (q_bx S j) 38) (nI 0 ^^^ q_kv (q_bgR S j).2.1 (q_bx S j) 38))
      rw [e]
      simp only [q_rem38 I hB, q_kv38 I hB, q_lay_addR I hB hR, q_lay_addV I hB hR]
    · show q_inv (S + P) (q_addR (q_bgR S j).1 (q_rem (q_bgR S j).1 (q_bx S j) 38)) (q_addV (q_bgR S j).1 (q_bgR S j).2.1 (q_rem (q_bgR S j).1 (q_bx S j) 38) (nI 0 ^^^ q_kv (q_bgR S j).2.1 (q_bx S j) 38))
      rw [← q_lay_addR I hB hR, ← q_lay_addV I hB hR]
      exact q_inv_add I hB hR _
    · show q_addK (q_rem (q_bgR S j).1 (q_bx S j) 38) (q_bgR S j).2.2 = q_rko (q_addR (q_bgR S j).1 (q_rem (q_bgR S j).1 (q_bx S j) 38)) (S + P)
      rw [← q_lay_addR I hB hR]
      exact q_rank_add I hB hR hr
theorem q_hlm_hlp {S P : Nat} (hB : S + P ≤ 38) {rows : Nat → Int64} {rv : Nat → Int32} (I : q_inv (S + P) rows rv) (x : Int64) : q_hlm rows (S + P) x = q_hlp rows x := by
  unfold q_hlm q_hlp
  rw [q_rem38 I hB]
theorem q_wd_dmo {S P : Nat} (hB : S + P ≤ 38) {rows : Nat → Int64} {rv : Nat → Int32} (I : q_inv (S + P) rows rv) {x : Int64} (hx : ∀ t, S + P ≤ t → tb x t = false) : q_dmo (q_layR rows (q_rdF rows x (S + P)) (S + P)) (S + P) = q_dmo rows (S + P) + q_wd rows x (S + P) := by
  rw [q_rem38 I hB]
  unfold q_wd
  by_cases z : q_rem rows x 38 = 0
  · rw [z, if_pos rfl]
    unfold q_layR
    rw [if_pos rfl]
    rfl
  · rw [if_neg z]
    exact q_dmo_add I hB (q_red_of I hB hx) z (S + P) (by omega)
theorem q_sumX_sum (w : Nat → Nat) {d : Nat} (h1 : 1 ≤ d) : ∀ n, q_sumX w d n + (if d ≤ n then w (d - 1) else 0) = q_sum w n
  | 0 => by rw [if_neg (by omega)]; rfl
  | n + 1 => by
    have ih := q_sumX_sum w h1 n
    show q_sumX w d n + (if n + 1 = d then 0 else w n) + (if d ≤ n + 1 then w (d - 1) else 0) = q_sum w n + w n
    rw [← ih]
    by_cases e : n + 1 = d
    · rw [if_pos e, if_pos (show d ≤ n + 1 by omega), if_neg (show ¬ d ≤ n by omega), show d - 1 = n by omega]
    · rw [if_neg e]
      by_cases g : d ≤ n
      · rw [if_pos g, if_pos (show d ≤ n + 1 by omega)]; omega
      · rw [if_neg g, if_neg (show ¬ d ≤ n + 1 by omega)]; omega
theorem q_sumX12 (w : Nat → Nat) {d : Nat} (h1 : 1 ≤ d) (h2 : d ≤ 12) : q_sumX w d 12 = q_sum w 12 - w (d - 1) := by
  have h := q_sumX_sum w h1 12
  rw [if_pos h2] at h
  omega
theorem q_wi_pk (x : Int32) {pk : Nat} (h : pk ≤ 38) : q_wi x (nI 0) (nI pk - nI 1) = q_isb x pk := by
  rcases Nat.eq_zero_or_pos pk with z | z
  · subst z
    unfold q_wi q_isb
    by_cases g : x < 0
    · have g' : x < nI 0 := g
      simp [g, g']
    · have g2 : nI 0 ≤ x := Int32.not_lt.mp g
      have g3 : nI 0 - nI 1 < x := Int32.lt_of_lt_of_le (by decide) g2
      simp [g, g2, g3]
  · have e : nI pk - nI 1 = nI (pk - 1) := by
      revert h z
      revert pk
      decide +kernel
    rw [e]
    exact q_wi_isb x z (by omega)
