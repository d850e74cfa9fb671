/-! what the methods of the landed class answer, as functions -/
def q_isb (x : Int32) (n : Nat) : Bool := !decide (x < 0) && !decide (nI n ≤ x)
theorem q_isb_ok {b n : Nat} (h : b < n) (hn : n < 2 ^ 31) : q_isb (nI b) n = true := by
  unfold q_isb
  simp [nI_pos (show b < 2 ^ 31 by omega), nI_ge h hn]
def q_can (nn P : Nat) (rows : Nat → Int64) (rv : Nat → Int32) (x : Int64) (v : Int32) : Bool := decide (nn - P < 120) && !q_con rows rv x v
def q_hlp (rows : Nat → Int64) (x : Int64) : Bool := decide (q_rem rows x 38 ≠ 0)
def q_wd (rows : Nat → Int64) (x : Int64) (B : Nat) : Nat := if q_rem rows x 38 = 0 then 0 else q_cnt rows (q_rem rows x 38) B
theorem q_hM_upd {msk : Nat → Int64} {nn : Nat} {x : Int64} (hM : ∀ i, i < nn → ∀ k, 38 ≤ k → tb (msk i) k = false) (hx : ∀ k, 38 ≤ k → tb x k = false) : ∀ i, i < nn + 1 → ∀ k, 38 ≤ k → tb (vp_updL msk nn x i) k = false := by
  intro i hi k hk
  unfold vp_updL
  by_cases h : i = nn
  · simp [h, hx k hk]
  · simp [h, hM i (by omega) k hk]
theorem q_ds_lt {B : Nat} {row : Nat → Nat} (hr : ∀ j, j < B → row j < B) (g : Int64) : ∀ k, k ≤ B → (∀ j, j < B → (q_dr B row g k).1 j < B) ∧ ∀ t, tb (q_ds B row g k) t = true → t < B
  | 0, _ => ⟨hr, fun t h => by rw [show q_ds B row g 0 = 0 from rfl, tb_zero] at h; cases h⟩
  | k + 1, hk => by
    obtain ⟨h1, h2⟩ := q_ds_lt hr g k (by omega)
    have hq : q_hi (q_step (q_dr B row g k).2) % (B - k) < B - k := Nat.mod_lt _ (by omega)
    have h3 : ∀ j, j < B → (q_dr B row g (k + 1)).1 j < B := q_swap_lt h1 (by omega) (by omega)
    refine ⟨h3, fun t ht => ?_⟩
    rw [show q_ds B row g (k + 1) = q_ds B row g k ||| q_bit ((q_dr B row g (k + 1)).1 k) from rfl, tb_or, tb_bit] at ht
    cases h4 : tb (q_ds B row g k) t with
    | true => exact h2 t h4
    | false =>
      rw [h4] at ht
      simp at ht
      rw [ht.2]
      exact h3 k (by omega)
theorem q_set_lt (w : Nat → Nat) (B : Nat) (num : Int32) {t : Nat} (h : tb (q_set w B num) t = true) : t < B := (q_ds_lt (fun _ h => h) (q_g0 num) _ (q_sz_le w B num)).2 t h
theorem q_set_hi (w : Nat → Nat) {B : Nat} (hB : B ≤ 38) (num : Int32) : ∀ k, 38 ≤ k → tb (q_set w B num) k = false := by
  intro k hk
  cases h : tb (q_set w B num) k with
  | false => rfl
  | true =>
    have := q_set_lt w B num h
    omega
theorem q_cov_lt (j : Nat) : ∀ n t, tb (q_cov j n) t = true → t < n
  | 0, t, h => by rw [show q_cov j 0 = 0 from rfl, tb_zero] at h; cases h
  | n + 1, t, h => by
    rw [show q_cov j (n + 1) = if q_cv j n then q_cov j n ||| q_bit n else q_cov j n from rfl] at h
    by_cases c : q_cv j n = true
    · rw [if_pos c, tb_or, tb_bit] at h
      cases h4 : tb (q_cov j n) t with
      | true => have := q_cov_lt j n t h4; omega
      | false =>
        rw [h4] at h
        simp at h
        omega
    · rw [if_neg c] at h
      have := q_cov_lt j n t h
      omega
def q_bx (S j : Nat) : Int64 := q_bit (S + j) ||| q_cov j S
theorem q_bx_lt {S j t : Nat} (h : tb (q_bx S j) t = true) : t < S + j + 1 := by
  rw [show q_bx S j = q_bit (S + j) ||| q_cov j S from rfl, tb_or, tb_bit] at h
  cases h4 : tb (q_cov j S) t with
  | true => have := q_cov_lt j S t h4; omega
  | false =>
    rw [h4] at h
    simp at h
    omega
noncomputable def q_bgR (S : Nat) : Nat → (Nat → Int64) × (Nat → Int32) × Nat
  | 0 => (fun _ => 0, fun _ => nI 0, 0)
  | j + 1 => (q_addR (q_bgR S j).1 (q_rem (q_bgR S j).1 (q_bx S j) 38), q_addV (q_bgR S j).1 (q_bgR S j).2.1 (q_rem (q_bgR S j).1 (q_bx S j) 38) (nI 0 ^^^ q_kv (q_bgR S j).2.1 (q_bx S j) 38), q_addK (q_rem (q_bgR S j).1 (q_bx S j) 38) (q_bgR S j).2.2)
def q_bgM (S : Nat) (msk : Nat → Int64) : Nat → (Nat → Int64)
  | 0 => msk
  | j + 1 => vp_updL (q_bgM S msk j) j (q_bx S j)
theorem q_bgM_hM {S : Nat} (hS : S ≤ 32) (msk : Nat → Int64) : ∀ P, P ≤ 6 → ∀ i, i < P → ∀ k, 38 ≤ k → tb (q_bgM S msk P i) k = false
  | 0, _ => fun i hi => absurd hi (Nat.not_lt_zero _)
  | P + 1, hP => q_hM_upd (q_bgM_hM hS msk P (by omega)) (fun k hk => by
      cases h : tb (q_bx S P) k with
      | false => rfl
      | true => have := q_bx_lt h; omega)
theorem q_pop_0 : ∀ n, q_pop 0 n = 0
  | 0 => rfl
  | n + 1 => by
    unfold q_pop
    rw [tb_zero, q_pop_0 n]
    rfl
theorem q_sum_w {w : Nat → Nat} {d : Nat} : ∀ n, d < n → w d ≤ q_sum w n
  | 0, h => absurd h (Nat.not_lt_zero _)
  | n + 1, h => by
    show w d ≤ q_sum w n + w n
    by_cases e : d = n
    · subst e; omega
    · have := q_sum_w (w := w) (d := d) n (by omega)
      omega
abbrev q_ST : Type := (Nat → Int64) × Nat × q_PS × (Nat → Int64) × (Nat → Int32) × Nat
noncomputable def q_tk (x : Int64) (v : Int32) (s : q_ST) : q_ST := (vp_updL s.1 s.2.1 x, s.2.1 + 1, q_pn (vp_updL s.1 s.2.1 x) (s.2.1 + 1) 38 s.2.2.1, q_addR s.2.2.2.1 (q_rem s.2.2.2.1 x 38), q_addV s.2.2.2.1 s.2.2.2.2.1 (q_rem s.2.2.2.1 x 38) (v ^^^ q_kv s.2.2.2.2.1 x 38), q_addK (q_rem s.2.2.2.1 x 38) s.2.2.2.2.2)
/-- drops from a first number on, taken while they can be -/
noncomputable def q_ra (w : Nat → Nat) (vals : Nat → Int32) (S P : Nat) (first : Int32) : Nat → Nat → q_ST → Nat × q_ST
  | 0, k, s => (k, s)
  | f + 1, k, s => if q_can s.2.1 P s.2.2.2.1 s.2.2.2.2.1 (q_set w (S + P) (first + nI k)) (q_vs vals S (q_set w (S + P) (first + nI k)) P) then q_ra w vals S P first f (k + 1) (q_tk (q_set w (S + P) (first + nI k)) (q_vs vals S (q_set w (S + P) (first + nI k)) P) s) else (k, s)
theorem q_pn_pop {msk : Nat → Int64} {nn : Nat} (hM : ∀ i, i < nn → ∀ k, 38 ≤ k → tb (msk i) k = false) : ∀ (f : Nat) (s : q_PS), s.2.2.1 = q_pop s.2.2.2 38 → (q_pn msk nn f s).2.2.1 = q_pop (q_pn msk nn f s).2.2.2 38
  | 0, s, h => h
  | f + 1, s, h => by
    rw [q_pn]
    cases hf : q_fr (q_rd msk s.2.2.2) nn with
    | none => exact h
    | some i =>
      have hr := q_ready hM (q_fr_some hf).1 (q_fr_some hf).2.1
      refine q_pn_pop hM f _ ?_
      show s.2.2.1 + 1 = q_pop (s.2.2.2 ||| q_bit _) 38
      rw [q_pop_set (by omega) hr.2 38 hr.1, h]
theorem q_can_n {nn P : Nat} {rows : Nat → Int64} {rv : Nat → Int32} {x : Int64} {v : Int32} (h : q_can nn P rows rv x v = true) (hPn : P ≤ nn) (hP : P ≤ 6) : nn < 126 := by
  have := (Bool.and_eq_true _ _ ▸ h : _ ∧ _).1
  have := of_decide_eq_true this
  omega
