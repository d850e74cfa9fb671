/-! what the methods of the reference answer, as functions -/
def q_w1 (w : Nat → Nat) : Nat → Nat
  | 0 => 0
  | d + 1 => w d
theorem q_w1_up (w : Nat → Nat) {d : Nat} (h : 1 ≤ d) (x : Nat) : va_up (q_w1 w) d x = q_w1 (va_up w (d - 1) x) := by
  funext j
  cases j with
  | zero => simp [va_up, q_w1, show ¬ 0 = d by omega]
  | succ j =>
    unfold va_up q_w1
    by_cases e : j + 1 = d
    · rw [if_pos e]
      show x = if j = d - 1 then x else w j
      rw [if_pos (by omega)]
    · rw [if_neg e]
      show w j = if j = d - 1 then x else w j
      rw [if_neg (by omega)]
def q_wi (x y z : Int32) : Bool := !decide (x < y) && !decide (z < x)
theorem q_wi_ok {a b c : Nat} (h1 : a ≤ b) (h2 : b ≤ c) (hc : c < 2 ^ 31) : q_wi (nI b) (nI a) (nI c) = true := by
  unfold q_wi
  simp [nI_nlt h1 (show b < 2 ^ 31 by omega), nI_nlt h2 hc]
theorem q_wi_isb (x : Int32) {B : Nat} (h1 : 1 ≤ B) (h2 : B < 2 ^ 31) : q_wi x (nI 0) (nI (B - 1)) = q_isb x B := by
  unfold q_wi q_isb
  rcases pk_ix x h2 with h | h | ⟨j, hj, e⟩
  · have : x < nI 0 := h
    simp [h, this]
  · have h3 : ¬ x < 0 := fun g => nI_pos h2 (Int32.lt_of_le_of_lt h g)
    have h4 : nI (B - 1) < x := Int32.lt_of_lt_of_le (nI_lt (show B - 1 < B by omega) h2) h
    simp [h, h4]
  · subst e
    have h3 : ¬ nI j < nI 0 := nI_nlt (Nat.zero_le _) (by omega)
    have h3' : ¬ nI j < 0 := h3
    have h4 : ¬ nI (B - 1) < nI j := nI_nlt (by omega) (by omega)
    have h5 : ¬ nI B ≤ nI j := nI_ge hj h2
    simp [h3, h3', h4, h5]
theorem q_tst0 {x : Int64} {k : Nat} (hk : k < 64) (z : (x >>> ((nI k).toInt64 &&& 63)) &&& 1 = 0) : tb x k = false := (q_test x hk).2.mp z
theorem q_tstN0 {x : Int64} {k : Nat} (hk : k < 64) (z : (x >>> ((nI k).toInt64 &&& 63)) &&& 1 ≠ 0) : tb x k = true := by
  cases h : tb x k with
  | true => rfl
  | false => exact absurd ((q_test x hk).2.mpr h) z
theorem q_tst1 {x : Int64} {k : Nat} (hk : k < 64) (z : (x >>> ((nI k).toInt64 &&& 63)) &&& 1 = 1) : tb x k = true := (q_test x hk).1.mp z
theorem q_tstN1 {x : Int64} {k : Nat} (hk : k < 64) (z : (x >>> ((nI k).toInt64 &&& 63)) &&& 1 ≠ 1) : tb x k = false := by
  cases h : tb x k with
  | false => rfl
  | true => exact absurd ((q_test x hk).1.mpr h) z
def q_vm (vals : Nat → Int32) (S b : Nat) : Nat → Int32
  | 0 => nI 0
  | i + 1 => q_vm vals S b i ^^^ (if q_cv (b - S) i then vals i else nI 0)
def q_va (vals : Nat → Int32) (S b : Nat) : Int32 := if b < S then vals b else q_vm vals S b S
def q_nm (vals : Nat → Int32) (S : Nat) (row : Nat → Nat) : Nat → Int32
  | 0 => nI 0
  | p + 1 => q_nm vals S row p ^^^ q_va vals S (row p)
def q_rdF (rows : Nat → Int64) (x : Int64) : Nat → Int64
  | 0 => x
  | k + 1 => if tb (q_rdF rows x k) k then (if rows k ≠ 0 then q_rdF rows x k ^^^ rows k else q_rdF rows x k) else q_rdF rows x k
def q_rnF (rows : Nat → Int64) (rv : Nat → Int32) (x : Int64) (v : Int32) : Nat → Int32
  | 0 => v
  | k + 1 => if tb (q_rdF rows x k) k then (if rows k ≠ 0 then q_rnF rows rv x v k ^^^ rv k else q_rnF rows rv x v k) else q_rnF rows rv x v k
noncomputable def q_layR (rows : Nat → Int64) (red : Int64) (B : Nat) : Nat → Int64 := if red = 0 then rows else vp_updL (q_elR rows red (q_low red) B) (q_low red) red
noncomputable def q_layV (rows : Nat → Int64) (rv : Nat → Int32) (red : Int64) (rn : Int32) (B : Nat) : Nat → Int32 := if red = 0 then rv else upd (q_elV rows rv rn (q_low red) B) (q_low red) rn
def q_rko (rows : Nat → Int64) : Nat → Nat
  | 0 => 0
  | k + 1 => q_rko rows k + (if rows k ≠ 0 then 1 else 0)
def q_dmo (rows : Nat → Int64) : Nat → Nat
  | 0 => 0
  | k + 1 => q_dmo rows k + (if rows k = q_bit k then 1 else 0)
def q_sumX (w : Nat → Nat) (d : Nat) : Nat → Nat
  | 0 => 0
  | k + 1 => q_sumX w d k + (if k + 1 = d then 0 else w k)
def q_cp (f g : Nat → Int32) (k : Nat) : Nat → Int32 := fun j => if j < k then f j else g j
def q_cpL (f g : Nat → Int64) (k : Nat) : Nat → Int64 := fun j => if j < k then f j else g j
theorem q_cp_0 (f g : Nat → Int32) : g = q_cp f g 0 := by funext j; simp [q_cp]
theorem q_cpL_0 (f g : Nat → Int64) : g = q_cpL f g 0 := by funext j; simp [q_cpL]
theorem q_cp_1 (f g : Nat → Int32) (k : Nat) : upd (q_cp f g k) k (f k) = q_cp f g (k + 1) := by
  funext j
  unfold upd q_cp
  by_cases h : j = k
  · simp [h]
  · have : j < k + 1 ↔ j < k := by omega
    simp [h, this]
theorem q_cpL_1 (f g : Nat → Int64) (k : Nat) : vp_updL (q_cpL f g k) k (f k) = q_cpL f g (k + 1) := by
  funext j
  unfold vp_updL q_cpL
  by_cases h : j = k
  · simp [h]
  · have : j < k + 1 ↔ j < k := by omega
    simp [h, this]
theorem q_cp_at (f g : Nat → Int32) {k j : Nat} (h : j < k) : q_cp f g k j = f j := by simp [q_cp, h]
theorem q_cpL_at (f g : Nat → Int64) {k j : Nat} (h : j < k) : q_cpL f g k j = f j := by simp [q_cpL, h]
theorem q_low_lt {x : Int64} (h : x ≠ 0) : q_low x < 64 ∧ tb x (q_low x) = true ∧ ∀ j, j < q_low x → tb x j = false := by
  rcases q_low_spec x with ⟨_, b⟩ | h2
  · exact absurd b h
  · exact h2
theorem q_low_at {x : Int64} {b : Nat} (h1 : tb x b = true) (h2 : b ≤ q_low x) : b = q_low x := by
  rcases Nat.lt_or_ge b (q_low x) with a | a
  · have hx : x ≠ 0 := fun e => by rw [e, tb_zero] at h1; cases h1
    have := (q_low_lt hx).2.2 b a
    rw [h1] at this
    cases this
  · omega
theorem q_low_step {x : Int64} (hx : x ≠ 0) {b : Nat} (h1 : tb x b = false) (h2 : b ≤ q_low x) : b + 1 ≤ q_low x := by
  rcases Nat.lt_or_ge b (q_low x) with a | a
  · exact a
  · have e : b = q_low x := by omega
    rw [e, (q_low_lt hx).2.1] at h1
    cases h1
theorem q_pn_full {msk : Nat → Int64} {nn : Nat} (hM : ∀ i, i < nn → ∀ k, 38 ≤ k → tb (msk i) k = false) : ∀ (m f : Nat) (s : q_PS), s.2.2.1 = q_pop s.2.2.2 38 → 38 - s.2.2.1 ≤ f → q_pn msk nn (f + m) s = q_pn msk nn f s
  | m, 0, s, h, hf => by
    cases m with
    | zero => rfl
    | succ m =>
      rw [Nat.zero_add, q_pn, q_pn]
      cases hr : q_fr (q_rd msk s.2.2.2) nn with
      | none => rfl
      | some i =>
        have h1 := q_ready hM (q_fr_some hr).1 (q_fr_some hr).2.1
        have h2 := q_pop_lt h1.2 38 h1.1
        omega
  | m, f + 1, s, h, hf => by
    rw [show f + 1 + m = (f + m) + 1 by omega, q_pn, q_pn]
    cases hr : q_fr (q_rd msk s.2.2.2) nn with
    | none => rfl
    | some i =>
      have h1 := q_ready hM (q_fr_some hr).1 (q_fr_some hr).2.1
      have e : (q_ps1 msk i s).2.2.1 = q_pop (q_ps1 msk i s).2.2.2 38 := by
        show s.2.2.1 + 1 = q_pop (s.2.2.2 ||| q_bit _) 38
        rw [q_pop_set (by omega) h1.2 38 h1.1, h]
      refine q_pn_full hM m f _ e ?_
      show 38 - (s.2.2.1 + 1) ≤ f
      omega
theorem q_fr_of {p : Nat → Bool} {n i : Nat} (h1 : i < n) (h2 : p i = true) (h3 : ∀ j, j < i → p j = false) : q_fr p n = some i := by
  unfold q_fr
  rw [List.find?_range_eq_some]
  exact ⟨h2, List.mem_range.mpr h1, fun j hj => by rw [h3 j hj]; rfl⟩
theorem q_fr_nof {p : Nat → Bool} {n : Nat} (h : ∀ j, j < n → p j = false) : q_fr p n = none := by
  unfold q_fr
  rw [List.find?_eq_none]
  intro j hj
  rw [h j (List.mem_range.mp hj)]
  decide
/-- one round of the reference's peeling -/
theorem q_peel_case {msk : Nat → Int64} {nn pk1 pk2 mo2 : Nat} {po1 po2 : Nat → Nat} {pb1 pb2 : Nat → Int32} {ps1 ps2 : Int64} (hM : ∀ i, i < nn → ∀ k, 38 ≤ k → tb (msk i) k = false) (hp1 : pk1 = q_pop ps1 38)
    (hA : mo2 = 0 → (po2, pb2, pk2, ps2) = (po1, pb1, pk1, ps1)) (hB : mo2 ≠ 0 → mo2 = 1 ∧ ∃ i, q_fr (q_rd msk ps1) nn = some i ∧ (po2, pb2, pk2, ps2) = q_ps1 msk i (po1, pb1, pk1, ps1)) :
    q_pn msk nn (38 - pk2) (po2, pb2, pk2, ps2) = q_pn msk nn (38 - pk1) (po1, pb1, pk1, ps1) ∧ pk2 = q_pop ps2 38 ∧ mo2 ≤ 1 ∧ 2 * (38 - pk2) + mo2 < 2 * (38 - pk1) + 1 ∧ pk1 ≤ pk2 := by
  by_cases h : mo2 = 0
  · have e := hA h
    simp only [Prod.mk.injEq] at e
    obtain ⟨e1, e2, e3, e4⟩ := e
    subst e1; subst e2; subst e3; subst e4
    exact ⟨rfl, hp1, by omega, by omega, Nat.le_refl _⟩
  · obtain ⟨h1, i, hi, e⟩ := hB h
    have hr := q_ready hM (q_fr_some hi).1 (q_fr_some hi).2.1
    have hl := q_pop_lt hr.2 38 hr.1
    have e3 : pk2 = pk1 + 1 := congrArg (fun s : q_PS => s.2.2.1) e
    have e4 : ps2 = ps1 ||| q_bit (q_low (q_lf msk ps1 i)) := congrArg (fun s : q_PS => s.2.2.2) e
    refine ⟨?_, ?_, by omega, by omega, by omega⟩
    · rw [e, e3, show 38 - pk1 = (38 - (pk1 + 1)) + 1 by omega]
      rw [q_pn]
      simp only [hi]
    · rw [e3, e4, q_pop_set (by omega) hr.2 38 hr.1, hp1]
theorem q_rowS_lt (row : Nat → Nat) (w : Nat → Nat) (B : Nat) (num : Int32) (i : Nat) (hi : i < B) : q_rowS row w B num i < B := (q_ds_lt (q_line_lt row) (q_g0 num) _ (q_sz_le w B num)).1 i hi
def q_or (row : Nat → Nat) : Nat → Int64
  | 0 => 0
  | k + 1 => q_or row k ||| q_bit (row k)
theorem q_dr_keep {B : Nat} (row : Nat → Nat) (g : Int64) : ∀ k j, j < k → (q_dr B row g (k + 1)).1 j = (q_dr B row g k).1 j := by
  intro k j hj
  show va_up (va_up (q_dr B row g k).1 k _) (k + _) _ j = _
  unfold va_up
  rw [if_neg (by omega), if_neg (by omega)]
theorem q_dr_keeps {B : Nat} (row : Nat → Nat) (g : Int64) (k j : Nat) (hj : j < k) : ∀ m, (q_dr B row g (k + m)).1 j = (q_dr B row g k).1 j
  | 0 => rfl
  | m + 1 => by rw [show k + (m + 1) = (k + m) + 1 by omega, q_dr_keep row g (k + m) j (by omega), q_dr_keeps row g k j hj m]
theorem q_or_same {r1 r2 : Nat → Nat} : ∀ k, (∀ j, j < k → r1 j = r2 j) → q_or r1 k = q_or r2 k
  | 0, _ => rfl
  | k + 1, h => by
    show q_or r1 k ||| q_bit (r1 k) = q_or r2 k ||| q_bit (r2 k)
    rw [q_or_same k (fun j hj => h j (by omega)), h k (by omega)]
theorem q_or_ds {B : Nat} (row : Nat → Nat) (g : Int64) : ∀ k, q_or (q_dr B row g k).1 k = q_ds B row g k
  | 0 => rfl
  | k + 1 => by
    show q_or (q_dr B row g (k + 1)).1 k ||| q_bit ((q_dr B row g (k + 1)).1 k) = q_ds B row g k ||| q_bit ((q_dr B row g (k + 1)).1 k)
    rw [q_or_same k (fun j hj => q_dr_keep row g k j hj), q_or_ds row g k]
theorem q_or_set (row : Nat → Nat) (w : Nat → Nat) (B : Nat) (num : Int32) : q_or (q_rowS row w B num) (q_sz w B num) = q_set w B num := (q_or_ds (q_line row B) (q_g0 num) (q_sz w B num)).trans (q_set_S row w B num)
theorem q_nm_irr {vals : Nat → Int32} {S B : Nat} {r1 r2 : Nat → Nat} (h : ∀ i, i < B → r1 i = r2 i) : ∀ k, k ≤ B → q_nm vals S r1 k = q_nm vals S r2 k
  | 0, _ => rfl
  | k + 1, hk => by
    show q_nm vals S r1 k ^^^ q_va vals S (r1 k) = q_nm vals S r2 k ^^^ q_va vals S (r2 k)
    rw [q_nm_irr h k (by omega), h k (by omega)]
theorem q_peel_end {msk : Nat → Int64} {nn pk pk1 : Nat} {po po1 : Nat → Nat} {pb pb1 : Nat → Int32} {ps ps1 : Int64} (hM : ∀ i, i < nn → ∀ k, 38 ≤ k → tb (msk i) k = false) (hp : pk = q_pop ps 38) (_hp1 : pk1 = q_pop ps1 38)
    (he : q_pn msk nn (38 - pk1) (po1, pb1, pk1, ps1) = q_pn msk nn (38 - pk) (po, pb, pk, ps)) (hf : q_fr (q_rd msk ps1) nn = none) : q_pn msk nn 38 (po, pb, pk, ps) = (po1, pb1, pk1, ps1) := by
  have hpk : pk ≤ 38 := by rw [hp]; exact q_pop_le ps 38
  have h1 := q_pn_full hM pk (38 - pk) (po, pb, pk, ps) hp (Nat.le_refl _)
  rw [show 38 - pk + pk = 38 by omega] at h1
  rw [h1, ← he]
  cases h : 38 - pk1 with
  | zero => rfl
  | succ n =>
    rw [q_pn]
    simp only [hf]
