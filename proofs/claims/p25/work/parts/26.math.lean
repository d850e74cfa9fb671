/-! the class's elimination against the reference's -/
def q_inv (B : Nat) (rows : Nat → Int64) (rv : Nat → Int32) : Prop := (∀ k, rows k ≠ 0 → k < B ∧ tb (rows k) k = true ∧ ∀ j, j ≠ k → tb (rows j) k = false) ∧ (∀ k t, B ≤ t → tb (rows k) t = false) ∧ ∀ k, rows k = 0 → rv k = nI 0
theorem q_inv_0 (B : Nat) : q_inv B (fun _ => 0) (fun _ => nI 0) := ⟨fun k h => absurd rfl h, fun _ t _ => tb_zero t, fun _ _ => rfl⟩
theorem q_xor0 (x : Int64) : x ^^^ 0 = x := tb_ext (fun k _ => by rw [tb_xor, tb_zero, Bool.xor_false])
theorem q_rem_bit {B : Nat} {rows : Nat → Int64} {rv : Nat → Int32} (I : q_inv B rows rv) (x : Int64) {k : Nat} (hk : rows k ≠ 0) : ∀ n, n ≤ k → tb (q_rem rows x n) k = tb x k
  | 0, _ => rfl
  | n + 1, hn => by
    have ih := q_rem_bit I x hk n (by omega)
    unfold q_rem
    by_cases c : tb x n = true
    · rw [if_pos c, tb_xor, ih, (I.1 k hk).2.2 n (by omega), Bool.xor_false]
    · rw [if_neg c, ih]
theorem q_rem_red {B : Nat} {rows : Nat → Int64} {rv : Nat → Int32} (I : q_inv B rows rv) (x : Int64) {k : Nat} (hk : rows k ≠ 0) : ∀ n, k < n → tb (q_rem rows x n) k = false
  | 0, h => absurd h (Nat.not_lt_zero _)
  | n + 1, h => by
    by_cases e : k = n
    · subst e
      have ih := q_rem_bit I x hk k (Nat.le_refl _)
      unfold q_rem
      by_cases c : tb x k = true
      · rw [if_pos c, tb_xor, ih, c, (I.1 k hk).2.1]
        rfl
      · rw [if_neg c, ih]
        cases hx : tb x k with
        | false => rfl
        | true => exact absurd hx c
    · have ih := q_rem_red I x hk n (by omega)
      unfold q_rem
      by_cases c : tb x n = true
      · rw [if_pos c, tb_xor, ih, (I.1 k hk).2.2 n (fun g => e g.symm)]
        rfl
      · rw [if_neg c, ih]
theorem q_inv_ge {B : Nat} {rows : Nat → Int64} {rv : Nat → Int32} (I : q_inv B rows rv) {k : Nat} (hk : B ≤ k) : rows k = 0 := by
  by_cases h : rows k = 0
  · exact h
  · exact absurd (I.1 k h).1 (by omega)
theorem q_rdF_rem {B : Nat} {rows : Nat → Int64} {rv : Nat → Int32} (I : q_inv B rows rv) (x : Int64) : ∀ n, q_rdF rows x n = q_rem rows x n
  | 0 => rfl
  | n + 1 => by
    have ih := q_rdF_rem I x n
    unfold q_rdF q_rem
    rw [ih]
    by_cases z : rows n = 0
    · simp only [z, ne_eq, not_true_eq_false, if_false, q_xor0, ite_self]
    · rw [if_pos z, q_rem_bit I x z n (Nat.le_refl _)]
theorem q_kv0 (v : Int32) : v ^^^ nI 0 = v := Int32.xor_zero
theorem q_rnF_kv {B : Nat} {rows : Nat → Int64} {rv : Nat → Int32} (I : q_inv B rows rv) (x : Int64) (v : Int32) : ∀ n, q_rnF rows rv x v n = v ^^^ q_kv rv x n
  | 0 => (Int32.xor_zero).symm
  | n + 1 => by
    have ih := q_rnF_kv I x v n
    unfold q_rnF q_kv
    rw [ih, q_rdF_rem I x n]
    by_cases z : rows n = 0
    · simp only [z, ne_eq, not_true_eq_false, if_false, I.2.2 n z, q_kv0, ite_self]
    · rw [if_pos z, q_rem_bit I x z n (Nat.le_refl _)]
      by_cases c : tb x n = true
      · rw [if_pos c, if_pos c, Int32.xor_assoc]
      · rw [if_neg c, if_neg c]
theorem q_rem_ext {B : Nat} {rows : Nat → Int64} {rv : Nat → Int32} (I : q_inv B rows rv) (x : Int64) : ∀ m, q_rem rows x (B + m) = q_rem rows x B
  | 0 => rfl
  | m + 1 => by
    have ih := q_rem_ext I x m
    show (if tb x (B + m) then q_rem rows x (B + m) ^^^ rows (B + m) else q_rem rows x (B + m)) = _
    rw [q_inv_ge I (show B ≤ B + m by omega), q_xor0, ite_self, ih]
theorem q_kv_ext {B : Nat} {rows : Nat → Int64} {rv : Nat → Int32} (I : q_inv B rows rv) (x : Int64) : ∀ m, q_kv rv x (B + m) = q_kv rv x B
  | 0 => rfl
  | m + 1 => by
    have ih := q_kv_ext I x m
    show (if tb x (B + m) then q_kv rv x (B + m) ^^^ rv (B + m) else q_kv rv x (B + m)) = _
    rw [I.2.2 _ (q_inv_ge I (show B ≤ B + m by omega)), q_kv0, ite_self, ih]
theorem q_rem38 {B : Nat} {rows : Nat → Int64} {rv : Nat → Int32} (I : q_inv B rows rv) (hB : B ≤ 38) (x : Int64) : q_rdF rows x B = q_rem rows x 38 := by
  rw [q_rdF_rem I, ← q_rem_ext I x (38 - B), show B + (38 - B) = 38 by omega]
theorem q_kv38 {B : Nat} {rows : Nat → Int64} {rv : Nat → Int32} (I : q_inv B rows rv) (hB : B ≤ 38) (x : Int64) (v : Int32) : q_rnF rows rv x v B = v ^^^ q_kv rv x 38 := by
  rw [q_rnF_kv I, ← q_kv_ext I x (38 - B), show B + (38 - B) = 38 by omega]
theorem q_rem_hi {B : Nat} {rows : Nat → Int64} {rv : Nat → Int32} (I : q_inv B rows rv) {x : Int64} (hx : ∀ t, B ≤ t → tb x t = false) : ∀ n t, B ≤ t → tb (q_rem rows x n) t = false
  | 0, t, h => hx t h
  | n + 1, t, h => by
    have ih := q_rem_hi I hx n t h
    unfold q_rem
    by_cases c : tb x n = true
    · rw [if_pos c, tb_xor, ih, I.2.1 n t h]
      rfl
    · rw [if_neg c, ih]
/-- a reduced row -/
def q_red (B : Nat) (rows : Nat → Int64) (r : Int64) : Prop := (∀ k, rows k ≠ 0 → tb r k = false) ∧ ∀ t, B ≤ t → tb r t = false
theorem q_red_of {B : Nat} {rows : Nat → Int64} {rv : Nat → Int32} (I : q_inv B rows rv) (hB : B ≤ 38) {x : Int64} (hx : ∀ t, B ≤ t → tb x t = false) : q_red B rows (q_rem rows x 38) :=
  ⟨fun k hk => q_rem_red I x hk 38 (by have := (I.1 k hk).1; omega), fun t ht => q_rem_hi I hx 38 t ht⟩
theorem q_red_low {B : Nat} {rows : Nat → Int64} {r : Int64} (h : q_red B rows r) (hr : r ≠ 0) : q_low r < B ∧ rows (q_low r) = 0 := by
  have hl := (q_low_lt hr).2.1
  refine ⟨Nat.lt_of_not_le fun g => ?_, ?_⟩
  · rw [h.2 _ g] at hl
    cases hl
  · by_cases z : rows (q_low r) = 0
    · exact z
    · rw [h.1 _ z] at hl
      cases hl
theorem q_new_of {B : Nat} {rows : Nat → Int64} {r : Int64} (h : q_red B rows r) (hB : B ≤ 38) (hr : r ≠ 0) : q_new r = true := by
  have := (q_red_low h hr).1
  unfold q_new
  rw [decide_eq_true hr, decide_eq_true (show q_low r < 38 by omega)]
  rfl
theorem q_elR_ext {B : Nat} {rows : Nat → Int64} {rv : Nat → Int32} (I : q_inv B rows rv) (hB : B ≤ 38) (r : Int64) (ld : Nat) : q_elR rows r ld 38 = q_elR rows r ld B := by
  funext j
  unfold q_elR
  by_cases h : j < B
  · rw [decide_eq_true h, decide_eq_true (show j < 38 by omega)]
  · rw [q_inv_ge I (show B ≤ j by omega), tb_zero, Bool.and_false, Bool.and_false]
theorem q_elV_ext {B : Nat} {rows : Nat → Int64} {rv : Nat → Int32} (I : q_inv B rows rv) (hB : B ≤ 38) (v : Int32) (ld : Nat) : q_elV rows rv v ld 38 = q_elV rows rv v ld B := by
  funext j
  unfold q_elV
  by_cases h : j < B
  · rw [decide_eq_true h, decide_eq_true (show j < 38 by omega)]
  · rw [q_inv_ge I (show B ≤ j by omega), tb_zero, Bool.and_false, Bool.and_false]
theorem q_lay_addR {B : Nat} {rows : Nat → Int64} {rv : Nat → Int32} (I : q_inv B rows rv) (hB : B ≤ 38) {r : Int64} (h : q_red B rows r) : q_layR rows r B = q_addR rows r := by
  unfold q_layR q_addR
  by_cases z : r = 0
  · rw [if_pos z, z, if_neg (by decide +kernel)]
  · rw [if_neg z, if_pos (q_new_of h hB z), q_elR_ext I hB]
theorem q_lay_addV {B : Nat} {rows : Nat → Int64} {rv : Nat → Int32} (I : q_inv B rows rv) (hB : B ≤ 38) {r : Int64} (h : q_red B rows r) (v : Int32) : q_layV rows rv r v B = q_addV rows rv r v := by
  unfold q_layV q_addV
  by_cases z : r = 0
  · rw [if_pos z, z, if_neg (by decide +kernel)]
  · rw [if_neg z, if_pos (q_new_of h hB z), q_elV_ext I hB]
theorem q_inv_add {B : Nat} {rows : Nat → Int64} {rv : Nat → Int32} (I : q_inv B rows rv) (hB : B ≤ 38) {r : Int64} (h : q_red B rows r) (v : Int32) : q_inv B (q_layR rows r B) (q_layV rows rv r v B) := by
  by_cases z : r = 0
  · unfold q_layR q_layV
    rw [if_pos z, if_pos z]
    exact I
  · obtain ⟨hl, hz⟩ := q_red_low h z
    have hb := (q_low_lt z).2.1
    have eR : ∀ j, q_layR rows r B j = if j = q_low r then r else if tb (rows j) (q_low r) = true then rows j ^^^ r else rows j := by
      intro j
      unfold q_layR
      rw [if_neg z]
      unfold vp_updL q_elR
      by_cases e : j = q_low r
      · rw [if_pos e, if_pos e]
      · rw [if_neg e, if_neg e]
        by_cases g : j < B
        · rw [decide_eq_true g, Bool.true_and]
        · rw [q_inv_ge I (show B ≤ j by omega), tb_zero, Bool.and_false]
    have eV : ∀ j, q_layV rows rv r v B j = if j = q_low r then v else if tb (rows j) (q_low r) = true then rv j ^^^ v else rv j := by
      intro j
      unfold q_layV
      rw [if_neg z]
      unfold upd q_elV
      by_cases e : j = q_low r
      · rw [if_pos e, if_pos e]
      · rw [if_neg e, if_neg e]
        by_cases g : j < B
        · rw [decide_eq_true g, Bool.true_and]
        · rw [q_inv_ge I (show B ≤ j by omega), tb_zero, Bool.and_false]
    have keep : ∀ k, rows k ≠ 0 → k ≠ q_low r → tb (q_layR rows r B k) k = true ∧ ∀ j, j ≠ k → tb (q_layR rows r B j) k = false := by
      intro k hk hne
      obtain ⟨_, h2, h3⟩ := I.1 k hk
      have hrk := h.1 k hk
      refine ⟨?_, fun j hj => ?_⟩
      · rw [eR, if_neg hne]
        by_cases c : tb (rows k) (q_low r) = true
        · rw [if_pos c, tb_xor, h2, hrk]
          rfl
        · rw [if_neg c, h2]
      · rw [eR]
        by_cases e : j = q_low r
        · rw [if_pos e, hrk]
        · rw [if_neg e]
          by_cases c : tb (rows j) (q_low r) = true
          · rw [if_pos c, tb_xor, h3 j hj, hrk]
            rfl
          · rw [if_neg c, h3 j hj]
    have zero : ∀ k, rows k = 0 → k ≠ q_low r → q_layR rows r B k = 0 := by
      intro k hk hne
      rw [eR, if_neg hne, hk, tb_zero, if_neg (by decide)]
    refine ⟨fun k hk => ?_, fun k t ht => ?_, fun k hk => ?_⟩
    · by_cases e : k = q_low r
      · subst e
        refine ⟨hl, ?_, fun j hj => ?_⟩
        · rw [eR, if_pos rfl, hb]
        · rw [eR, if_neg hj]
          by_cases c : tb (rows j) (q_low r) = true
          · rw [if_pos c, tb_xor, c, hb]
            rfl
          · rw [if_neg c]
            cases hx : tb (rows j) (q_low r) with
            | false => rfl
            | true => exact absurd hx c
      · have hk0 : rows k ≠ 0 := fun g => hk (zero k g e)
        exact ⟨(I.1 k hk0).1, keep k hk0 e⟩
    · rw [eR]
      by_cases e : k = q_low r
      · rw [if_pos e, h.2 t ht]
      · rw [if_neg e]
        by_cases c : tb (rows k) (q_low r) = true
        · rw [if_pos c, tb_xor, I.2.1 k t ht, h.2 t ht]
          rfl
        · rw [if_neg c, I.2.1 k t ht]
    · by_cases e : k = q_low r
      · rw [eR, if_pos e] at hk
        exact absurd hk z
      · have hk0 : rows k = 0 := by
          by_cases g : rows k = 0
          · exact g
          · have := (keep k g e).1
            rw [hk, tb_zero] at this
            cases this
        rw [eV, if_neg e, hk0, tb_zero, if_neg (by decide)]
        exact I.2.2 k hk0
theorem q_layR_at {B : Nat} {rows : Nat → Int64} {rv : Nat → Int32} (I : q_inv B rows rv) {r : Int64} (z : r ≠ 0) (j : Nat) : q_layR rows r B j = if j = q_low r then r else if tb (rows j) (q_low r) = true then rows j ^^^ r else rows j := by
  unfold q_layR
  rw [if_neg z]
  unfold vp_updL q_elR
  by_cases e : j = q_low r
  · rw [if_pos e, if_pos e]
  · rw [if_neg e, if_neg e]
    by_cases g : j < B
    · rw [decide_eq_true g, Bool.true_and]
    · rw [q_inv_ge I (show B ≤ j by omega), tb_zero, Bool.and_false]
theorem q_nz_add {B : Nat} {rows : Nat → Int64} {rv : Nat → Int32} (I : q_inv B rows rv) {r : Int64} (h : q_red B rows r) (z : r ≠ 0) {k : Nat} (e : k ≠ q_low r) : q_layR rows r B k ≠ 0 ↔ rows k ≠ 0 := by
  rw [q_layR_at I z, if_neg e]
  by_cases c : tb (rows k) (q_low r) = true
  · rw [if_pos c]
    have hk : rows k ≠ 0 := fun g => by rw [g, tb_zero] at c; cases c
    refine ⟨fun _ => hk, fun _ g => ?_⟩
    have : tb (rows k ^^^ r) k = true := by
      rw [tb_xor, (I.1 k hk).2.1, h.1 k hk]
      rfl
    rw [g, tb_zero] at this
    cases this
  · rw [if_neg c]
theorem q_rko_add {B : Nat} {rows : Nat → Int64} {rv : Nat → Int32} (I : q_inv B rows rv) {r : Int64} (h : q_red B rows r) (z : r ≠ 0) : ∀ n, q_rko (q_layR rows r B) n = q_rko rows n + (if q_low r < n then 1 else 0)
  | 0 => rfl
  | n + 1 => by
    have ih := q_rko_add I h z n
    show q_rko (q_layR rows r B) n + (if q_layR rows r B n ≠ 0 then 1 else 0) = q_rko rows n + (if rows n ≠ 0 then 1 else 0) + _
    rw [ih]
    by_cases e : n = q_low r
    · have h1 : q_layR rows r B n ≠ 0 := by rw [q_layR_at I z, if_pos e]; exact z
      have h2 : rows n = 0 := by rw [e]; exact (q_red_low h z).2
      rw [if_pos h1, if_neg (show ¬ (rows n ≠ 0) from fun g => g h2), if_neg (show ¬ q_low r < n by omega), if_pos (show q_low r < n + 1 by omega)]
    · by_cases c : rows n ≠ 0
      · rw [if_pos ((q_nz_add I h z e).mpr c), if_pos c]
        by_cases g : q_low r < n
        · rw [if_pos g, if_pos (show q_low r < n + 1 by omega)]
        · rw [if_neg g, if_neg (show ¬ q_low r < n + 1 by omega)]
      · rw [if_neg (fun g => c ((q_nz_add I h z e).mp g)), if_neg c]
        by_cases g : q_low r < n
        · rw [if_pos g, if_pos (show q_low r < n + 1 by omega)]
        · rw [if_neg g, if_neg (show ¬ q_low r < n + 1 by omega)]
theorem q_rank_add {B : Nat} {rows : Nat → Int64} {rv : Nat → Int32} (I : q_inv B rows rv) (hB : B ≤ 38) {r : Int64} (h : q_red B rows r) {rk : Nat} (e : rk = q_rko rows B) : q_addK r rk = q_rko (q_layR rows r B) B := by
  by_cases z : r = 0
  · unfold q_addK q_layR
    rw [if_pos z, z, if_neg (by decide +kernel), e]
  · rw [q_rko_add I h z, if_pos (q_red_low h z).1, ← e]
    unfold q_addK
    rw [if_pos (q_new_of h hB z)]
theorem q_rko_0 : ∀ n, q_rko (fun _ => 0) n = 0
  | 0 => rfl
  | n + 1 => by
    show q_rko (fun _ => 0) n + (if (0 : Int64) ≠ 0 then 1 else 0) = 0
    rw [q_rko_0 n]
    rfl
theorem q_dmo_add {B : Nat} {rows : Nat → Int64} {rv : Nat → Int32} (I : q_inv B rows rv) (hB : B ≤ 38) {r : Int64} (h : q_red B rows r) (z : r ≠ 0) : ∀ n, n ≤ 64 → q_dmo (q_layR rows r B) n = q_dmo rows n + q_cnt rows r n
  | 0, _ => rfl
  | n + 1, hn => by
    have ih := q_dmo_add I hB h z n (by omega)
    have hb := (q_low_lt z).2.1
    show q_dmo (q_layR rows r B) n + (if q_layR rows r B n = q_bit n then 1 else 0) = q_dmo rows n + (if rows n = q_bit n then 1 else 0) + (if q_bit n ^^^ rows n = r then q_cnt rows r n + 1 else q_cnt rows r n)
    have xx : ∀ a b c : Int64, a ^^^ b = c ↔ b ^^^ c = a := by
      intro a b c
      constructor
      · intro g
        rw [← g]
        exact tb_ext (fun k _ => by rw [tb_xor, tb_xor]; cases tb a k <;> cases tb b k <;> rfl)
      · intro g
        rw [← g]
        exact tb_ext (fun k _ => by rw [tb_xor, tb_xor]; cases tb b k <;> cases tb c k <;> rfl)
    have bz : q_bit n ≠ 0 := fun g => by
      have : tb (q_bit n) n = true := by rw [tb_bit]; simp; omega
      rw [g, tb_zero] at this
      cases this
    by_cases e : n = q_low r
    · have h2 : rows n = 0 := by rw [e]; exact (q_red_low h z).2
      rw [q_layR_at I z, if_pos e, h2, q_xor0, if_neg (show ¬ (0 : Int64) = q_bit n from fun g => bz g.symm), ih]
      by_cases c : q_bit n = r
      · rw [if_pos c, if_pos (show r = q_bit n from c.symm)] <;> omega
      · rw [if_neg c, if_neg (show ¬ r = q_bit n from fun g => c g.symm)] <;> omega
    · rw [q_layR_at I z, if_neg e]
      have bl : tb (q_bit n) (q_low r) = false := by
        rw [tb_bit, decide_eq_false (show ¬ q_low r = n from fun g => e g.symm), Bool.and_false]
      by_cases c : tb (rows n) (q_low r) = true
      · have nd : rows n ≠ q_bit n := fun g => by rw [g, bl] at c; cases c
        rw [if_pos c, if_neg nd, ih]
        by_cases d : q_bit n ^^^ rows n = r
        · rw [if_pos d, if_pos (show rows n ^^^ r = q_bit n from (xx _ _ _).mp d)] <;> omega
        · rw [if_neg d, if_neg (show ¬ rows n ^^^ r = q_bit n from fun g => d ((xx _ _ _).mpr g))] <;> omega
      · rw [if_neg c]
        have d : ¬ q_bit n ^^^ rows n = r := fun g => by
          have g2 : tb (q_bit n ^^^ rows n) (q_low r) = true := by rw [g]; exact hb
          rw [tb_xor, bl] at g2
          cases hx : tb (rows n) (q_low r) with
          | true => exact c hx
          | false => rw [hx] at g2; cases g2
        rw [if_neg d, ih] <;> omega
theorem q_cnt0 (rows : Nat → Int64) : ∀ n, q_cnt rows 0 n = q_dmo rows n
  | 0 => rfl
  | n + 1 => by
    have ih := q_cnt0 rows n
    have xe : q_bit n ^^^ rows n = 0 ↔ rows n = q_bit n := by
      constructor
      · intro g
        apply tb_ext
        intro k _
        have : tb (q_bit n ^^^ rows n) k = false := by rw [g, tb_zero]
        rw [tb_xor] at this
        cases h1 : tb (q_bit n) k <;> cases h2 : tb (rows n) k <;> simp_all
      · intro g
        rw [g]
        exact tb_ext (fun k _ => by rw [tb_xor, tb_zero, Bool.xor_self])
    show (if q_bit n ^^^ rows n = 0 then q_cnt rows 0 n + 1 else q_cnt rows 0 n) = q_dmo rows n + (if rows n = q_bit n then 1 else 0)
    rw [ih]
    by_cases c : rows n = q_bit n
    · rw [if_pos c, if_pos (xe.mpr c)]
    · rw [if_neg c, if_neg (fun g => c (xe.mp g))]; rfl
theorem q_bitx (rows : Nat → Int64) (b : Nat) : (q_bit b ^^^ rows b = 0) ↔ rows b = q_bit b := by
  constructor
  · intro g
    apply tb_ext
    intro k _
    have : tb (q_bit b ^^^ rows b) k = false := by rw [g, tb_zero]
    rw [tb_xor] at this
    cases h1 : tb (q_bit b) k <;> cases h2 : tb (rows b) k <;> simp_all
  · intro g
    rw [g]
    exact tb_ext (fun k _ => by rw [tb_xor, tb_zero, Bool.xor_self])
