/-! steps of the class's state, and what the counts say -/
theorem r_tk_st {S P : Nat} (hS : S ≤ 32) (hP : P ≤ 6) {s : q_ST} {dr : Nat} (h : r_st S P s dr) (hd : dr < 120) {x : Int64} (hx : ∀ t, S + P ≤ t → tb x t = false) (v : Int32) : r_st S P (q_tk x v s) (dr + 1) ∧ s.2.2.1.2.2.1 ≤ (q_tk x v s).2.2.1.2.2.1 ∧ (q_tk x v s).2.2.2.2.2 = s.2.2.2.2.2 + (if q_hlp s.2.2.2.1 x then 1 else 0) ∧ q_hlp (q_tk x v s).2.2.2.1 x = false ∧ q_cnt (q_tk x v s).2.2.2.1 0 (S + P) = q_cnt s.2.2.2.1 0 (S + P) + q_wd s.2.2.2.1 x (S + P) := by
  obtain ⟨ok, hE, hp, hr⟩ := h
  have ok' := (q_tk_ok hS hP ok hd hx v).2
  have I := ok.1
  have hB : S + P ≤ 38 := by omega
  have R := q_red_of I hB hx
  have hE' : ∀ i, i < s.2.1 + 1 → q_rem (q_addR s.2.2.2.1 (q_rem s.2.2.2.1 x 38)) (vp_updL s.1 s.2.1 x i) 38 = 0 := by
    intro i hi
    unfold vp_updL
    by_cases c : i = s.2.1
    · rw [if_pos c]; exact r_self hB I hx
    · rw [if_neg c]; exact r_keep hB I hx (hE i (by omega))
  have hp' := r_pl_up hp (fun b hb e => r_bit_rows hb (r_keep hB I hx (r_rows_bit hb e)))
  obtain ⟨p1, p2⟩ := r_pl_pn (msk := vp_updL s.1 s.2.1 x) (nn := s.2.1 + 1) ok'.2.2.2.2.1 hE' 38 s.2.2.1 hp'
  have hk : q_addK (q_rem s.2.2.2.1 x 38) s.2.2.2.2.2 = s.2.2.2.2.2 + (if q_hlp s.2.2.2.1 x then 1 else 0) := by
    unfold q_addK q_hlp
    by_cases z : q_rem s.2.2.2.1 x 38 = 0
    · rw [z, show q_new 0 = false from by simp [q_new], decide_eq_false (by simp)]
      rfl
    · rw [q_new_of R hB z, if_pos rfl, decide_eq_true z, if_pos rfl]
  refine ⟨⟨ok', hE', p1, ?_⟩, p2, hk, ?_, ?_⟩
  · show q_addK (q_rem s.2.2.2.1 x 38) s.2.2.2.2.2 ≤ s.2.1 + 1
    rw [hk]
    by_cases c : q_hlp s.2.2.2.1 x = true
    · rw [if_pos c]; omega
    · rw [if_neg c]; omega
  · show decide (q_rem (q_addR s.2.2.2.1 (q_rem s.2.2.2.1 x 38)) x 38 ≠ 0) = false
    exact decide_eq_false (fun g => g (r_self hB I hx))
  · show q_cnt (q_addR s.2.2.2.1 (q_rem s.2.2.2.1 x 38)) 0 (S + P) = _
    have e := q_wd_dmo hB I hx
    rw [q_rem38 I hB, q_lay_addR I hB R] at e
    rw [q_cnt0, q_cnt0]
    exact e
theorem r_can_dr {S P dr : Nat} {s : q_ST} (h : r_st S P s dr) {x : Int64} {v : Int32} (hc : q_can s.2.1 P s.2.2.2.1 s.2.2.2.2.1 x v = true) : dr < 120 := by
  have h1 := h.1.2.2.1
  have := of_decide_eq_true (Bool.and_eq_true_iff.mp hc).1
  omega
theorem r_kv_ext (f : Nat → Int32) {x : Int64} {n : Nat} (hx : ∀ t, n ≤ t → tb x t = false) : ∀ m, q_kv f x (n + m) = q_kv f x n
  | 0 => rfl
  | m + 1 => by
    have ih := r_kv_ext f hx m
    rw [show n + (m + 1) = (n + m) + 1 from rfl, show q_kv f x ((n + m) + 1) = if tb x (n + m) then q_kv f x (n + m) ^^^ f (n + m) else q_kv f x (n + m) from rfl, hx (n + m) (by omega), if_neg (by decide), ih]
/-- a drop's value is that of its blocks -/
theorem r_vs38 (vals : Nat → Int32) {S P : Nat} (hS : S ≤ 32) (hP : P ≤ 6) {x : Int64} (hx : ∀ t, S + P ≤ t → tb x t = false) : q_vs vals S x P = q_kv (q_vb vals S) x 38 := by
  rw [q_vs_kv vals hS]
  have e := r_kv_ext (q_vb vals S) hx (38 - (S + P))
  rw [show S + P + (38 - (S + P)) = 38 by omega] at e
  exact e.symm
theorem r_tk_tru {S P : Nat} (hS : S ≤ 32) (hP : P ≤ 6) {vals : Nat → Int32} {s : q_ST} {dr : Nat} (h : r_st S P s dr) (T : r_tru (q_vb vals S) s.2.2.2.1 s.2.2.2.2.1) {x : Int64} (hx : ∀ t, S + P ≤ t → tb x t = false) : r_tru (q_vb vals S) (q_tk x (q_vs vals S x P) s).2.2.2.1 (q_tk x (q_vs vals S x P) s).2.2.2.2.1 :=
  r_tru_add (B := S + P) (by omega) h.1.1 T hx (r_vs38 vals hS hP hx).symm
/-- what the sender sends is refused for the number of drops alone, while it tells the truth -/
theorem r_con_tru {vals : Nat → Int32} {S P : Nat} (hS : S ≤ 32) (hP : P ≤ 6) {rows : Nat → Int64} {rv : Nat → Int32} (T : r_tru (q_vb vals S) rows rv) {x : Int64} (hx : ∀ t, S + P ≤ t → tb x t = false) : q_con rows rv x (q_vs vals S x P) = false := by
  unfold q_con
  by_cases z : q_rem rows x 38 = 0
  · rw [r_tru_known T z, r_vs38 vals hS hP hx, decide_eq_false (show ¬ q_kv (q_vb vals S) x 38 ≠ q_kv (q_vb vals S) x 38 from fun g => g rfl), Bool.and_false]
  · rw [decide_eq_false z, Bool.false_and]
theorem r_refused {vals : Nat → Int32} {S P dr : Nat} (hS : S ≤ 32) (hP : P ≤ 6) {s : q_ST} (h : r_st S P s dr) {x : Int64} (hx : ∀ t, S + P ≤ t → tb x t = false) {tr : Bool} (T : tr = true → r_tru (q_vb vals S) s.2.2.2.1 s.2.2.2.2.1) (hc : q_can s.2.1 P s.2.2.2.1 s.2.2.2.2.1 x (q_vs vals S x P) = false) : s.2.1 = P + 120 ∨ (q_hlp s.2.2.2.1 x = false ∧ tr = false) := by
  have h1 := h.1.2.2.1
  have h2 := h.1.2.2.2.1
  by_cases c : dr = 120
  · exact Or.inl (by omega)
  · right
    unfold q_can at hc
    rw [decide_eq_true (show s.2.1 - P < 120 by omega), Bool.true_and] at hc
    have hcon : q_con s.2.2.2.1 s.2.2.2.2.1 x (q_vs vals S x P) = true := by
      cases g : q_con s.2.2.2.1 s.2.2.2.2.1 x (q_vs vals S x P) with
      | true => rfl
      | false => rw [g] at hc; cases hc
    refine ⟨?_, ?_⟩
    · have := of_decide_eq_true (Bool.and_eq_true_iff.mp hcon).1
      exact decide_eq_false (fun g => g this)
    · cases tr with
      | false => rfl
      | true => rw [r_con_tru hS hP (T rfl) hx] at hcon; cases hcon
theorem r_xne {v d : Int32} (hd : d ≠ 0) : v ^^^ d ≠ v := by
  intro g
  apply hd
  have e : v ^^^ (v ^^^ d) = v ^^^ v := by rw [g]
  rw [← Int32.xor_assoc, Int32.xor_self, Int32.zero_xor] at e
  exact e
/-- a wrong value of a drop that does not help is refused -/
theorem r_wrong {vals : Nat → Int32} {S P nn : Nat} (hS : S ≤ 32) (hP : P ≤ 6) {rows : Nat → Int64} {rv : Nat → Int32} (T : r_tru (q_vb vals S) rows rv) {x : Int64} (hx : ∀ t, S + P ≤ t → tb x t = false) (hh : q_hlp rows x = false) {d : Int32} (hd : d ≠ 0) : q_can nn P rows rv x (q_vs vals S x P ^^^ d) = false := by
  have z : q_rem rows x 38 = 0 := by
    by_cases z : q_rem rows x 38 = 0
    · exact z
    · have := of_decide_eq_false hh
      exact absurd z this
  unfold q_can q_con
  rw [decide_eq_true z, r_tru_known T z, r_vs38 vals hS hP hx, decide_eq_true (show q_kv (q_vb vals S) x 38 ≠ q_kv (q_vb vals S) x 38 ^^^ d from fun g => r_xne hd g.symm), Bool.and_self]
  exact Bool.and_false _
theorem r_ra_st (w : Nat → Nat) (vals : Nat → Int32) {S P : Nat} (hS : S ≤ 32) (hP : P ≤ 6) (first : Int32) : ∀ (f k : Nat) (s : q_ST) (dr : Nat), r_st S P s dr → ∃ dr', r_st S P (q_ra w vals S P first f k s).2 dr' ∧ k ≤ (q_ra w vals S P first f k s).1 ∧ (q_ra w vals S P first f k s).1 ≤ k + f ∧ (q_ra w vals S P first f k s).2.2.1 + k = s.2.1 + (q_ra w vals S P first f k s).1 ∧ (r_tru (q_vb vals S) s.2.2.2.1 s.2.2.2.2.1 → r_tru (q_vb vals S) (q_ra w vals S P first f k s).2.2.2.2.1 (q_ra w vals S P first f k s).2.2.2.2.2.1)
  | 0, k, s, dr, h => ⟨dr, h, Nat.le_refl _, Nat.le_refl _, rfl, fun T => T⟩
  | f + 1, k, s, dr, h => by
    rw [q_ra]
    by_cases c : q_can s.2.1 P s.2.2.2.1 s.2.2.2.2.1 (q_set w (S + P) (first + nI k)) (q_vs vals S (q_set w (S + P) (first + nI k)) P) = true
    · rw [if_pos c]
      have hx := q_set_B w (S + P) (first + nI k)
      have h1 := (r_tk_st hS hP h (r_can_dr h c) hx (q_vs vals S (q_set w (S + P) (first + nI k)) P)).1
      obtain ⟨dr', a1, a2, a3, a4, a5⟩ := r_ra_st w vals hS hP first f (k + 1) _ _ h1
      refine ⟨dr', a1, by omega, by omega, ?_, fun T => a5 (r_tk_tru hS hP h T hx)⟩
      have a4 : (q_ra w vals S P first f (k + 1) (q_tk (q_set w (S + P) (first + nI k)) (q_vs vals S (q_set w (S + P) (first + nI k)) P) s)).2.2.1 + (k + 1) = (s.2.1 + 1) + (q_ra w vals S P first f (k + 1) (q_tk (q_set w (S + P) (first + nI k)) (q_vs vals S (q_set w (S + P) (first + nI k)) P) s)).1 := a4
      omega
    · rw [if_neg c]
      exact ⟨dr, h, Nat.le_refl _, Nat.le_add_right _ _, rfl, fun T => T⟩
/-- the start of a transfer -/
theorem q_start_ok {S P : Nat} (hS : S ≤ 32) (hP : P ≤ 6) (msk : Nat → Int64) (po : Nat → Nat) : q_ok S P (q_bgM S msk P, P, ((q_pn (q_bgM S msk P) P 38 (po, (fun _ => (-1)), 0, 0)).1, (q_pn (q_bgM S msk P) P 38 (po, (fun _ => (-1)), 0, 0)).2.1, (q_pn (q_bgM S msk P) P 38 (po, (fun _ => (-1)), 0, 0)).2.2.1, (q_pn (q_bgM S msk P) P 38 (po, (fun _ => (-1)), 0, 0)).2.2.2), (q_bgR S P).1, (q_bgR S P).2.1, (q_bgR S P).2.2) 0 := by
  obtain ⟨_, g2, g3⟩ := q_bg_mg hS hP P (Nat.le_refl P)
  have hM := q_bgM_hM hS msk P hP
  exact ⟨g2, g3, (Nat.zero_add P).symm, Nat.zero_le _, hM, q_pn_pop hM 38 _ (q_pop_0 38).symm⟩
theorem r_bg_E {S P : Nat} (hS : S ≤ 32) (hP : P ≤ 6) (msk : Nat → Int64) : ∀ j, j ≤ P → ∀ i, i < j → q_rem (q_bgR S j).1 (q_bgM S msk j i) 38 = 0
  | 0, _ => fun i hi => absurd hi (Nat.not_lt_zero _)
  | j + 1, hj => by
    intro i hi
    have ih := r_bg_E hS hP msk j (by omega)
    have I := (q_bg_mg hS hP j (by omega)).2.1
    have hB : S + P ≤ 38 := by omega
    have hx := q_bx_B (S := S) (show j < P by omega)
    show q_rem (q_addR (q_bgR S j).1 (q_rem (q_bgR S j).1 (q_bx S j) 38)) (vp_updL (q_bgM S msk j) j (q_bx S j) i) 38 = 0
    unfold vp_updL
    by_cases c : i = j
    · rw [if_pos c]; exact r_self hB I hx
    · rw [if_neg c]; exact r_keep hB I hx (ih i (by omega))
theorem r_rem_hi {rows : Nat → Int64} {t : Nat} (h : ∀ k, tb (rows k) t = false) (x : Int64) : ∀ n, tb (q_rem rows x n) t = tb x t
  | 0 => rfl
  | n + 1 => by
    have ih := r_rem_hi h x n
    unfold q_rem
    by_cases c : tb x n = true
    · rw [if_pos c, tb_xor, ih, h n, Bool.xor_false]
    · rw [if_neg c, ih]
theorem r_bg_rk {S P : Nat} (hS : S ≤ 32) (hP : P ≤ 6) : ∀ j, j ≤ P → (q_bgR S j).2.2 = j
  | 0, _ => rfl
  | j + 1, hj => by
    have ih := r_bg_rk hS hP j (by omega)
    have I := (q_bg_mg hS hP j (by omega)).2.1
    have I2 := (q_bg_mg hS (show j ≤ 6 by omega) j (Nat.le_refl j)).2.1
    have hB : S + P ≤ 38 := by omega
    have R := q_red_of I hB (q_bx_B (S := S) (show j < P by omega))
    have z : q_rem (q_bgR S j).1 (q_bx S j) 38 ≠ 0 := by
      intro g
      have e := r_rem_hi (fun k => I2.2.1 k (S + j) (Nat.le_refl _)) (q_bx S j) 38
      rw [g, tb_zero, show q_bx S j = q_bit (S + j) ||| q_cov j S from rfl, tb_or, tb_bit, decide_eq_true (show S + j < 64 by omega), decide_eq_true rfl, Bool.and_self, Bool.true_or] at e
      cases e
    show q_addK (q_rem (q_bgR S j).1 (q_bx S j) 38) (q_bgR S j).2.2 = j + 1
    unfold q_addK
    rw [q_new_of R hB z, if_pos rfl, ih]
theorem r_or_comm (x y : Int64) : x ||| y = y ||| x := tb_ext (fun k _ => by rw [tb_or, tb_or, Bool.or_comm])
theorem r_bx_kv (vals : Nat → Int32) {S j : Nat} (hS : S ≤ 32) (hj : j < 6) : q_kv (q_vb vals S) (q_bx S j) 38 = nI 0 := by
  have hc : tb (q_cov j S) (S + j) = false := by
    rw [tb_cov j S (S + j) (by omega), decide_eq_false (by omega), Bool.false_and]
  have hc2 : ∀ t, S ≤ t → tb (q_cov j S) t = false := by
    intro t ht
    by_cases q : t < 64
    · rw [tb_cov j S t q, decide_eq_false (by omega), Bool.false_and]
    · exact tb_ge (by omega)
  have e1 : q_kv (q_vb vals S) (q_cov j S) 38 = q_kv vals (q_cov j S) S := by
    have e := r_kv_ext (q_vb vals S) hc2 (38 - S)
    rw [show S + (38 - S) = 38 by omega] at e
    rw [e]
    exact q_kv_same S (fun t ht => by unfold q_vb; rw [if_pos ht, q_kv_bit vals (by omega) ht]) (fun _ _ => rfl)
  have e2 : q_vb vals S (S + j) = q_kv vals (q_cov j S) S := by
    unfold q_vb
    rw [if_neg (by omega), Nat.add_sub_cancel_left]
  rw [show q_bx S j = q_bit (S + j) ||| q_cov j S from rfl, r_or_comm, q_kv_set (by omega) hc 38 (by omega), e1, e2]
  exact Int32.xor_self
theorem r_bg_tru {S P : Nat} (hS : S ≤ 32) (hP : P ≤ 6) (vals : Nat → Int32) : ∀ j, j ≤ P → r_tru (q_vb vals S) (q_bgR S j).1 (q_bgR S j).2.1
  | 0, _ => r_tru_0 _
  | j + 1, hj => by
    have ih := r_bg_tru hS hP vals j (by omega)
    exact r_tru_add (B := S + P) (by omega) (q_bg_mg hS hP j (by omega)).2.1 ih (q_bx_B (S := S) (show j < P by omega)) (r_bx_kv vals hS (by omega))
theorem r_start_st {S P : Nat} (hS : S ≤ 32) (hP : P ≤ 6) (msk : Nat → Int64) (po : Nat → Nat) : r_st S P (q_bgM S msk P, P, ((q_pn (q_bgM S msk P) P 38 (po, (fun _ => (-1)), 0, 0)).1, (q_pn (q_bgM S msk P) P 38 (po, (fun _ => (-1)), 0, 0)).2.1, (q_pn (q_bgM S msk P) P 38 (po, (fun _ => (-1)), 0, 0)).2.2.1, (q_pn (q_bgM S msk P) P 38 (po, (fun _ => (-1)), 0, 0)).2.2.2), (q_bgR S P).1, (q_bgR S P).2.1, (q_bgR S P).2.2) 0 := by
  have ok := q_start_ok hS hP msk po
  have hE := r_bg_E hS hP msk P (Nat.le_refl P)
  refine ⟨ok, hE, (r_pl_pn (q_bgM_hM hS msk P hP) hE 38 _ (r_pl_0 P _ po)).1, ?_⟩
  show (q_bgR S P).2.2 ≤ P
  rw [r_bg_rk hS hP P (Nat.le_refl P)]
  exact Nat.le_refl P
/-- the counts -/
theorem r_pop_dmo {rows : Nat → Int64} {ps : Int64} (h : ∀ b, tb ps b = true → b < 38 ∧ rows b = q_bit b) : ∀ n, q_pop ps n ≤ q_dmo rows n
  | 0 => Nat.le_refl _
  | n + 1 => by
    have ih := r_pop_dmo h n
    rw [show q_pop ps (n + 1) = if tb ps n then q_pop ps n + 1 else q_pop ps n from rfl, show q_dmo rows (n + 1) = q_dmo rows n + (if rows n = q_bit n then 1 else 0) from rfl]
    by_cases c : tb ps n = true
    · rw [if_pos c, if_pos (h n c).2]; omega
    · rw [if_neg c]; omega
theorem r_bit_nz {b : Nat} (hb : b < 64) : q_bit b ≠ 0 := by
  intro g
  have e := tb_bit b b
  rw [g, tb_zero, decide_eq_true hb, decide_eq_true rfl] at e
  cases e
theorem r_dmo_rko {rows : Nat → Int64} : ∀ n, n ≤ 64 → q_dmo rows n ≤ q_rko rows n
  | 0, _ => Nat.le_refl _
  | n + 1, hn => by
    have ih := r_dmo_rko (rows := rows) n (by omega)
    rw [show q_dmo rows (n + 1) = q_dmo rows n + (if rows n = q_bit n then 1 else 0) from rfl, show q_rko rows (n + 1) = q_rko rows n + (if rows n ≠ 0 then 1 else 0) from rfl]
    by_cases c : rows n = q_bit n
    · rw [if_pos c, if_pos (by rw [c]; exact r_bit_nz (by omega))]; omega
    · rw [if_neg c]; omega
theorem r_dmo_ext {B : Nat} {rows : Nat → Int64} {rv : Nat → Int32} (I : q_inv B rows rv) : ∀ m, B + m ≤ 64 → q_dmo rows (B + m) = q_dmo rows B
  | 0, _ => rfl
  | m + 1, h => by
    have ih := r_dmo_ext I m (by omega)
    rw [show B + (m + 1) = (B + m) + 1 from rfl, show q_dmo rows (B + m + 1) = q_dmo rows (B + m) + (if rows (B + m) = q_bit (B + m) then 1 else 0) from rfl, if_neg (by rw [q_inv_ge I (by omega)]; exact fun g => r_bit_nz (by omega) g.symm), ih, Nat.add_zero]
theorem r_cnt_le {S P dr : Nat} (hB : S + P ≤ 38) {s : q_ST} (h : r_st S P s dr) : s.2.2.1.2.2.1 ≤ q_cnt s.2.2.2.1 0 (S + P) ∧ q_cnt s.2.2.2.1 0 (S + P) ≤ s.2.2.2.2.2 ∧ s.2.2.2.2.2 ≤ s.2.1 ∧ s.2.2.2.2.2 ≤ S + P := by
  obtain ⟨ok, hE, hp, hr⟩ := h
  have I := ok.1
  rw [q_cnt0]
  refine ⟨?_, ?_, hr, ?_⟩
  · rw [ok.2.2.2.2.2]
    have e := r_dmo_ext I (38 - (S + P)) (by omega)
    rw [show S + P + (38 - (S + P)) = 38 by omega] at e
    rw [← e]
    exact r_pop_dmo hp.1 38
  · rw [ok.2.1]
    exact r_dmo_rko (S + P) (by omega)
  · rw [ok.2.1]
    exact q_rko_le _ _
