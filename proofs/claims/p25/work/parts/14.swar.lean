/-! bitCount answers 1 for one bit alone: bytes -/
theorem sw_and (a r c m : Nat) (ha : a < 256) (hc : c < 256) : (a + 256 * r) &&& (c + 256 * m) = (a &&& c) + 256 * (r &&& m) := by
  have h1 : ((a + 256 * r) &&& (c + 256 * m)) % 2 ^ 8 = (a &&& c) := by
    rw [Nat.and_mod_two_pow, show (a + 256 * r) % 2 ^ 8 = a by omega, show (c + 256 * m) % 2 ^ 8 = c by omega]
  have h2 : ((a + 256 * r) &&& (c + 256 * m)) / 2 ^ 8 = (r &&& m) := by
    rw [Nat.and_div_two_pow, show (a + 256 * r) / 2 ^ 8 = r by omega, show (c + 256 * m) / 2 ^ 8 = m by omega]
  omega
def sw_V : List Nat → Nat
  | [] => 0
  | a :: L => a + 256 * sw_V L
def sw_m (c : Nat) : Nat → Nat
  | 0 => 0
  | k + 1 => c + 256 * sw_m c k
def sw_1 (a : Nat) : Nat := a - (a / 2 &&& 85)
def sw_2 (a : Nat) : Nat := (a &&& 51) + (a / 4 &&& 51)
def sw_3 (a : Nat) : Nat := (a + a / 16) &&& 15
theorem sw_e1 : ∀ a, a < 128 → ∀ e, e < 2 → (a + 128 * e) &&& 85 = a &&& 85 := by decide +kernel
theorem sw_e2 : ∀ a, a < 64 → ∀ e, e < 4 → (a + 64 * e) &&& 51 = a &&& 51 := by decide +kernel
theorem sw_e3 : ∀ a, a < 96 → ∀ e, e < 5 → (a + 16 * e) &&& 15 = a &&& 15 := by decide +kernel
theorem sw_b1 : ∀ a, a < 256 → sw_1 a < 256 := by decide +kernel
theorem sw_b2 : ∀ a, a < 256 → sw_2 (sw_1 a) % 16 ≤ 4 ∧ sw_2 (sw_1 a) / 16 ≤ 4 := by decide +kernel
theorem sw_b3 : ∀ a, a < 256 → sw_3 (sw_2 (sw_1 a)) ≤ 8 := by decide +kernel
theorem sw_s1 : ∀ L : List Nat, (∀ a ∈ L, a < 256) → sw_V L - (sw_V L / 2 &&& sw_m 85 L.length) = sw_V (L.map sw_1)
  | [], _ => rfl
  | a :: L, h => by
    have ha := h a List.mem_cons_self
    have ih := sw_s1 L (fun b hb => h b (List.mem_cons_of_mem _ hb))
    show (a + 256 * sw_V L) - ((a + 256 * sw_V L) / 2 &&& (85 + 256 * sw_m 85 L.length)) = sw_1 a + 256 * sw_V (L.map sw_1)
    rw [show (a + 256 * sw_V L) / 2 = (a / 2 + 128 * (sw_V L % 2)) + 256 * (sw_V L / 2) by omega, sw_and _ _ _ _ (by omega) (by omega), sw_e1 _ (by omega) _ (by omega), ← ih]
    unfold sw_1
    have h1 : (a / 2 &&& 85) ≤ a / 2 := Nat.and_le_left
    have h2 : (sw_V L / 2 &&& sw_m 85 L.length) ≤ sw_V L / 2 := Nat.and_le_left
    omega
theorem sw_s2 : ∀ L : List Nat, (∀ a ∈ L, a < 256) → (sw_V L &&& sw_m 51 L.length) + (sw_V L / 4 &&& sw_m 51 L.length) = sw_V (L.map sw_2)
  | [], _ => rfl
  | a :: L, h => by
    have ha := h a List.mem_cons_self
    have ih := sw_s2 L (fun b hb => h b (List.mem_cons_of_mem _ hb))
    show ((a + 256 * sw_V L) &&& (51 + 256 * sw_m 51 L.length)) + ((a + 256 * sw_V L) / 4 &&& (51 + 256 * sw_m 51 L.length)) = sw_2 a + 256 * sw_V (L.map sw_2)
    rw [show (a + 256 * sw_V L) / 4 = (a / 4 + 64 * (sw_V L % 4)) + 256 * (sw_V L / 4) by omega, sw_and _ _ _ _ ha (by omega), sw_and _ _ _ _ (by omega) (by omega), sw_e2 _ (by omega) _ (by omega), ← ih]
    unfold sw_2
    omega
theorem sw_s3 : ∀ L : List Nat, (∀ a ∈ L, a < 256 ∧ a % 16 ≤ 4 ∧ a / 16 ≤ 4) → (sw_V L + sw_V L / 16 &&& sw_m 15 L.length) = sw_V (L.map sw_3) ∧ sw_V L % 16 ≤ 4
  | [], _ => ⟨rfl, Nat.zero_le _⟩
  | a :: L, h => by
    obtain ⟨ha, h1, h2⟩ := h a List.mem_cons_self
    obtain ⟨ih, h3⟩ := sw_s3 L (fun b hb => h b (List.mem_cons_of_mem _ hb))
    refine ⟨?_, ?_⟩
    · show ((a + 256 * sw_V L) + (a + 256 * sw_V L) / 16 &&& (15 + 256 * sw_m 15 L.length)) = sw_3 a + 256 * sw_V (L.map sw_3)
      rw [show (a + 256 * sw_V L) + (a + 256 * sw_V L) / 16 = ((a + a / 16) + 16 * (sw_V L % 16)) + 256 * (sw_V L + sw_V L / 16) by omega, sw_and _ _ _ _ (by omega) (by omega), sw_e3 _ (by omega) _ (by omega), ih]
      rfl
    · show (a + 256 * sw_V L) % 16 ≤ 4
      omega
def sw_pc (a : Nat) : Nat := sw_3 (sw_2 (sw_1 a))
def sw_S : List Nat → Nat
  | [] => 0
  | a :: L => sw_pc a + sw_S L
theorem sw_p0 : ∀ a, a < 256 → sw_pc a = 0 → a = 0 := by decide +kernel
theorem sw_p1 : ∀ a, a < 256 → sw_pc a = 1 → ∃ t, t < 8 ∧ a = 2 ^ t := by decide +kernel
theorem sw_S0 : ∀ L : List Nat, (∀ a ∈ L, a < 256) → sw_S L = 0 → sw_V L = 0
  | [], _, _ => rfl
  | a :: L, h, e => by
    have e' : sw_pc a + sw_S L = 0 := e
    have h1 := sw_p0 a (h a List.mem_cons_self) (by omega)
    have h2 := sw_S0 L (fun b hb => h b (List.mem_cons_of_mem _ hb)) (by omega)
    show a + 256 * sw_V L = 0
    omega
theorem sw_S1 : ∀ L : List Nat, (∀ a ∈ L, a < 256) → sw_S L = 1 → ∃ k, k < 8 * L.length ∧ sw_V L = 2 ^ k
  | [], _, e => absurd e (by decide)
  | a :: L, h, e => by
    have e' : sw_pc a + sw_S L = 1 := e
    have hL : ∀ b ∈ L, b < 256 := fun b hb => h b (List.mem_cons_of_mem _ hb)
    have ha := h a List.mem_cons_self
    rcases Nat.eq_zero_or_pos (sw_pc a) with z | z
    · have h1 := sw_p0 a ha z
      obtain ⟨k, hk, ek⟩ := sw_S1 L hL (by omega)
      refine ⟨k + 8, by simp only [List.length_cons]; omega, ?_⟩
      show a + 256 * sw_V L = _
      rw [h1, ek, Nat.pow_add]
      omega
    · obtain ⟨t, ht, et⟩ := sw_p1 a ha (by omega)
      have h2 := sw_S0 L hL (by omega)
      refine ⟨t, by simp only [List.length_cons]; omega, ?_⟩
      show a + 256 * sw_V L = _
      rw [h2, et]
      omega
def sw_by (n : Nat) : Nat → List Nat
  | 0 => []
  | k + 1 => n % 256 :: sw_by (n / 256) k
theorem sw_by_lt : ∀ k n, ∀ a ∈ sw_by n k, a < 256
  | 0, n, a, h => nomatch h
  | k + 1, n, a, h => by
    rcases List.mem_cons.mp h with e | h
    · rw [e]; exact Nat.mod_lt _ (by decide)
    · exact sw_by_lt k _ a h
theorem sw_by_len : ∀ k n, (sw_by n k).length = k
  | 0, _ => rfl
  | k + 1, n => by show (sw_by (n / 256) k).length + 1 = k + 1; rw [sw_by_len k]
theorem sw_by_V : ∀ k n, n < 256 ^ k → sw_V (sw_by n k) = n
  | 0, n, h => by have : n = 0 := by simpa using h
                  rw [this]; rfl
  | k + 1, n, h => by
    show n % 256 + 256 * sw_V (sw_by (n / 256) k) = n
    rw [sw_by_V k (n / 256) (by rw [Nat.pow_succ] at h; omega)]
    omega
theorem sw_V_lt : ∀ L : List Nat, (∀ a ∈ L, a < 256) → sw_V L < 256 ^ L.length
  | [], _ => by decide
  | a :: L, h => by
    have ha := h a List.mem_cons_self
    have ih := sw_V_lt L (fun b hb => h b (List.mem_cons_of_mem _ hb))
    show a + 256 * sw_V L < 256 ^ (L.length + 1)
    rw [Nat.pow_succ]
    omega
theorem sw_d8 {c E : Nat} (h : c < 256) : (c + 256 * E) / 256 = E := by omega
theorem sw_d16 {c E : Nat} (h : c < 65536) : (c + 65536 * E) / 65536 = E := by omega
theorem sw_d32 {c E : Nat} (h : c < 4294967296) : (c + 4294967296 * E) / 4294967296 = E := by omega
theorem sw_m7 {c E : Nat} (h : c < 128) : (c + 128 * E) % 128 = c := by omega
theorem sw_f2 {c0 c1 c2 t1 t2 t3 : Nat} (e2 : t2 = c2 + 256 * t3) (e1 : t1 = c1 + 256 * t2) : (c0 + 256 * t1) + t1 = ((c0 + c1) + 256 * (c1 + c2)) + 65536 * (t2 + t3) := by omega
theorem sw_f4 {a b c2 c3 c4 c5 c6 t2 t3 t4 t5 t6 t7 : Nat} (e6 : t6 = c6 + 256 * t7) (e5 : t5 = c5 + 256 * t6) (e4 : t4 = c4 + 256 * t5) (e3 : t3 = c3 + 256 * t4) (e2 : t2 = c2 + 256 * t3) : ((a + 256 * b) + 65536 * (t2 + t3)) + (t2 + t3) = ((a + c2 + c3) + 256 * (b + c3 + c4) + 65536 * (c2 + c3 + c4 + c5) + 16777216 * (c3 + c4 + c5 + c6)) + 4294967296 * (t4 + t5 + t6 + t7) := by
  subst e2 e3 e4 e5 e6
  omega
theorem sw_f6 {a b c d c4 c5 c6 c7 t4 t5 t6 t7 : Nat} (e7 : t7 = c7) (e6 : t6 = c6 + 256 * t7) (e5 : t5 = c5 + 256 * t6) (e4 : t4 = c4 + 256 * t5) : (a + 256 * b + 65536 * c + 16777216 * d) + 4294967296 * (t4 + t5 + t6 + t7) + (t4 + t5 + t6 + t7) = (a + c4 + c5 + c6 + c7) + 128 * (2 * b + 512 * c + 131072 * d + 33554432 * (t4 + t5 + t6 + t7) + 2 * (t5 + t6 + t7)) := by
  subst e4 e5 e6 e7
  omega
theorem sw_tb {c t u m : Nat} (h : c ≤ 8) (e : t = c + 256 * u) (hu : u ≤ m) : t ≤ 8 + 256 * m := by omega
theorem sw_fin {c0 c1 c2 c3 c4 c5 c6 c7 t1 t2 t3 t4 t5 t6 t7 : Nat} (h0 : c0 ≤ 8) (h1 : c1 ≤ 8) (h2 : c2 ≤ 8) (h3 : c3 ≤ 8) (h4 : c4 ≤ 8) (h5 : c5 ≤ 8) (h6 : c6 ≤ 8) (h7 : c7 ≤ 8) {z y v u : Nat}
    (e7 : t7 = c7) (e6 : t6 = c6 + 256 * t7) (e5 : t5 = c5 + 256 * t6) (e4 : t4 = c4 + 256 * t5) (e3 : t3 = c3 + 256 * t4) (e2 : t2 = c2 + 256 * t3) (e1 : t1 = c1 + 256 * t2)
    (ez : z = c0 + 256 * t1) (ey : y = z + z / 256) (ev : v = y + y / 65536) (eu : u = v + v / 4294967296) : u < 2 ^ 64 ∧ y < 2 ^ 64 ∧ v < 2 ^ 64 ∧ u % 128 = c0 + c1 + c2 + c3 + c4 + c5 + c6 + c7 := by
  have b7 : t7 ≤ 8 := by rw [e7]; exact h7
  have b6 := sw_tb h6 e6 b7
  have b5 := sw_tb h5 e5 b6
  have b4 := sw_tb h4 e4 b5
  have b3 := sw_tb h3 e3 b4
  have b2 := sw_tb h2 e2 b3
  have b1 := sw_tb h1 e1 b2
  have f1 : z / 256 = t1 := by rw [ez]; exact sw_d8 (Nat.lt_of_le_of_lt h0 (by decide))
  rw [f1, ez, sw_f2 e2 e1] at ey
  have k1 : (c0 + c1) + 256 * (c1 + c2) < 65536 := by clear ey ev eu f1 b1 b2 b3 b4 b5 b6 e1 e2 e3 e4 e5 e6; omega
  have f3 : y / 65536 = t2 + t3 := by rw [ey]; exact sw_d16 k1
  rw [f3, ey, sw_f4 e6 e5 e4 e3 e2] at ev
  have k2 : (c0 + c1 + c2 + c3) + 256 * (c1 + c2 + c3 + c4) + 65536 * (c2 + c3 + c4 + c5) + 16777216 * (c3 + c4 + c5 + c6) < 4294967296 := by clear ey ev eu f1 f3 b1 b2 b3 b4 b5 b6 e1 e2 e3 e4 e5 e6; omega
  have f5 : v / 4294967296 = t4 + t5 + t6 + t7 := by rw [ev]; exact sw_d32 k2
  rw [f5, ev, sw_f6 e7 e6 e5 e4] at eu
  clear f1 f3 f5 e1 e2 e3 e4 e5 e6 e7 ez
  refine ⟨by clear ey ev; omega, by clear eu ev; omega, by clear ey eu; omega, ?_⟩
  rw [eu]
  clear ey ev eu k1 k2 b1 b2 b3 b4 b5 b6
  rw [sw_m7 (by omega)]
theorem sw_list (a0 a1 a2 a3 a4 a5 a6 a7 : Nat) : sw_V ((([a0, a1, a2, a3, a4, a5, a6, a7].map sw_1).map sw_2).map sw_3) = sw_pc a0 + 256 * (sw_pc a1 + 256 * (sw_pc a2 + 256 * (sw_pc a3 + 256 * (sw_pc a4 + 256 * (sw_pc a5 + 256 * (sw_pc a6 + 256 * (sw_pc a7 + 256 * 0))))))) := rfl
theorem sw_by8 (n : Nat) : ∃ a0 a1 a2 a3 a4 a5 a6 a7, sw_by n 8 = [a0, a1, a2, a3, a4, a5, a6, a7] := ⟨_, _, _, _, _, _, _, _, rfl⟩
theorem sw_V_le {c : Nat} : ∀ L : List Nat, (∀ a ∈ L, a ≤ c) → 255 * sw_V L + c ≤ c * 256 ^ L.length
  | [], _ => by simp [sw_V]
  | a :: L, h => by
    have ha := h a List.mem_cons_self
    have ih := sw_V_le L (fun b hb => h b (List.mem_cons_of_mem _ hb))
    show 255 * (a + 256 * sw_V L) + c ≤ c * 256 ^ (L.length + 1)
    rw [Nat.pow_succ, ← Nat.mul_assoc]
    omega
abbrev sw_N (x : Int64) : Nat := x.toBitVec.toNat
theorem sw_u1 (x : Int64) : sw_N (q_u x 1) = sw_N x / 2 := by
  unfold q_u
  rw [show ((nI 1).toInt64.toUInt64 &&& Int64.toUInt64 63) = 1 from by decide]
  show (x.toBitVec >>> (1#64 % 64#64)).toNat = _
  rw [show (1#64 % 64#64) = 1#64 from by decide]
  show (x.toBitVec >>> (1 : Nat)).toNat = _
  rw [BitVec.toNat_ushiftRight, Nat.shiftRight_eq_div_pow]
theorem sw_u2 (x : Int64) : sw_N (q_u x 2) = sw_N x / 4 := by
  unfold q_u
  rw [show ((nI 2).toInt64.toUInt64 &&& Int64.toUInt64 63) = 2 from by decide]
  show (x.toBitVec >>> (2#64 % 64#64)).toNat = _
  rw [show (2#64 % 64#64) = 2#64 from by decide]
  show (x.toBitVec >>> (2 : Nat)).toNat = _
  rw [BitVec.toNat_ushiftRight, Nat.shiftRight_eq_div_pow]
theorem sw_u4 (x : Int64) : sw_N (q_u x 4) = sw_N x / 16 := by
  unfold q_u
  rw [show ((nI 4).toInt64.toUInt64 &&& Int64.toUInt64 63) = 4 from by decide]
  show (x.toBitVec >>> (4#64 % 64#64)).toNat = _
  rw [show (4#64 % 64#64) = 4#64 from by decide]
  show (x.toBitVec >>> (4 : Nat)).toNat = _
  rw [BitVec.toNat_ushiftRight, Nat.shiftRight_eq_div_pow]
theorem sw_u8 (x : Int64) : sw_N (q_u x 8) = sw_N x / 256 := by
  unfold q_u
  rw [show ((nI 8).toInt64.toUInt64 &&& Int64.toUInt64 63) = 8 from by decide]
  show (x.toBitVec >>> (8#64 % 64#64)).toNat = _
  rw [show (8#64 % 64#64) = 8#64 from by decide]
  show (x.toBitVec >>> (8 : Nat)).toNat = _
  rw [BitVec.toNat_ushiftRight, Nat.shiftRight_eq_div_pow]
theorem sw_u16 (x : Int64) : sw_N (q_u x 16) = sw_N x / 65536 := by
  unfold q_u
  rw [show ((nI 16).toInt64.toUInt64 &&& Int64.toUInt64 63) = 16 from by decide]
  show (x.toBitVec >>> (16#64 % 64#64)).toNat = _
  rw [show (16#64 % 64#64) = 16#64 from by decide]
  show (x.toBitVec >>> (16 : Nat)).toNat = _
  rw [BitVec.toNat_ushiftRight, Nat.shiftRight_eq_div_pow]
theorem sw_u32 (x : Int64) : sw_N (q_u x 32) = sw_N x / 4294967296 := by
  unfold q_u
  rw [show ((nI 32).toInt64.toUInt64 &&& Int64.toUInt64 63) = 32 from by decide]
  show (x.toBitVec >>> (32#64 % 64#64)).toNat = _
  rw [show (32#64 % 64#64) = 32#64 from by decide]
  show (x.toBitVec >>> (32 : Nat)).toNat = _
  rw [BitVec.toNat_ushiftRight, Nat.shiftRight_eq_div_pow]
theorem sw_Nand (x y : Int64) : sw_N (x &&& y) = sw_N x &&& sw_N y := by
  show (x &&& y).toBitVec.toNat = _
  rw [Int64.toBitVec_and, BitVec.toNat_and]
theorem sw_Nadd {x y : Int64} (h : sw_N x + sw_N y < 2 ^ 64) : sw_N (x + y) = sw_N x + sw_N y := by
  show (x + y).toBitVec.toNat = _
  rw [Int64.toBitVec_add, BitVec.toNat_add]
  exact Nat.mod_eq_of_lt h
theorem sw_Nsub {x y : Int64} (h : sw_N y ≤ sw_N x) : sw_N (x - y) = sw_N x - sw_N y := by
  show (x - y).toBitVec.toNat = _
  rw [Int64.toBitVec_sub, BitVec.toNat_sub]
  have h1 : sw_N x < 2 ^ 64 := x.toBitVec.isLt
  have h2 : sw_N y < 2 ^ 64 := y.toBitVec.isLt
  show (2 ^ 64 - sw_N y + sw_N x) % 2 ^ 64 = _
  rw [show 2 ^ 64 - sw_N y + sw_N x = (sw_N x - sw_N y) + 2 ^ 64 by omega, Nat.add_mod_right]
  exact Nat.mod_eq_of_lt (by omega)
theorem sw_c1 : sw_N 6148914691236517205 = sw_m 85 8 := by decide +kernel
theorem sw_c2 : sw_N 3689348814741910323 = sw_m 51 8 := by decide +kernel
theorem sw_c3 : sw_N 1085102592571150095 = sw_m 15 8 := by decide +kernel
theorem sw_all {P Q : Nat → Prop} {f : Nat → Nat} (h : ∀ a, P a → Q (f a)) {L : List Nat} (hL : ∀ a ∈ L, P a) : ∀ a ∈ L.map f, Q a := by
  intro a ha
  obtain ⟨b, hb, e⟩ := List.mem_map.mp ha
  rw [← e]
  exact h b (hL b hb)
theorem sw_bc (x : Int64) : (q_bc x).toBitVec.toNat = sw_S (sw_by (sw_N x) 8) := by
  have hx : sw_N x < 256 ^ 8 := x.toBitVec.isLt
  have hL : ∀ a ∈ sw_by (sw_N x) 8, a < 256 := sw_by_lt 8 _
  have eV := sw_by_V 8 _ hx
  have hl : (sw_by (sw_N x) 8).length = 8 := sw_by_len 8 _
  have s1 := sw_s1 _ hL
  rw [hl, eV] at s1
  have n1 : sw_N (q_bc1 x) = sw_V ((sw_by (sw_N x) 8).map sw_1) := by
    unfold q_bc1
    have e : sw_N (q_u x 1 &&& 6148914691236517205) = (sw_N x / 2 &&& sw_m 85 8) := by rw [sw_Nand, sw_u1, sw_c1]
    have le : (sw_N x / 2 &&& sw_m 85 8) ≤ sw_N x / 2 := Nat.and_le_left
    rw [sw_Nsub (by rw [e]; omega), e, s1]
  have hL1 : ∀ a ∈ (sw_by (sw_N x) 8).map sw_1, a < 256 := sw_all (P := fun a => a < 256) (Q := fun a => a < 256) sw_b1 hL
  have hL2 : ∀ a ∈ ((sw_by (sw_N x) 8).map sw_1).map sw_2, a < 256 ∧ a % 16 ≤ 4 ∧ a / 16 ≤ 4 := by
    rw [List.map_map]
    refine sw_all (P := fun a => a < 256) (Q := fun a => a < 256 ∧ a % 16 ≤ 4 ∧ a / 16 ≤ 4) (fun a ha => ?_) hL
    have := sw_b2 a ha
    exact ⟨by show sw_2 (sw_1 a) < 256; omega, this⟩
  have hl1 : ((sw_by (sw_N x) 8).map sw_1).length = 8 := by rw [List.length_map, hl]
  have hl2 : (((sw_by (sw_N x) 8).map sw_1).map sw_2).length = 8 := by rw [List.length_map, hl1]
  have s2 := sw_s2 _ hL1
  rw [hl1] at s2
  have hV2 := sw_V_le (c := 68) _ (fun a ha => by have := hL2 a ha; omega)
  rw [hl2] at hV2
  have n2 : sw_N (q_bc2 (q_bc1 x)) = sw_V (((sw_by (sw_N x) 8).map sw_1).map sw_2) := by
    unfold q_bc2
    have e1 : sw_N (q_bc1 x &&& 3689348814741910323) = (sw_V ((sw_by (sw_N x) 8).map sw_1) &&& sw_m 51 8) := by rw [sw_Nand, n1, sw_c2]
    have e2 : sw_N (q_u (q_bc1 x) 2 &&& 3689348814741910323) = (sw_V ((sw_by (sw_N x) 8).map sw_1) / 4 &&& sw_m 51 8) := by rw [sw_Nand, sw_u2, n1, sw_c2]
    rw [sw_Nadd (by rw [e1, e2, s2]; omega), e1, e2, s2]
  have s3 := (sw_s3 _ hL2).1
  rw [hl2] at s3
  have n3 : sw_N (q_bc3 (q_bc2 (q_bc1 x))) = sw_V ((((sw_by (sw_N x) 8).map sw_1).map sw_2).map sw_3) := by
    unfold q_bc3
    have e2 : sw_N (q_u (q_bc2 (q_bc1 x)) 4) = sw_V (((sw_by (sw_N x) 8).map sw_1).map sw_2) / 16 := by rw [sw_u4, n2]
    rw [sw_Nand, sw_Nadd (by rw [n2, e2]; omega), n2, e2, sw_c3, s3]
  obtain ⟨a0, a1, a2, a3, a4, a5, a6, a7, eL⟩ := sw_by8 (sw_N x)
  rw [eL, sw_list] at n3
  rw [eL] at hL
  obtain ⟨f1, f2, f3, f4⟩ := sw_fin (sw_b3 a0 (hL _ (by simp))) (sw_b3 a1 (hL _ (by simp))) (sw_b3 a2 (hL _ (by simp))) (sw_b3 a3 (hL _ (by simp))) (sw_b3 a4 (hL _ (by simp))) (sw_b3 a5 (hL _ (by simp))) (sw_b3 a6 (hL _ (by simp))) (sw_b3 a7 (hL _ (by simp))) (z := sw_N (q_bc3 (q_bc2 (q_bc1 x)))) (by rfl) rfl rfl rfl rfl rfl rfl n3 rfl rfl rfl
  have n4 : sw_N (q_bc4 (q_bc3 (q_bc2 (q_bc1 x)))) = sw_N (q_bc3 (q_bc2 (q_bc1 x))) + sw_N (q_bc3 (q_bc2 (q_bc1 x))) / 256 := by
    unfold q_bc4
    rw [sw_Nadd (by rw [sw_u8]; exact f2), sw_u8]
  have n5 : sw_N (q_bc5 (q_bc4 (q_bc3 (q_bc2 (q_bc1 x))))) = sw_N (q_bc4 (q_bc3 (q_bc2 (q_bc1 x)))) + sw_N (q_bc4 (q_bc3 (q_bc2 (q_bc1 x)))) / 65536 := by
    unfold q_bc5
    rw [sw_Nadd (by rw [sw_u16, n4]; exact f3), sw_u16]
  have n6 : sw_N (q_bc6 (q_bc5 (q_bc4 (q_bc3 (q_bc2 (q_bc1 x)))))) = sw_N (q_bc5 (q_bc4 (q_bc3 (q_bc2 (q_bc1 x))))) + sw_N (q_bc5 (q_bc4 (q_bc3 (q_bc2 (q_bc1 x))))) / 4294967296 := by
    unfold q_bc6
    rw [sw_Nadd (by rw [sw_u32, n5, n4]; exact f1), sw_u32]
  rw [n5, n4] at n6
  rw [← n6] at f4
  have e7 : (q_bc x).toBitVec.toNat = sw_N (q_bc6 (q_bc5 (q_bc4 (q_bc3 (q_bc2 (q_bc1 x)))))) % 128 := by
    show ((q_bc6 (q_bc5 (q_bc4 (q_bc3 (q_bc2 (q_bc1 x)))))).toInt32 &&& nI 127).toBitVec.toNat = _
    rw [Int32.toBitVec_and, BitVec.toNat_and]
    show (q_bc6 (q_bc5 (q_bc4 (q_bc3 (q_bc2 (q_bc1 x)))))).toInt32.toBitVec.toNat &&& (2 ^ 7 - 1) = _
    rw [Nat.and_two_pow_sub_one_eq_mod]
    show (BitVec.signExtend 32 (q_bc6 (q_bc5 (q_bc4 (q_bc3 (q_bc2 (q_bc1 x)))))).toBitVec).toNat % 2 ^ 7 = _
    rw [BitVec.signExtend_eq_setWidth_of_le _ (by decide), BitVec.toNat_setWidth]
    exact Nat.mod_mod_of_dvd _ (by decide)
  rw [e7, f4, eL]
  show sw_pc a0 + sw_pc a1 + sw_pc a2 + sw_pc a3 + sw_pc a4 + sw_pc a5 + sw_pc a6 + sw_pc a7 = sw_pc a0 + (sw_pc a1 + (sw_pc a2 + (sw_pc a3 + (sw_pc a4 + (sw_pc a5 + (sw_pc a6 + (sw_pc a7 + 0)))))))
  omega
theorem sw_pow : ∀ k, k < 64 → q_bc (q_bit k) = nI 1 ∧ q_bit k ≠ 0 ∧ q_bit k &&& (q_bit k - 1) = 0 ∧ sw_N (q_bit k) = 2 ^ k := by decide +kernel
theorem sw_subone (x : Int64) (j : Nat) (hj : j < 64) : tb (x - 1) j = !tb (-x) j := by
  have e : x - 1 = (-x) ^^^ (-1) := by
    apply Int64.toBitVec_inj.mp
    rw [Int64.toBitVec_sub, Int64.toBitVec_xor, Int64.toBitVec_neg]
    show x.toBitVec - 1#64 = -x.toBitVec ^^^ BitVec.allOnes 64
    rw [BitVec.xor_allOnes, BitVec.not_neg]
  have m1 : ∀ k, k < 64 → tb (-1) k = true := by decide +kernel
  rw [e, tb_xor, m1 j hj]
  cases tb (-x) j <;> rfl
theorem q_one_bit {x : Int64} (hx : x ≠ 0) (h : x &&& (x - 1) = 0) : x = q_bit (q_low x) := by
  have hl : q_low x < 64 ∧ tb x (q_low x) = true ∧ ∀ j, j < q_low x → tb x j = false := by
    rcases q_low_spec x with ⟨_, b⟩ | h2
    · exact absurd b hx
    · exact h2
  apply tb_ext
  intro j hj
  rw [tb_bit]
  rcases Nat.lt_trichotomy j (q_low x) with a | a | a
  · rw [hl.2.2 j a]
    have : j ≠ q_low x := by omega
    simp [this]
  · rw [a]
    simp [hl.1, hl.2.1]
  · have n : j ≠ q_low x := by omega
    have e : tb (x &&& (x - 1)) j = false := by rw [h, tb_zero]
    have g : ∃ i, i < j ∧ tb x i = true := ⟨_, a, hl.2.1⟩
    rw [tb_and, sw_subone x j hj, tb_neg] at e
    simp [n]
    cases ex : tb x j with
    | false => rfl
    | true => rw [ex] at e; simp [g, hj] at e
theorem q_bc_one (x : Int64) : q_bc x = nI 1 ↔ (x ≠ 0 ∧ x &&& (x - 1) = 0) := by
  constructor
  · intro h
    have e := sw_bc x
    rw [h] at e
    have e1 : sw_S (sw_by (sw_N x) 8) = 1 := e.symm
    obtain ⟨k, hk, ek⟩ := sw_S1 _ (sw_by_lt 8 _) e1
    rw [sw_by_len] at hk
    rw [sw_by_V 8 _ x.toBitVec.isLt] at ek
    have p := sw_pow k (by omega)
    have ex : x = q_bit k := Int64.toBitVec_inj.mp (BitVec.eq_of_toNat_eq (ek.trans p.2.2.2.symm))
    rw [ex]
    exact ⟨p.2.1, p.2.2.1⟩
  · intro h
    have ex := q_one_bit h.1 h.2
    have hl : q_low x < 64 := by
      rcases q_low_spec x with ⟨_, b⟩ | h2
      · exact absurd b h.1
      · exact h2.1
    rw [ex]
    exact (sw_pow _ hl).1
theorem q_rd_t {msk : Nat → Int64} {ps : Int64} {i : Nat} (h1 : q_lf msk ps i ≠ 0) (h2 : q_lf msk ps i &&& (q_lf msk ps i - 1) = 0) : q_rd msk ps i = true := decide_eq_true ((q_bc_one _).mpr ⟨h1, h2⟩)
theorem q_rd_f0 {msk : Nat → Int64} {ps : Int64} {i : Nat} (h1 : q_lf msk ps i = 0) : q_rd msk ps i = false := decide_eq_false (fun h => ((q_bc_one _).mp h).1 h1)
theorem q_rd_f1 {msk : Nat → Int64} {ps : Int64} {i : Nat} (h2 : q_lf msk ps i &&& (q_lf msk ps i - 1) ≠ 0) : q_rd msk ps i = false := decide_eq_false (fun h => h2 ((q_bc_one _).mp h).2)
