/-! odds, the model's side -/
def o_its (x st : Nat) : Nat → Nat
  | 0 => 1
  | t + 1 => o_its x st t * (if st.testBit t then x else 10 - x)
def o_ab (x n k : Nat) : Nat → Nat
  | 0 => 0
  | s + 1 => o_ab x n k s + (if r_pc 6 s ≤ k then o_its x s n else 0)
theorem o_fin : ∀ n, n < 5 → ∀ x, x < 11 → ∀ k, k < 5 → r_sum (o_row x n) (k + 1) = o_ab x n k (2 ^ n) ∧ r_eu 64 (10 ^ n) (r_sum (o_row x n) (k + 1)) = Nat.gcd (10 ^ n) (r_sum (o_row x n) (k + 1)) ∧ r_sum (o_row x n) (k + 1) < 100000 ∧ 0 < Nat.gcd (10 ^ n) (r_sum (o_row x n) (k + 1)) ∧ Nat.gcd (10 ^ n) (r_sum (o_row x n) (k + 1)) < 100000 ∧ 10 ^ n < 100000 := by decide +kernel
theorem r_pc_le (x : Nat) : ∀ k, r_pc k x ≤ k
  | 0 => Nat.le_refl _
  | k + 1 => by
    have := r_pc_le x k
    simp only [r_pc]; split <;> omega
section OM
variable {I : am_I} {L : am_L} {P : am_P} {S : am_S} {Q : Option Value → am_I → am_L → am_P → am_S → Prop} {h s n Lx x k w : Nat} {sg : am_G0}
theorem s98 {a t : Nat} (ha : a < 2147483648) (ht : t < 32) : Ev 98 [.int (nI a), .int (nI t)] I L P S Q ↔ Q (some (.int (if a.testBit t then nI 1 else nI 0))) I L P S := by
  have e := n_tb (r := a) (t := t)
  by_cases hc : a.testBit t = true
  · rw [if_pos hc] at e ⊢
    simp +decide (disch := omega) only [xe98, x98_0, x98_1, x98_2, x98_3, x98_4, x98_5, x98_6, x98_9, x98_10, x98_13, x98_14, ↓reduceIte, true_and, and_true, if_true, if_false, ne_eq, not_false_eq_true, am_u_at, am_nb0, am_nb1, am_fb0, am_fb1, am_kc_i, am_kc_r, am_kc_l, am_kc_n, am_wsum_n, am_wsum_i, am_wsum_r, am_wsum_l, am_rs_s, am_rs_n, n_c0, n_c1, n_c2, n_c3, n_c4, n_c5, n_c6, n_c7, n_c8, n_c9, n_c10, n_c11, n_c12, n_c14, n_c16, n_c18, n_c20, n_c24, n_c30, n_c31, n_c32, n_c36, n_c48, n_c57, n_c60, n_c63, n_c70, n_c75, n_c97, n_c100, n_c101, n_c104, n_c115, n_c116, n_c59, n_c150, n_c199, n_c200, n_c201, n_c216, n_c255, n_c256, n_c999, n_c1296, n_c4095, n_c6480, n_c100000, n_c1000, n_c65536, n_le, n_lt0, n_lt, n_eq, n_cl, n_add, n_sub, n_mul, n_div, n_rem, n_mo, n_in, n_nb0, n_nb1, n_fb0, n_fb1, n_vb0, n_vb1, n_k31, n_shr2, n_and, e]
  · rw [if_neg hc] at e ⊢
    simp +decide (disch := omega) only [xe98, x98_0, x98_1, x98_2, x98_3, x98_4, x98_5, x98_6, x98_9, x98_10, x98_13, x98_14, ↓reduceIte, true_and, and_true, if_true, if_false, ne_eq, not_false_eq_true, am_u_at, am_nb0, am_nb1, am_fb0, am_fb1, am_kc_i, am_kc_r, am_kc_l, am_kc_n, am_wsum_n, am_wsum_i, am_wsum_r, am_wsum_l, am_rs_s, am_rs_n, n_c0, n_c1, n_c2, n_c3, n_c4, n_c5, n_c6, n_c7, n_c8, n_c9, n_c10, n_c11, n_c12, n_c14, n_c16, n_c18, n_c20, n_c24, n_c30, n_c31, n_c32, n_c36, n_c48, n_c57, n_c60, n_c63, n_c70, n_c75, n_c97, n_c100, n_c101, n_c104, n_c115, n_c116, n_c59, n_c150, n_c199, n_c200, n_c201, n_c216, n_c255, n_c256, n_c999, n_c1296, n_c4095, n_c6480, n_c100000, n_c1000, n_c65536, n_le, n_lt0, n_lt, n_eq, n_cl, n_add, n_sub, n_mul, n_div, n_rem, n_mo, n_in, n_nb0, n_nb1, n_fb0, n_fb1, n_vb0, n_vb1, n_k31, n_shr2, n_and, e]
theorem l142a {l7 l8 l9 : Option Value} {a0 a1 a2 a3 : Int32} {v0 : Value} (hn : n ≤ 4) : ∀ (m i : Nat), i + m = n →
    (Ex 142 48 [some v0, some (.int a0), some (.int a1), some (.int a2), some (.int (nI n)), some (.int a3), some (.int (nI (10 ^ i))), some (.int (nI i)), l8, l9] [] I L P S Q ↔ Ex 142 68 [some v0, some (.int a0), some (.int a1), some (.int a2), some (.int (nI n)), some (.int a3), some (.int (nI (10 ^ n))), some (.int (nI n)), l8, l9] [] I L P S Q) := by
  intro m
  induction m with
  | zero =>
    intro i hi
    obtain rfl : i = n := by omega
    rw [x142_48]
    simp +decide (disch := omega) only [x142_50, x142_52, ↓reduceIte, true_and, and_true, if_true, if_false, ne_eq, not_false_eq_true, am_u_at, am_nb0, am_nb1, am_fb0, am_fb1, am_kc_i, am_kc_r, am_kc_l, am_kc_n, am_wsum_n, am_wsum_i, am_wsum_r, am_wsum_l, am_rs_s, am_rs_n, n_c0, n_c1, n_c2, n_c3, n_c4, n_c5, n_c6, n_c7, n_c8, n_c9, n_c10, n_c11, n_c12, n_c14, n_c16, n_c18, n_c20, n_c24, n_c30, n_c31, n_c32, n_c36, n_c48, n_c57, n_c60, n_c63, n_c70, n_c75, n_c97, n_c100, n_c101, n_c104, n_c115, n_c116, n_c59, n_c150, n_c199, n_c200, n_c201, n_c216, n_c255, n_c256, n_c999, n_c1296, n_c4095, n_c6480, n_c100000, n_c1000, n_c65536, n_le, n_lt0, n_lt, n_eq, n_cl, n_add, n_sub, n_mul, n_div, n_rem, n_mo, n_in, n_nb0, n_nb1, n_fb0, n_fb1, n_vb0, n_vb1, Nat.le_refl]
  | succ m ih =>
    intro i hi
    have c1 : ¬ n ≤ i := by omega
    rw [x142_48]
    simp +decide (disch := omega) only [x142_50, x142_52, x142_55, x142_57, x142_59, x142_60, x142_62, x142_65, ↓reduceIte, true_and, and_true, if_true, if_false, ne_eq, not_false_eq_true, am_u_at, am_nb0, am_nb1, am_fb0, am_fb1, am_kc_i, am_kc_r, am_kc_l, am_kc_n, am_wsum_n, am_wsum_i, am_wsum_r, am_wsum_l, am_rs_s, am_rs_n, n_c0, n_c1, n_c2, n_c3, n_c4, n_c5, n_c6, n_c7, n_c8, n_c9, n_c10, n_c11, n_c12, n_c14, n_c16, n_c18, n_c20, n_c24, n_c30, n_c31, n_c32, n_c36, n_c48, n_c57, n_c60, n_c63, n_c70, n_c75, n_c97, n_c100, n_c101, n_c104, n_c115, n_c116, n_c59, n_c150, n_c199, n_c200, n_c201, n_c216, n_c255, n_c256, n_c999, n_c1296, n_c4095, n_c6480, n_c100000, n_c1000, n_c65536, n_le, n_lt0, n_lt, n_eq, n_cl, n_add, n_sub, n_mul, n_div, n_rem, n_mo, n_in, n_nb0, n_nb1, n_fb0, n_fb1, n_vb0, n_vb1, c1]
    rw [show 10 ^ i * 10 = 10 ^ (i + 1) from (Nat.pow_succ ..).symm]
    exact ih (i + 1) (by omega)
theorem l142c {a1 a2 a3 a4 : Int32} {v0 : Value} {c : Nat} (hx : x ≤ 10) (hn : n ≤ 4) (hc : c < 64) : ∀ (m i : Nat), i + m = n →
    (Ex 142 86 [some v0, some (.int (nI x)), some (.int a1), some (.int a2), some (.int (nI n)), some (.int a3), some (.int a4), some (.int (nI c)), some (.int (nI (o_its x c i))), some (.int (nI i))] [] I L P S Q ↔ Ex 142 122 [some v0, some (.int (nI x)), some (.int a1), some (.int a2), some (.int (nI n)), some (.int a3), some (.int a4), some (.int (nI c)), some (.int (nI (o_its x c n))), some (.int (nI n))] [] I L P S Q) := by
  intro m
  induction m with
  | zero =>
    intro i hi
    obtain rfl : i = n := by omega
    rw [x142_86]
    simp +decide (disch := omega) only [x142_88, x142_90, ↓reduceIte, true_and, and_true, if_true, if_false, ne_eq, not_false_eq_true, am_u_at, am_nb0, am_nb1, am_fb0, am_fb1, am_kc_i, am_kc_r, am_kc_l, am_kc_n, am_wsum_n, am_wsum_i, am_wsum_r, am_wsum_l, am_rs_s, am_rs_n, n_c0, n_c1, n_c2, n_c3, n_c4, n_c5, n_c6, n_c7, n_c8, n_c9, n_c10, n_c11, n_c12, n_c14, n_c16, n_c18, n_c20, n_c24, n_c30, n_c31, n_c32, n_c36, n_c48, n_c57, n_c60, n_c63, n_c70, n_c75, n_c97, n_c100, n_c101, n_c104, n_c115, n_c116, n_c59, n_c150, n_c199, n_c200, n_c201, n_c216, n_c255, n_c256, n_c999, n_c1296, n_c4095, n_c6480, n_c100000, n_c1000, n_c65536, n_le, n_lt0, n_lt, n_eq, n_cl, n_add, n_sub, n_mul, n_div, n_rem, n_mo, n_in, n_nb0, n_nb1, n_fb0, n_fb1, n_vb0, n_vb1, Nat.le_refl]
  | succ m ih =>
    intro i hi
    have c1 : ¬ n ≤ i := by omega
    have ih2 := ih (i + 1) (by omega)
    simp only [o_its] at ih2
    rw [x142_86]
    by_cases hb : c.testBit i = true
    · rw [if_pos hb] at ih2
      simp +decide (disch := omega) only [x142_88, x142_90, x142_93, x142_95, x142_97, x142_99, x142_102, x142_105, x142_106, x142_109, x142_111, x142_112, x142_113, x142_114, x142_116, x142_119, ↓reduceIte, true_and, and_true, if_true, if_false, ne_eq, not_false_eq_true, am_u_at, am_nb0, am_nb1, am_fb0, am_fb1, am_kc_i, am_kc_r, am_kc_l, am_kc_n, am_wsum_n, am_wsum_i, am_wsum_r, am_wsum_l, am_rs_s, am_rs_n, n_c0, n_c1, n_c2, n_c3, n_c4, n_c5, n_c6, n_c7, n_c8, n_c9, n_c10, n_c11, n_c12, n_c14, n_c16, n_c18, n_c20, n_c24, n_c30, n_c31, n_c32, n_c36, n_c48, n_c57, n_c60, n_c63, n_c70, n_c75, n_c97, n_c100, n_c101, n_c104, n_c115, n_c116, n_c59, n_c150, n_c199, n_c200, n_c201, n_c216, n_c255, n_c256, n_c999, n_c1296, n_c4095, n_c6480, n_c100000, n_c1000, n_c65536, n_le, n_lt0, n_lt, n_eq, n_cl, n_add, n_sub, n_mul, n_div, n_rem, n_mo, n_in, n_nb0, n_nb1, n_fb0, n_fb1, n_vb0, n_vb1, s98, hb, c1]
      exact ih2
    · rw [if_neg hb] at ih2
      simp +decide (disch := omega) only [x142_88, x142_90, x142_93, x142_95, x142_97, x142_99, x142_102, x142_105, x142_106, x142_109, x142_111, x142_112, x142_113, x142_114, x142_116, x142_119, ↓reduceIte, true_and, and_true, if_true, if_false, ne_eq, not_false_eq_true, am_u_at, am_nb0, am_nb1, am_fb0, am_fb1, am_kc_i, am_kc_r, am_kc_l, am_kc_n, am_wsum_n, am_wsum_i, am_wsum_r, am_wsum_l, am_rs_s, am_rs_n, n_c0, n_c1, n_c2, n_c3, n_c4, n_c5, n_c6, n_c7, n_c8, n_c9, n_c10, n_c11, n_c12, n_c14, n_c16, n_c18, n_c20, n_c24, n_c30, n_c31, n_c32, n_c36, n_c48, n_c57, n_c60, n_c63, n_c70, n_c75, n_c97, n_c100, n_c101, n_c104, n_c115, n_c116, n_c59, n_c150, n_c199, n_c200, n_c201, n_c216, n_c255, n_c256, n_c999, n_c1296, n_c4095, n_c6480, n_c100000, n_c1000, n_c65536, n_le, n_lt0, n_lt, n_eq, n_cl, n_add, n_sub, n_mul, n_div, n_rem, n_mo, n_in, n_nb0, n_nb1, n_fb0, n_fb1, n_vb0, n_vb1, s98, hb, c1]
      exact ih2
theorem s141 {A B : Nat} (hA : A < 100000) (hB : B < 100000) (hw : w < 2) (hg : 0 < Nat.gcd B A) : Ev 141 [.int (nI A), .int (nI B), .int (nI w)] I L P S Q ↔ Q (some (.int (nI ((if w = 0 then A else B) / Nat.gcd B A)))) I L P S := by
  simp only [xe141, x141_0, x141_1, x141_2, x141_3, ↓reduceIte, true_and, and_true, if_true, if_false, ne_eq, not_false_eq_true, am_u_at, am_nb0, am_nb1, am_fb0, am_fb1, am_kc_i, am_kc_r, am_kc_l, am_kc_n, am_wsum_n, am_wsum_i, am_wsum_r, am_wsum_l, am_rs_s, am_rs_n]
  exact l141 hA hB hw B A none hA hB hg (Or.inl rfl)
theorem l142b (hx : x ≤ 10) (hn : n ≤ 4) (hk : k ≤ 4) (hw : w < 2) : ∀ (m i : Nat) (l8 l9 : Option Value), i + m = 2 ^ n → ((l8 = none ∧ l9 = none) ∨ ∃ y z, l8 = some (.int y) ∧ l9 = some (.int z)) →
    (Ex 142 71 [some (.ref 63), some (.int (nI x)), some (.int (nI k)), some (.int (nI w)), some (.int (nI n)), some (.int (nI (o_ab x n k i))), some (.int (nI (10 ^ n))), some (.int (nI i)), l8, l9] [] I L P S Q ↔ Q (some (.int (nI ((if w = 0 then o_ab x n k (2 ^ n) else 10 ^ n) / Nat.gcd (10 ^ n) (o_ab x n k (2 ^ n)))))) I L P S) := by
  obtain ⟨f1, f2, f3, f4, f5, f6⟩ := o_fin n (by omega) x (by omega) k (by omega)
  rw [f1] at f3 f4
  have hp : 2 ^ n ≤ 2 ^ 4 := Nat.pow_le_pow_right (by omega) hn
  have hq : 1 * 2 ^ n < 4294967296 := by omega
  intro m
  induction m with
  | zero =>
    intro i l8 l9 hi hl
    obtain rfl : i = 2 ^ n := by omega
    rw [x142_71]
    rcases hl with ⟨rfl, rfl⟩ | ⟨y, z, rfl, rfl⟩ <;> simp +decide (disch := first | omega | exact hq) only [x142_73, x142_74, x142_76, x142_77, x142_148, x142_150, x142_152, x142_153, x142_156, ↓reduceIte, true_and, and_true, if_true, if_false, ne_eq, not_false_eq_true, am_u_at, am_nb0, am_nb1, am_fb0, am_fb1, am_kc_i, am_kc_r, am_kc_l, am_kc_n, am_wsum_n, am_wsum_i, am_wsum_r, am_wsum_l, am_rs_s, am_rs_n, n_c0, n_c1, n_c2, n_c3, n_c4, n_c5, n_c6, n_c7, n_c8, n_c9, n_c10, n_c11, n_c12, n_c14, n_c16, n_c18, n_c20, n_c24, n_c30, n_c31, n_c32, n_c36, n_c48, n_c57, n_c60, n_c63, n_c70, n_c75, n_c97, n_c100, n_c101, n_c104, n_c115, n_c116, n_c59, n_c150, n_c199, n_c200, n_c201, n_c216, n_c255, n_c256, n_c999, n_c1296, n_c4095, n_c6480, n_c100000, n_c1000, n_c65536, n_le, n_lt0, n_lt, n_eq, n_cl, n_add, n_sub, n_mul, n_div, n_rem, n_mo, n_in, n_nb0, n_nb1, n_fb0, n_fb1, n_vb0, n_vb1, n_k31, n_shl2, n_and, Nat.one_mul, Nat.le_refl, s141 f3 f6 hw f4]
  | succ m ih =>
    intro i l8 l9 hi hl
    have c1 : ¬ 2 ^ n ≤ i := by omega
    have ih2 := ih (i + 1) (some (.int (nI (o_its x i n)))) (some (.int (nI n))) (by omega) (Or.inr ⟨_, _, rfl, rfl⟩)
    simp only [o_ab] at ih2
    have h1 : nI 1 = nI (o_its x i 0) := rfl
    have hi64 : i < 64 := by omega
    have hl9 : Ex 142 71 [some (.ref 63), some (.int (nI x)), some (.int (nI k)), some (.int (nI w)), some (.int (nI n)), some (.int (nI (o_ab x n k i))), some (.int (nI (10 ^ n))), some (.int (nI i)), l8, l9] [] I L P S Q ↔ Ex 142 86 [some (.ref 63), some (.int (nI x)), some (.int (nI k)), some (.int (nI w)), some (.int (nI n)), some (.int (nI (o_ab x n k i))), some (.int (nI (10 ^ n))), some (.int (nI i)), some (.int (nI 1)), some (.int (nI 0))] [] I L P S Q := by
      rw [x142_71]
      rcases hl with ⟨rfl, rfl⟩ | ⟨y, z, rfl, rfl⟩ <;> simp +decide (disch := first | omega | exact hq) only [x142_73, x142_74, x142_76, x142_77, x142_80, x142_81, x142_83, x142_84, ↓reduceIte, true_and, and_true, if_true, if_false, ne_eq, not_false_eq_true, am_u_at, am_nb0, am_nb1, am_fb0, am_fb1, am_kc_i, am_kc_r, am_kc_l, am_kc_n, am_wsum_n, am_wsum_i, am_wsum_r, am_wsum_l, am_rs_s, am_rs_n, n_c0, n_c1, n_c2, n_c3, n_c4, n_c5, n_c6, n_c7, n_c8, n_c9, n_c10, n_c11, n_c12, n_c14, n_c16, n_c18, n_c20, n_c24, n_c30, n_c31, n_c32, n_c36, n_c48, n_c57, n_c60, n_c63, n_c70, n_c75, n_c97, n_c100, n_c101, n_c104, n_c115, n_c116, n_c59, n_c150, n_c199, n_c200, n_c201, n_c216, n_c255, n_c256, n_c999, n_c1296, n_c4095, n_c6480, n_c100000, n_c1000, n_c65536, n_le, n_lt0, n_lt, n_eq, n_cl, n_add, n_sub, n_mul, n_div, n_rem, n_mo, n_in, n_nb0, n_nb1, n_fb0, n_fb1, n_vb0, n_vb1, n_k31, n_shl2, n_and, Nat.one_mul, c1]
    rw [hl9, h1, l142c hx hn hi64 n 0 (by omega)]
    have p6 := r_pc_le i 6
    by_cases hb : r_pc 6 i ≤ k
    · have hb2 : ¬ k < r_pc 6 i := by omega
      rw [if_pos hb] at ih2
      simp +decide (disch := omega) only [x142_122, x142_124, x142_126, x142_129, x142_130, x142_133, x142_135, x142_138, x142_139, x142_140, x142_142, x142_145, ↓reduceIte, true_and, and_true, if_true, if_false, ne_eq, not_false_eq_true, am_u_at, am_nb0, am_nb1, am_fb0, am_fb1, am_kc_i, am_kc_r, am_kc_l, am_kc_n, am_wsum_n, am_wsum_i, am_wsum_r, am_wsum_l, am_rs_s, am_rs_n, n_c0, n_c1, n_c2, n_c3, n_c4, n_c5, n_c6, n_c7, n_c8, n_c9, n_c10, n_c11, n_c12, n_c14, n_c16, n_c18, n_c20, n_c24, n_c30, n_c31, n_c32, n_c36, n_c48, n_c57, n_c60, n_c63, n_c70, n_c75, n_c97, n_c100, n_c101, n_c104, n_c115, n_c116, n_c59, n_c150, n_c199, n_c200, n_c201, n_c216, n_c255, n_c256, n_c999, n_c1296, n_c4095, n_c6480, n_c100000, n_c1000, n_c65536, n_le, n_lt0, n_lt, n_eq, n_cl, n_add, n_sub, n_mul, n_div, n_rem, n_mo, n_in, n_nb0, n_nb1, n_fb0, n_fb1, n_vb0, n_vb1, s99, hb, hb2, Nat.add_zero]
      exact ih2
    · have hb2 : k < r_pc 6 i := by omega
      rw [if_neg hb, Nat.add_zero] at ih2
      simp +decide (disch := omega) only [x142_122, x142_124, x142_126, x142_129, x142_130, x142_133, x142_135, x142_138, x142_139, x142_140, x142_142, x142_145, ↓reduceIte, true_and, and_true, if_true, if_false, ne_eq, not_false_eq_true, am_u_at, am_nb0, am_nb1, am_fb0, am_fb1, am_kc_i, am_kc_r, am_kc_l, am_kc_n, am_wsum_n, am_wsum_i, am_wsum_r, am_wsum_l, am_rs_s, am_rs_n, n_c0, n_c1, n_c2, n_c3, n_c4, n_c5, n_c6, n_c7, n_c8, n_c9, n_c10, n_c11, n_c12, n_c14, n_c16, n_c18, n_c20, n_c24, n_c30, n_c31, n_c32, n_c36, n_c48, n_c57, n_c60, n_c63, n_c70, n_c75, n_c97, n_c100, n_c101, n_c104, n_c115, n_c116, n_c59, n_c150, n_c199, n_c200, n_c201, n_c216, n_c255, n_c256, n_c999, n_c1296, n_c4095, n_c6480, n_c100000, n_c1000, n_c65536, n_le, n_lt0, n_lt, n_eq, n_cl, n_add, n_sub, n_mul, n_div, n_rem, n_mo, n_in, n_nb0, n_nb1, n_fb0, n_fb1, n_vb0, n_vb1, s99, hb, hb2, Nat.add_zero]
      exact ih2
end OM
