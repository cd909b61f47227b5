/-! fill, and the common divisor -/
def r_eu : Nat → Nat → Nat → Nat
  | 0, a, _ => a
  | f + 1, a, b => if b = 0 then a else r_eu f b (a % b)
section OD
variable {I : am_I} {L : am_L} {P : am_P} {S : am_S} {Q : Option Value → am_I → am_L → am_P → am_S → Prop} {h s n Lx : Nat} {sg : am_G0}
theorem l158 {a : Nat} {x : Int32} (ha : S.1 a = (20, n)) (h3 : 3 ≤ a) (hn : n < 100000) : ∀ (m k : Nat) (I : am_I), k + m = n →
    (Ex 158 5 [some (.ref a), some (.int x), some (.int (nI k)), some (.int (nI n))] [] I L P S Q ↔ Q none (am_row I a (fun j => if k ≤ j ∧ j < n then x else I a j)) L P S) := by
  intro m
  induction m with
  | zero =>
    intro k I hk
    obtain rfl : k = n := by omega
    have e : am_row I a (fun j => if k ≤ j ∧ j < k then x else I a j) = I := by
      funext c j
      rw [am_row_at]
      by_cases hc : c = a
      · rw [if_pos hc, if_neg (by omega), hc]
      · rw [if_neg hc]
    rw [e]
    simp +decide (disch := omega) only [xe158, x158_0, x158_1, x158_2, x158_3, x158_4, x158_5, x158_6, x158_7, x158_10, x158_11, x158_12, x158_13, x158_14, x158_17, x158_20, ↓reduceIte, true_and, and_true, if_true, if_false, ne_eq, not_false_eq_true, am_u_at, am_nb0, am_nb1, am_fb0, am_fb1, am_kc_i, am_kc_r, am_kc_l, am_kc_n, am_wsum_n, am_wsum_i, am_wsum_r, am_wsum_l, am_rs_s, am_rs_n, n_c0, n_c1, n_c2, n_c3, n_c4, n_c5, n_c6, n_c7, n_c8, n_c9, n_c10, n_c11, n_c12, n_c14, n_c16, n_c18, n_c20, n_c24, n_c30, n_c31, n_c32, n_c36, n_c48, n_c57, n_c60, n_c63, n_c70, n_c75, n_c97, n_c100, n_c101, n_c104, n_c115, n_c116, n_c59, n_c150, n_c199, n_c200, n_c201, n_c216, n_c255, n_c256, n_c999, n_c1296, n_c4095, n_c6480, n_c100000, n_c1000, n_c65536, n_le, n_lt0, n_lt, n_eq, n_cl, n_add, n_sub, n_mul, n_div, n_rem, n_mo, n_in, n_nb0, n_nb1, n_fb0, n_fb1, n_vb0, n_vb1, Nat.le_refl]
  | succ m ih =>
    intro k I hk
    have c1 : ¬ n ≤ k := by omega
    have c2 : k < n := by omega
    rw [x158_5]
    simp +decide (disch := omega) only [x158_6, x158_7, x158_10, x158_11, x158_12, x158_13, x158_14, x158_17, x158_20, ↓reduceIte, true_and, and_true, if_true, if_false, ne_eq, not_false_eq_true, am_u_at, am_nb0, am_nb1, am_fb0, am_fb1, am_kc_i, am_kc_r, am_kc_l, am_kc_n, am_wsum_n, am_wsum_i, am_wsum_r, am_wsum_l, am_rs_s, am_rs_n, n_c0, n_c1, n_c2, n_c3, n_c4, n_c5, n_c6, n_c7, n_c8, n_c9, n_c10, n_c11, n_c12, n_c14, n_c16, n_c18, n_c20, n_c24, n_c30, n_c31, n_c32, n_c36, n_c48, n_c57, n_c60, n_c63, n_c70, n_c75, n_c97, n_c100, n_c101, n_c104, n_c115, n_c116, n_c59, n_c150, n_c199, n_c200, n_c201, n_c216, n_c255, n_c256, n_c999, n_c1296, n_c4095, n_c6480, n_c100000, n_c1000, n_c65536, n_le, n_lt0, n_lt, n_eq, n_cl, n_add, n_sub, n_mul, n_div, n_rem, n_mo, n_in, n_nb0, n_nb1, n_fb0, n_fb1, n_vb0, n_vb1, ha, h3, c1, c2]
    rw [ih (k + 1) _ (by omega)]
    refine iff_of_eq (congrArg (fun X => Q none X L P S) ?_)
    funext c j
    rw [am_row_at, am_row_at]
    by_cases hc : c = a
    · subst hc
      simp only [am_u_at, if_true]
      (repeat' split) <;> first | rfl | omega | (subst_vars; first | rfl | omega | (congr 1; omega)) | (congr 1; omega) | (exfalso; omega)
    · rw [if_neg hc, if_neg hc, am_u_ne hc]
theorem s158 {a : Nat} {x : Int32} (ha : S.1 a = (20, n)) (h3 : 3 ≤ a) (hn : n < 100000) : Ev 158 [.ref a, .int x] I L P S Q ↔ Q none (am_row I a (fun j => if j < n then x else I a j)) L P S := by
  have c2 : ¬ a = 2 := by omega
  have e : Int32.ofNat n = nI n := rfl
  simp +decide (disch := omega) only [xe158, x158_0, x158_1, x158_2, x158_3, x158_4, ↓reduceIte, true_and, and_true, if_true, if_false, ne_eq, not_false_eq_true, am_u_at, am_nb0, am_nb1, am_fb0, am_fb1, am_kc_i, am_kc_r, am_kc_l, am_kc_n, am_wsum_n, am_wsum_i, am_wsum_r, am_wsum_l, am_rs_s, am_rs_n, n_c0, n_c1, n_c2, n_c3, n_c4, n_c5, n_c6, n_c7, n_c8, n_c9, n_c10, n_c11, n_c12, n_c14, n_c16, n_c18, n_c20, n_c24, n_c30, n_c31, n_c32, n_c36, n_c48, n_c57, n_c60, n_c63, n_c70, n_c75, n_c97, n_c100, n_c101, n_c104, n_c115, n_c116, n_c59, n_c150, n_c199, n_c200, n_c201, n_c216, n_c255, n_c256, n_c999, n_c1296, n_c4095, n_c6480, n_c100000, n_c1000, n_c65536, ha, c2, e]
  rw [l158 ha h3 hn n 0 I (by omega)]
  simp only [Nat.zero_le, true_and]
theorem l76 : ∀ (f a b i : Nat) (l3 : Option Value), i + f = 64 → a < 100000 → b < 100000 → (l3 = none ∨ ∃ x, l3 = some (.int x)) → (Ex 76 2 [some (.int (nI a)), some (.int (nI b)), some (.int (nI i)), l3] [] I L P S Q ↔ Q (some (.int (nI (r_eu f a b)))) I L P S) := by
  intro f
  induction f with
  | zero =>
    intro a b i l3 hi ha hb hl
    obtain rfl : i = 64 := by omega
    have c : (64 : Int32) = nI 64 := rfl
    simp +decide (disch := omega) only [xe76, x76_0, x76_1, x76_2, x76_3, x76_5, x76_8, x76_9, x76_12, x76_13, x76_14, x76_15, x76_16, x76_17, x76_18, x76_19, x76_20, x76_23, x76_26, x76_27, ↓reduceIte, true_and, and_true, if_true, if_false, ne_eq, not_false_eq_true, am_u_at, am_nb0, am_nb1, am_fb0, am_fb1, am_kc_i, am_kc_r, am_kc_l, am_kc_n, am_wsum_n, am_wsum_i, am_wsum_r, am_wsum_l, am_rs_s, am_rs_n, n_c0, n_c1, n_c2, n_c3, n_c4, n_c5, n_c6, n_c7, n_c8, n_c9, n_c10, n_c11, n_c12, n_c14, n_c16, n_c18, n_c20, n_c24, n_c30, n_c31, n_c32, n_c36, n_c48, n_c57, n_c60, n_c63, n_c70, n_c75, n_c97, n_c100, n_c101, n_c104, n_c115, n_c116, n_c59, n_c150, n_c199, n_c200, n_c201, n_c216, n_c255, n_c256, n_c999, n_c1296, n_c4095, n_c6480, n_c100000, n_c1000, n_c65536, n_le, n_lt0, n_lt, n_eq, n_cl, n_add, n_sub, n_mul, n_div, n_rem, n_mo, n_in, n_nb0, n_nb1, n_fb0, n_fb1, n_vb0, n_vb1, c]
    rfl
  | succ f ih =>
    intro a b i l3 hi ha hb hl
    have c : (64 : Int32) = nI 64 := rfl
    have c1 : ¬ 64 ≤ i := by omega
    by_cases hz : b = 0
    · subst hz
      rw [x76_2]
      simp +decide (disch := omega) only [x76_3, x76_5, x76_8, x76_9, x76_12, x76_13, x76_14, x76_15, x76_16, x76_17, x76_18, x76_19, x76_20, x76_23, x76_26, x76_27, ↓reduceIte, true_and, and_true, if_true, if_false, ne_eq, not_false_eq_true, am_u_at, am_nb0, am_nb1, am_fb0, am_fb1, am_kc_i, am_kc_r, am_kc_l, am_kc_n, am_wsum_n, am_wsum_i, am_wsum_r, am_wsum_l, am_rs_s, am_rs_n, n_c0, n_c1, n_c2, n_c3, n_c4, n_c5, n_c6, n_c7, n_c8, n_c9, n_c10, n_c11, n_c12, n_c14, n_c16, n_c18, n_c20, n_c24, n_c30, n_c31, n_c32, n_c36, n_c48, n_c57, n_c60, n_c63, n_c70, n_c75, n_c97, n_c100, n_c101, n_c104, n_c115, n_c116, n_c59, n_c150, n_c199, n_c200, n_c201, n_c216, n_c255, n_c256, n_c999, n_c1296, n_c4095, n_c6480, n_c100000, n_c1000, n_c65536, n_le, n_lt0, n_lt, n_eq, n_cl, n_add, n_sub, n_mul, n_div, n_rem, n_mo, n_in, n_nb0, n_nb1, n_fb0, n_fb1, n_vb0, n_vb1, c, c1]
      rfl
    · have c2 : ¬ b ≤ 0 := by omega
      have hm := Nat.mod_lt a (Nat.pos_of_ne_zero hz)
      have ih2 := ih b (a % b) (i + 1) (some (.int (nI (a % b)))) (by omega) hb (by omega) (Or.inr ⟨_, rfl⟩)
      have er : r_eu (f + 1) a b = r_eu f b (a % b) := by simp only [r_eu]; rw [if_neg hz]
      rw [er, x76_2]
      rcases hl with rfl | ⟨x, rfl⟩ <;> simp +decide (disch := omega) only [x76_3, x76_5, x76_8, x76_9, x76_12, x76_13, x76_14, x76_15, x76_16, x76_17, x76_18, x76_19, x76_20, x76_23, x76_26, x76_27, ↓reduceIte, true_and, and_true, if_true, if_false, ne_eq, not_false_eq_true, am_u_at, am_nb0, am_nb1, am_fb0, am_fb1, am_kc_i, am_kc_r, am_kc_l, am_kc_n, am_wsum_n, am_wsum_i, am_wsum_r, am_wsum_l, am_rs_s, am_rs_n, n_c0, n_c1, n_c2, n_c3, n_c4, n_c5, n_c6, n_c7, n_c8, n_c9, n_c10, n_c11, n_c12, n_c14, n_c16, n_c18, n_c20, n_c24, n_c30, n_c31, n_c32, n_c36, n_c48, n_c57, n_c60, n_c63, n_c70, n_c75, n_c97, n_c100, n_c101, n_c104, n_c115, n_c116, n_c59, n_c150, n_c199, n_c200, n_c201, n_c216, n_c255, n_c256, n_c999, n_c1296, n_c4095, n_c6480, n_c100000, n_c1000, n_c65536, n_le, n_lt0, n_lt, n_eq, n_cl, n_add, n_sub, n_mul, n_div, n_rem, n_mo, n_in, n_nb0, n_nb1, n_fb0, n_fb1, n_vb0, n_vb1, c, c1, c2, hz] <;> exact ih2
theorem l141 {A B w : Nat} (hA : A < 100000) (hB : B < 100000) (hw : w < 2) : ∀ (z y : Nat) (l5 : Option Value), y < 100000 → z < 100000 → 0 < Nat.gcd z y → (l5 = none ∨ ∃ x, l5 = some (.int x)) → (Ex 141 5 [some (.int (nI A)), some (.int (nI B)), some (.int (nI w)), some (.int (nI y)), some (.int (nI z)), l5] [] I L P S Q ↔ Q (some (.int (nI ((if w = 0 then A else B) / Nat.gcd z y)))) I L P S) := by
  intro z
  induction z using Nat.strongRecOn with
  | ind z ih =>
    intro y l5 hy hz hg hl
    by_cases h0 : z = 0
    · subst h0
      rw [Nat.gcd_zero_left] at hg ⊢
      have c1 : ¬ y = 0 := by omega
      rw [x141_5]
      by_cases hw0 : w = 0
      · subst hw0
        simp +decide (disch := omega) only [x141_7, x141_10, x141_11, x141_13, x141_14, x141_16, x141_18, x141_19, x141_21, x141_23, x141_26, x141_27, x141_30, x141_31, x141_34, x141_35, x141_36, x141_37, ↓reduceIte, true_and, and_true, if_true, if_false, ne_eq, not_false_eq_true, am_u_at, am_nb0, am_nb1, am_fb0, am_fb1, am_kc_i, am_kc_r, am_kc_l, am_kc_n, am_wsum_n, am_wsum_i, am_wsum_r, am_wsum_l, am_rs_s, am_rs_n, n_c0, n_c1, n_c2, n_c3, n_c4, n_c5, n_c6, n_c7, n_c8, n_c9, n_c10, n_c11, n_c12, n_c14, n_c16, n_c18, n_c20, n_c24, n_c30, n_c31, n_c32, n_c36, n_c48, n_c57, n_c60, n_c63, n_c70, n_c75, n_c97, n_c100, n_c101, n_c104, n_c115, n_c116, n_c59, n_c150, n_c199, n_c200, n_c201, n_c216, n_c255, n_c256, n_c999, n_c1296, n_c4095, n_c6480, n_c100000, n_c1000, n_c65536, n_le, n_lt0, n_lt, n_eq, n_cl, n_add, n_sub, n_mul, n_div, n_rem, n_mo, n_in, n_nb0, n_nb1, n_fb0, n_fb1, n_vb0, n_vb1, c1]
      · simp +decide (disch := omega) only [x141_7, x141_10, x141_11, x141_13, x141_14, x141_16, x141_18, x141_19, x141_21, x141_23, x141_26, x141_27, x141_30, x141_31, x141_34, x141_35, x141_36, x141_37, ↓reduceIte, true_and, and_true, if_true, if_false, ne_eq, not_false_eq_true, am_u_at, am_nb0, am_nb1, am_fb0, am_fb1, am_kc_i, am_kc_r, am_kc_l, am_kc_n, am_wsum_n, am_wsum_i, am_wsum_r, am_wsum_l, am_rs_s, am_rs_n, n_c0, n_c1, n_c2, n_c3, n_c4, n_c5, n_c6, n_c7, n_c8, n_c9, n_c10, n_c11, n_c12, n_c14, n_c16, n_c18, n_c20, n_c24, n_c30, n_c31, n_c32, n_c36, n_c48, n_c57, n_c60, n_c63, n_c70, n_c75, n_c97, n_c100, n_c101, n_c104, n_c115, n_c116, n_c59, n_c150, n_c199, n_c200, n_c201, n_c216, n_c255, n_c256, n_c999, n_c1296, n_c4095, n_c6480, n_c100000, n_c1000, n_c65536, n_le, n_lt0, n_lt, n_eq, n_cl, n_add, n_sub, n_mul, n_div, n_rem, n_mo, n_in, n_nb0, n_nb1, n_fb0, n_fb1, n_vb0, n_vb1, c1, hw0]
    · have c2 : ¬ z ≤ 0 := by omega
      have hm := Nat.mod_lt y (Nat.pos_of_ne_zero h0)
      have er : Nat.gcd z y = Nat.gcd (y % z) z := Nat.gcd_rec z y
      rw [er] at hg ⊢
      have ih2 := ih (y % z) hm z (some (.int (nI (y % z)))) hz (by omega) hg (Or.inr ⟨_, rfl⟩)
      rw [x141_5]
      rcases hl with rfl | ⟨x, rfl⟩ <;> simp +decide (disch := omega) only [x141_7, x141_10, x141_11, x141_13, x141_14, x141_16, x141_18, x141_19, x141_21, x141_23, x141_26, x141_27, x141_30, x141_31, x141_34, x141_35, x141_36, x141_37, ↓reduceIte, true_and, and_true, if_true, if_false, ne_eq, not_false_eq_true, am_u_at, am_nb0, am_nb1, am_fb0, am_fb1, am_kc_i, am_kc_r, am_kc_l, am_kc_n, am_wsum_n, am_wsum_i, am_wsum_r, am_wsum_l, am_rs_s, am_rs_n, n_c0, n_c1, n_c2, n_c3, n_c4, n_c5, n_c6, n_c7, n_c8, n_c9, n_c10, n_c11, n_c12, n_c14, n_c16, n_c18, n_c20, n_c24, n_c30, n_c31, n_c32, n_c36, n_c48, n_c57, n_c60, n_c63, n_c70, n_c75, n_c97, n_c100, n_c101, n_c104, n_c115, n_c116, n_c59, n_c150, n_c199, n_c200, n_c201, n_c216, n_c255, n_c256, n_c999, n_c1296, n_c4095, n_c6480, n_c100000, n_c1000, n_c65536, n_le, n_lt0, n_lt, n_eq, n_cl, n_add, n_sub, n_mul, n_div, n_rem, n_mo, n_in, n_nb0, n_nb1, n_fb0, n_fb1, n_vb0, n_vb1, c2, h0] <;> exact ih2
end OD
