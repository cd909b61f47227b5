/-! fill, and the common divisor -/
def r_eu : Nat → Nat → Nat → Nat
  | 0, a, _ => a
  | f + 1, a, b => if b = 0 then a else r_eu f b (a % b)
section OD
variable {I : am_I} {L : am_L} {P : am_P} {S : am_S} {Q : Option Value → am_I → am_L → am_P → am_S → Prop} {h s n Lx : Nat} {sg : am_G0}
theorem l158 {a : Nat} {x : Int32} (ha : S.1 a = (20, n)) (h3 : 3 ≤ a) (hn : n < 100000) : ∀ (m k : Nat) (I : am_I), k + m = n →
    (Ex 158 5 [some (.ref a), some (.int x), some (.int (nI k)), some (.int (nI n))] [] I L P S Q ↔ Q none (am_row I a (fun j => if k ≤ j ∧ j < n then x else I a j)) L P S) := by
  intro m
  induction m with
  | zero =>
    intro k I hk
    obtain rfl : k = n := by omega
    have e : am_row I a (fun j => if k ≤ j ∧ j < k then x else I a j) = I := by
      funext c j
      rw [am_row_at]
      by_cases hc : c = a
      · rw [if_pos hc, if_neg (by omega), hc]
      · rw [if_neg hc]
    rw [e]
    simp +decide (disch := omega) only [xe158, x158_0, x158_1, x158_2, x158_3, x158_4, x158_5, x158_6, x158_7, x158_10, x158_11, x158_12, x158_13, x158_14, x158_17, x158_20, ↓reduceIte, true_and, and_true, if_true, if_false, ne_eq, not_false_eq_true, am_u_at, am_nb0, am_nb1, am_fb0, am_fb1, am_kc_i, am_kc_r, am_kc_l, am_kc_n, am_wsum_n, am_wsum_i, am_wsum_r, am_wsum_l, am_rs_s, am_rs_n, n_c0, n_c1, n_c2, n_c3, n_c4, n_c5, n_c6, n_c7, n_c8, n_c9, n_c10, n_c11, n_c12, n_c14, n_c16, n_c18, n_c20, n_c24, n_c30, n_c31, n_c32, n_c36, n_c48, n_c57, n_c60, n_c63, n_c70, n_c75, n_c97, n_c100, n_c101, n_c104, n_c115, n_c116, n_c59, n_c150, n_c199, n_c200, n_c201, n_c216, n_c255, n_c256, n_c999, n_c1296, n_c4095, n_c6480, n_c100000, n_c1000, n_c65536, n_le, n_lt0, n_lt, n_eq, n_cl, n_add, n_sub, n_mul, n_div, n_rem, n_mo, n_in, n_nb0, n_nb1, n_fb0, n_fb1, n_vb0, n_vb1, Nat.le_refl]
  | succ m ih =>
    intro k I hk
    have c1 : ¬ n ≤ k := by omega
    have c2 : k < n := by omega
    rw [x158_5]
    simp +decide (disch := omega) only [x158_6, x158_7, x158_10, x158_11, x158_12, x158_13, x158_14, x158_17, x158_20, ↓reduceIte, true_and, and_true, if_true, if_false, ne_eq, not_false_eq_true, am_u_at, am_nb0, am_nb1, am_fb0, am_fb1, am_kc_i, am_kc_r, am_kc_l, am_kc_n, am_wsum_n, am_wsum_i, am_wsum_r, am_wsum_l, am_rs_s, am_rs_n, n_c0, n_c1, n_c2, n_c3, n_c4, n_c5, n_c6, n_c7, n_c8, n_c9, n_c10, n_c11, n_c12, n_c14, n_c16, n_c18, n_c20, n_c24, n_c30, n_c31, n_c32, n_c36, n_c48, n_c57, n_c60, n_c63, n_c70, n_c75, n_c97, n_c100, n_c101, n_c104, n_c115, n_c116, n_c59, n_c150, n_c199, n_c200, n_c201, n_c216, n_c255, n_c256, n_c999, n_c1296, n_c4095, n_c6480, n_c100000, n_c1000, n_c65536, n_le, n_lt0, n_lt, n_eq, n_cl, n_add, n_sub, n_mul, n_div, n_rem, n_mo, n_in, n_nb0, n_nb1, n_fb0, n_fb1, n_vb0, n_vb1, ha, h3, c1, c2]
    rw [ih (k + 1) _ (by omega)]
    refine iff_of_eq (congrArg (fun X => Q none X L P S) ?_)
    funext c j
    rw [am_row_at, am_row_at]
    by_cases hc : c = a
    · subst hc
      simp only [am_u_at, if_true]
      (repeat' split) <;> first | rfl | omega | (subst_vars; first | rfl | omega | (congr 1; omega)) | (congr 1; omega) | (exfalso; omega)
    · rw [if_neg hc, if_neg hc, am_u_ne hc]
theorem s158 {a : Nat} {x : Int32} (ha : S.1 a = (20, n)) (h3 : 3 ≤ a) (hn : n < 100000) : Ev 158 [.ref a, .int x] I L P S Q ↔ Q none (am_row I a (fun j => if j < n then x else I a j)) L P S := by
  have c2 : ¬ a = 2 := by omega
  have e : Int32.ofNat n = nI n := rfl
  simp +decide (disch := omega) only [xe158, x158_0, x158_1, x158_2, x158_3, x158_4, ↓reduceIte, true_and, and_true, if_true, if_false, ne_eq, not_false_eq_true, am_u_at, am_nb0, am_nb1, am_fb0, am_fb1, am_kc_i, am_kc_r, am_kc_l, am_kc_n, am_wsum_n, am_wsum_i, am_wsum_r, am_wsum_l, am_rs_s, am_rs_n, n_c0, n_c1, n_c2, n_c3, n_c4, n_c5, n_c6, n_c7, n_c8, n_c9, n_c10, n_c11, n_c12, n_c14, n_c16, n_c18, n_c20, n_c24, n_c30, n_c31, n_c32, n_c36, n_c48, n_c57, n_c60, n_c63, n_c70, n_c75, n_c97, n_c100, n_c101, n_c104, n_c115, n_c116, n_c59, n_c150, n_c199, n_c200, n_c201, n_c216, n_c255, n_c256, n_c999, n_c1296, n_c4095, n_c6480, n_c100000, n_c1000, n_c65536, ha, c2, e]
  rw [l158 ha h3 hn n 0 I (by omega)]
  simp only [Nat.zero_le, true_and]
theorem l76 : ∀ (f a b i : Nat) (l3 : Option Value), i + f = 64 → a < 100000 → b < 100000 → (l3 = none ∨ ∃ x, l3 = some (.int x)) → (Ex 76 2 [some (.int (nI a)), some (.int (nI b)), some (.int (nI i)), l3] [] I L P S Q ↔ Q (some (.int (nI (r_eu f a b)))) I L P S) := by
  intro f
  induction f with
  | zero =>
    intro a b i l3 hi ha hb hl
    obtain rfl : i = 64 := by omega
    have c : (64 : Int32) = nI 64 := rfl
    simp +decide (disch := omega) only [xe76, x76_0, x76_1, x76_2, x76_3, x76_5, x76_8, x76_9, x76_12, x76_13, x76_14, x76_15, x76_16, x76_17, x76_18, x76_19, x76_20, x76_23, x76_26, x76_27, ↓reduceIte, true_and, and_true, if_true, if_false, ne_eq, not_false_eq_true, am_u_at, am_nb0, am_nb1, am_fb0, am_fb1, am_kc_i, am_kc_r, am_kc_l, am_kc_n, am_wsum_n, am_wsum_i, am_wsum_r, am_wsum_l, am_rs_s, am_rs_n, n_c0, n_c1, n_c2, n_c3, n_c4, n_c5, n_c6, n_c7, n_c8, n_c9, n_c10, n_c11, n_c12, n_c14, n_c16, n_c18, n_c20, n_c24, n_c30, n_c31, n_c32, n_c36, n_c48, n_c57, n_c60, n_c63, n_c70, n_c75, n_c97, n_c100, n_c101, n_c104, n_c115, n_c116, n_c59, n_c150, n_c199, n_c200, n_c201, n_c216, n_c255, n_c256, n_c999, n_c1296, n_c4095, n_c6480, n_c100000, n_c1000, n_c65536, n_le, n_lt0, n_lt, n_eq, n_cl, n_add, n_sub, n_mul, n_div, n_rem, n_mo, n_in, n_nb0, n_nb1, n_fb0, n_fb1, n_vb0, n_vb1, c]
    rfl
  | succ f ih =>
    intro a b i l3 hi ha hb hl
    have c : (64 : Int32) = nI 64 := rfl
    have c1 : ¬ 64 ≤ i := by omega
    by_cases hz : b = 0
    · subst hz
      rw [x76_2]
      simp +decide (disch := omega) only [x76_3, x76_5, x76_8, x76_9, x76_12, x76_13, x76_14, x76_15, x76_16, x76_17, x76_18, x76_19, x76_20, x76_23, x76_26, x76_27, ↓reduceIte, true_and, and_true, if_true, if_false, ne_eq, not_false_eq_true, am_u_at, am_nb0, am_nb1, am_fb0, am_fb1, am_kc_i, am_kc_r, am_kc_l, am_kc_n, am_wsum_n, am_wsum_i, am_wsum_r, am_wsum_l, am_rs_s, am_rs_n, n_c0, n_c1, n_c2, n_c3, n_c4, n_c5, n_c6, n_c7, n_c8, n_c9, n_c10, n_c11, n_c12, n_c14, n_c16, n_c18, n_c20, n_c24, n_c30, n_c31, n_c32, n_c36, n_c48, n_c57, n_c60, n_c63, n_c70, n_c75, n_c97, n_c100, n_c101, n_c104, n_c115, n_c116, n_c59, n_c150, n_c199, n_c200, n_c201, n_c216, n_c255, n_c256, n_c999, n_c1296, n_c4095, n_c6480, n_c100000, n_c1000, n_c65536, n_le, n_lt0, n_lt, n_eq, n_cl, n_add, n_sub, n_mul, n_div, n_rem, n_mo, n_in, n_nb0, n_nb1, n_fb0, n_fb1, n_vb0, n_vb1, c, c1]
      rfl
    · have c2 : ¬ b ≤ 0 := by omega
      have hm := Nat.mod_lt a (Nat.pos_of_ne_zero hz)
      have ih2 := ih b (a % b) (i + 1) (some (.int (nI (a % b)))) (by omega) hb (by omega) (Or.inr ⟨_, rfl⟩)
      have er : r_eu (f + 1) a b = r_eu f b (a % b) := by simp only [r_eu]; rw [if_neg hz]
      rw [er, x76_2]
      rcases hl with rfl | ⟨x, rfl⟩ <;> simp +decide (disch := omega) only [x76_3, x76_5, x76_8, x76_9, x76_12, x76_13, x76_14, x76_15, x76_16, x76_17, x76_18, x76_19, x76_20, x76_23, x76_26, x76_27, ↓reduceIte, true_and, and_true, if_true, if_false, ne_eq, not_false_eq_true, am_u_at, am_nb0, am_nb1, am_fb0, am_fb1, am_kc_i, am_kc_r, am_kc_l, am_kc_n, am_wsum_n, am_wsum_i, am_wsum_r, am_wsum_l, am_rs_s, am_rs_n, n_c0, n_c1, n_c2, n_c3, n_c4, n_c5, n_c6, n_c7, n_c8, n_c9, n_c10, n_c11, n_c12, n_c14, n_c16, n_c18, n_c20, n_c24, n_c30, n_c31, n_c32, n_c36, n_c48, n_c57, n_c60, n_c63, n_c70, n_c75, n_c97, n_c100, n_c101, n_c104, n_c115, n_c116, n_c59, n_c150, n_c199, n_c200, n_c201, n_c216, n_c255, n_c256, n_c999, n_c1296, n_c4095, n_c6480, n_c100000, n_c1000, n_c65536, n_le, n_lt0, n_lt, n_eq, n_cl, n_add, n_sub, n_mul, n_div, n_rem, n_mo, n_in, n_nb0, n_nb1, n_fb0, n_fb1, n_vb0, n_vb1, c, c1, c2, hz] <;> exact ih2
theorem l141 {A B w : Nat} (hA : A < 100000) (hB : B < 100000) (hw : w < 2) : ∀ (z y : Nat) (l5 : Option Value), y < 100000 → z < 100000 → 0 < Nat.gcd z y → (l5 = none ∨ ∃ x, l5 = some (.int x)) → (Ex 141 5 [some (.int (nI A)), some (.int (nI B)), some (.int (nI w)), some (.int (nI y)), some (.int (nI z)), l5] [] I L P S Q ↔ Q (some (.int (nI ((if w = 0 then A else B) / Nat.gcd z y)))) I L P S) := by
  intro z
  induction z using Nat.strongRecOn with
  | ind z ih =>
    intro y l5 hy hz hg hl
    by_cases h0 : z = 0
    · subst h0
      rw [Nat.gcd_zero_left] at hg ⊢
      have c1 : ¬ y = 0 := by omega
      rw [x141_5]
      by_cases hw0 : w = 0
      · subst hw0
        simp +decide (disch := omega) only [x141_7, x141_10, x141_11, x141_13, x141_14, x141_16, x141_18, x141_19, x141_21, x141_23, x141_26, x141_27, x141_30, x141_31, x141_34, x141_35, x141_36, x141_37, ↓reduceIte, true_and, and_true, if_true, if_false, ne_eq, not_false_eq_true, am_u_at, am_nb0, am_nb1, am_fb0, am_fb1, am_kc_i, am_kc_r, am_kc_l, am_kc_n, am_wsum_n, am_wsum_i, am_wsum_r, am_wsum_l, am_rs_s, am_rs_n, n_c0, n_c1, n_c2, n_c3, n_c4, n_c5, n_c6, n_c7, n_c8, n_c9, n_c10, n_c11, n_c12, n_c14, n_c16, n_c18, n_c20, n_c24, n_c30, n_c31, n_c32, n_c36, n_c48, n_c57, n_c60, n_c63, n_c70, n_c75, n_c97, n_c100, n_c101, n_c104, n_c115, n_c116, n_c59, n_c150, n_c199, n_c200, n_c201, n_c216, n_c255, n_c256, n_c999, n_c1296, n_c4095, n_c6480, n_c100000, n_c1000, n_c65536, n_le, n_lt0, n_lt, n_eq, n_cl, n_add, n_sub, n_mul, n_div, n_rem, n_mo, n_in, n_nb0, n_nb1, n_fb0, n_fb1, n_vb0, n_vb1, c1]
      · simp +decide (disch := omega) only [x141_7, x141_10, x141_11, x141_13, x141_14, x141_16, x141_18, x141_19, x141_21, x141_23, x141_26, x141_27, x141_30, x141_31, x141_34, x141_35, x141_36, x141_37, ↓reduceIte, true_and, and_true, if_true, if_false, ne_eq, not_false_eq_true, am_u_at, am_nb0, am_nb1, am_fb0, am_fb1, am_kc_i, am_kc_r, am_kc_l, am_kc_n, am_wsum_n, am_wsum_i, am_wsum_r, am_wsum_l, am_rs_s, am_rs_n, n_c0, n_c1, n_c2, n_c3, n_c4, n_c5, n_c6, n_c7, n_c8, n_c9, n_c10, n_c11, n_c12, n_c14, n_c16, n_c18, n_c20, n_c24, n_c30, n_c31, n_c32, n_c36, n_c48, n_c57, n_c60, n_c63, n_c70, n_c75, n_c97, n_c100, n_c101, n_c104, n_c115, n_c116, n_c59, n_c150, n_c199, n_c200, n_c201, n_c216, n_c255, n_c256, n_c999, n_c1296, n_c4095, n_c6480, n_c100000, n_c1000, n_c65536, n_le, n_lt0, n_lt, n_eq, n_cl, n_add, n_sub, n_mul, n_div, n_rem, n_mo, n_in, n_nb0, n_nb1, n_fb0, n_fb1, n_vb0, n_vb1, c1, hw0]
    · have c2 : ¬ z ≤ 0 := by omega
      have hm := Nat.mod_lt y (Nat.pos_of_ne_zero h0)
      have er : Nat.gcd z y = Nat.gcd (y % z) z := Nat.gcd_rec z y
      rw [er] at hg ⊢
      have ih2 := ih (y % z) hm z (some (.int (nI (y % z)))) hz (by omega) hg (Or.inr ⟨_, rfl⟩)
      rw [x141_5]
      rcases hl with rfl | ⟨x, rfl⟩ <;> simp +decide (disch := omega) only [x141_7, x141_10, x141_11, x141_13, x141_14, x141_16, x141_18, x141_19, x141_21, x141_23, x141_26, x141_27, x141_30, x141_31, x141_34, x141_35, x141_36, x141_37, ↓reduceIte, true_and, and_true, if_true, if_false, ne_eq, not_false_eq_true, am_u_at, am_nb0, am_nb1, am_fb0, am_fb1, am_kc_i, am_kc_r, am_kc_l, am_kc_n, am_wsum_n, am_wsum_i, am_wsum_r, am_wsum_l, am_rs_s, am_rs_n, n_c0, n_c1, n_c2, n_c3, n_c4, n_c5, n_c6, n_c7, n_c8, n_c9, n_c10, n_c11, n_c12, n_c14, n_c16, n_c18, n_c20, n_c24, n_c30, n_c31, n_c32, n_c36, n_c48, n_c57, n_c60, n_c63, n_c70, n_c75, n_c97, n_c100, n_c101, n_c104, n_c115, n_c116, n_c59, n_c150, n_c199, n_c200, n_c201, n_c216, n_c255, n_c256, n_c999, n_c1296, n_c4095, n_c6480, n_c100000, n_c1000, n_c65536, n_le, n_lt0, n_lt, n_eq, n_cl, n_add, n_sub, n_mul, n_div, n_rem, n_mo, n_in, n_nb0, n_nb1, n_fb0, n_fb1, n_vb0, n_vb1, c2, h0] <;> exact ih2
theorem n_dec {k : Nat} : nI (k + 1) + -nI 1 = nI k := by
  rw [← nI_add, Int32.add_assoc, Int32.add_right_neg, Int32.add_zero]
end OD
def o_row (x : Nat) : Nat → Nat → Nat
  | 0, j => if j = 0 then 1 else 0
  | i + 1, j => o_row x i j * (10 - x) + (if j = 0 then 0 else o_row x i (j - 1) * x)
section OE
variable {I : am_I} {L : am_L} {Q : Option Value → am_I → am_L → am_P → am_S → Prop} {h s n Lx : Nat} {sg : am_G0}
theorem l75 {x : Nat} (hx : x ≤ 10) (hn : n ≤ 4) : ∀ (m k : Nat) (I : am_I) (l5 : Option Value), k + m = n → (∀ j, j < 5 → I 58 j = nI (o_row x k j)) → (l5 = none ∨ ∃ x, l5 = some (.int x)) →
    (Ex 75 20 [some (.ref 3), some (.int (nI n)), some (.int (nI x)), some (.int (nI (10 ^ k))), some (.int (nI k)), l5] [] I L (am_PT h s) (am_S1 Lx) Q ↔ Q (some (.int (nI (10 ^ n)))) (am_row I 58 (fun j => if j < 5 then nI (o_row x n j) else I 58 j)) L (am_PT h s) (am_S1 Lx)) := by
  intro m
  induction m with
  | zero =>
    intro k I l5 hk hI hl
    obtain rfl : k = n := by omega
    have e : am_row I 58 (fun j => if j < 5 then nI (o_row x k j) else I 58 j) = I := by
      funext c j
      rw [am_row_at]
      by_cases hc : c = 58
      · rw [if_pos hc, hc]
        by_cases hj : j < 5
        · rw [if_pos hj, hI j hj]
        · rw [if_neg hj]
      · rw [if_neg hc]
    rw [e]
    simp +decide (disch := omega) only [xe75, x75_0, x75_1, x75_4, x75_5, x75_8, x75_9, x75_12, x75_13, x75_14, x75_15, x75_16, x75_17, x75_18, x75_20, x75_22, x75_23, x75_26, x75_27, x75_30, x75_31, x75_32, x75_33, x75_35, x75_37, x75_40, x75_41, x75_44, x75_46, x75_47, x75_50, x75_52, x75_53, x75_55, x75_56, x75_57, x75_58, x75_59, x75_62, x75_64, x75_65, x75_66, x75_67, x75_68, x75_69, x75_70, x75_71, x75_74, x75_77, x75_78, x75_81, x75_82, x75_83, x75_84, x75_86, x75_87, x75_88, x75_89, x75_90, x75_91, x75_93, x75_94, x75_95, x75_98, x75_101, x75_102, ↓reduceIte, true_and, and_true, if_true, if_false, ne_eq, not_false_eq_true, am_u_at, am_nb0, am_nb1, am_fb0, am_fb1, am_kc_i, am_kc_r, am_kc_l, am_kc_n, am_wsum_n, am_wsum_i, am_wsum_r, am_wsum_l, am_rs_s, am_rs_n, n_c0, n_c1, n_c2, n_c3, n_c4, n_c5, n_c6, n_c7, n_c8, n_c9, n_c10, n_c11, n_c12, n_c14, n_c16, n_c18, n_c20, n_c24, n_c30, n_c31, n_c32, n_c36, n_c48, n_c57, n_c60, n_c63, n_c70, n_c75, n_c97, n_c100, n_c101, n_c104, n_c115, n_c116, n_c59, n_c150, n_c199, n_c200, n_c201, n_c216, n_c255, n_c256, n_c999, n_c1296, n_c4095, n_c6480, n_c100000, n_c1000, n_c65536, n_le, n_lt0, n_lt, n_eq, n_cl, n_add, n_sub, n_mul, n_div, n_rem, n_mo, n_in, n_nb0, n_nb1, n_fb0, n_fb1, n_vb0, n_vb1, Nat.le_refl]
  | succ m ih =>
    intro k I l5 hk hI hl
    have c1 : ¬ n ≤ k := by omega
    have i0 := hI 0 (by omega)
    have i1 := hI 1 (by omega)
    have i2 := hI 2 (by omega)
    have i3 := hI 3 (by omega)
    have i4 := hI 4 (by omega)
    have e5 : Int32.ofNat 5 = nI 5 := rfl
    have d4 : nI 4 + -nI 1 = nI 3 := n_dec
    have d3 : nI 3 + -nI 1 = nI 2 := n_dec
    have d2 : nI 2 + -nI 1 = nI 1 := n_dec
    have d1 : nI 1 + -nI 1 = nI 0 := n_dec
    rw [x75_20]
    rcases hl with rfl | ⟨y, rfl⟩ <;> simp +decide (disch := omega) only [x75_22, x75_23, x75_26, x75_27, x75_30, x75_31, x75_32, x75_33, x75_37, x75_40, x75_41, x75_44, x75_46, x75_47, x75_50, x75_52, x75_53, x75_55, x75_56, x75_57, x75_58, x75_59, x75_62, x75_64, x75_65, x75_66, x75_67, x75_68, x75_69, x75_70, x75_71, x75_74, x75_77, x75_78, x75_81, x75_82, x75_83, x75_84, x75_86, x75_87, x75_88, x75_89, x75_90, x75_91, x75_93, x75_94, x75_95, x75_98, x75_101, x75_102, x75_35, ↓reduceIte, true_and, and_true, if_true, if_false, ne_eq, not_false_eq_true, am_u_at, am_nb0, am_nb1, am_fb0, am_fb1, am_kc_i, am_kc_r, am_kc_l, am_kc_n, am_wsum_n, am_wsum_i, am_wsum_r, am_wsum_l, am_rs_s, am_rs_n, am_S1_1, am_S1_2, am_S1_3, am_S1_4, am_S1_5, am_S1_6, am_S1_7, am_S1_8, am_S1_9, am_S1_10, am_S1_11, am_S1_12, am_S1_13, am_S1_14, am_S1_15, am_S1_16, am_S1_17, am_S1_18, am_S1_19, am_S1_20, am_S1_21, am_S1_22, am_S1_23, am_S1_24, am_S1_25, am_S1_26, am_S1_27, am_S1_28, am_S1_29, am_S1_30, am_S1_31, am_S1_32, am_S1_33, am_S1_34, am_S1_35, am_S1_36, am_S1_37, am_S1_38, am_S1_39, am_S1_40, am_S1_41, am_S1_42, am_S1_43, am_S1_44, am_S1_45, am_S1_46, am_S1_47, am_S1_48, am_S1_49, am_S1_50, am_S1_51, am_S1_52, am_S1_53, am_S1_54, am_S1_55, am_S1_56, am_S1_57, am_S1_58, am_S1_59, am_S1_60, am_S1_61, am_S1_62, am_S1_63, am_S1_64, am_S1_65, am_S1_66, am_S1_67, am_S1_68, am_S1_69, am_S1_70, am_S1_71, am_S1_72, am_S1_73, am_S1_74, am_S1_75, am_S1_76, am_S1_77, am_PT_3_1, am_PT_3_2, am_PT_3_0, am_PT_3_3, am_PT_3_4, am_PT_3_5, am_PT_3_6, am_PT_3_7, am_PT_3_8, am_PT_3_9, am_PT_3_10, am_PT_4_0, am_PT_6_6, am_PT_6_7, am_PT_6_8, am_PT_6_9, am_PT_6_10, am_PT_6_11, am_PT_13_6, am_PT_13_7, am_PT_13_8, am_PT_13_9, am_PT_13_10, am_PT_13_11, am_PT_20_3, am_PT_22_0, am_PT_23_0, am_PT_23_1, am_PT_23_2, am_PT_23_3, am_PT_23_4, am_PT_23_5, am_PT_23_6, am_PT_23_7, am_PT_23_8, am_PT_23_9, am_PT_24_3, am_PT_26_3, am_PT_28_3, am_PT_30_3, am_PT_32_3, am_PT_34_3, am_PT_36_3, am_PT_38_3, am_PT_40_3, am_PT_42_3, am_PT_44_0, am_PT_44_1, am_PT_46_2, am_PT_46_3, am_PT_46_4, am_PT_46_5, am_PT_51_0, am_PT_51_1, am_PT_51_2, am_PT_51_3, am_PT_51_4, am_PT_59_3, am_PT_61_3, am_PT_63_1, am_PT_63_3, am_PT_63_6, am_PT_63_7, am_PT_63_9, am_PT_63_10, am_PT_63_12, am_PT_63_14, am_PT_63_16, am_PT_63_25, am_PT_63_27, am_PT_63_30, am_PT_63_36, am_PT_63_37, n_c0, n_c1, n_c2, n_c3, n_c4, n_c5, n_c6, n_c7, n_c8, n_c9, n_c10, n_c11, n_c12, n_c14, n_c16, n_c18, n_c20, n_c24, n_c30, n_c31, n_c32, n_c36, n_c48, n_c57, n_c60, n_c63, n_c70, n_c75, n_c97, n_c100, n_c101, n_c104, n_c115, n_c116, n_c59, n_c150, n_c199, n_c200, n_c201, n_c216, n_c255, n_c256, n_c999, n_c1296, n_c4095, n_c6480, n_c100000, n_c1000, n_c65536, n_le, n_lt0, n_lt, n_eq, n_cl, n_add, n_sub, n_mul, n_div, n_rem, n_mo, n_in, n_nb0, n_nb1, n_fb0, n_fb1, n_vb0, n_vb1, c1, i0, i1, i2, i3, i4, e5, d4, d3, d2, d1]
    all_goals
      rw [show 10 ^ k * 10 = 10 ^ (k + 1) from (Nat.pow_succ ..).symm, ih (k + 1) _ _ (by omega) ?_ (Or.inr ⟨_, rfl⟩)]
      · refine iff_of_eq (congrArg (fun X => Q _ X L _ (am_S1 Lx)) ?_)
        funext c j
        rw [am_row_at, am_row_at]
        by_cases hc : c = 58
        · rw [if_pos hc, if_pos hc]
          by_cases hj : j < 5
          · rw [if_pos hj, if_pos hj]
          · rw [if_neg hj, if_neg hj]
            have z0 : ¬ j = 0 := by omega
            have z1 : ¬ j = 1 := by omega
            have z2 : ¬ j = 2 := by omega
            have z3 : ¬ j = 3 := by omega
            have z4 : ¬ j = 5 - 1 := by omega
            simp only [am_u_at, if_true, z0, z1, z2, z3, z4, if_false]
        · rw [if_neg hc, if_neg hc]
          simp +decide (disch := omega) only [am_u_ne]
      · intro j hj
        match j, hj with
        | 0, _ => simp +decide only [am_u_at, if_true, if_false, o_row, Nat.add_zero]
        | 1, _ => simp +decide only [am_u_at, if_true, if_false, o_row]
        | 2, _ => simp +decide only [am_u_at, if_true, if_false, o_row]
        | 3, _ => simp +decide only [am_u_at, if_true, if_false, o_row]
        | 4, _ => simp +decide only [am_u_at, if_true, if_false, o_row]
        | j + 5, hj => exact absurd hj (by omega)
theorem s75 {x : Nat} (hx : x ≤ 10) (hn : n ≤ 4) : Ev 75 [.ref 3, .int (nI n), .int (nI x)] I L (am_PT h s) (am_S1 Lx) Q ↔ Q (some (.int (nI (10 ^ n)))) (am_row I 58 (fun j => if j < 5 then nI (o_row x n j) else I 58 j)) L (am_PT h s) (am_S1 Lx) := by
  simp +decide (disch := omega) only [xe75, x75_0, x75_1, x75_4, x75_5, x75_8, x75_9, x75_12, x75_13, x75_14, x75_15, x75_16, x75_17, x75_18, ↓reduceIte, true_and, and_true, if_true, if_false, ne_eq, not_false_eq_true, am_u_at, am_nb0, am_nb1, am_fb0, am_fb1, am_kc_i, am_kc_r, am_kc_l, am_kc_n, am_wsum_n, am_wsum_i, am_wsum_r, am_wsum_l, am_rs_s, am_rs_n, am_S1_1, am_S1_2, am_S1_3, am_S1_4, am_S1_5, am_S1_6, am_S1_7, am_S1_8, am_S1_9, am_S1_10, am_S1_11, am_S1_12, am_S1_13, am_S1_14, am_S1_15, am_S1_16, am_S1_17, am_S1_18, am_S1_19, am_S1_20, am_S1_21, am_S1_22, am_S1_23, am_S1_24, am_S1_25, am_S1_26, am_S1_27, am_S1_28, am_S1_29, am_S1_30, am_S1_31, am_S1_32, am_S1_33, am_S1_34, am_S1_35, am_S1_36, am_S1_37, am_S1_38, am_S1_39, am_S1_40, am_S1_41, am_S1_42, am_S1_43, am_S1_44, am_S1_45, am_S1_46, am_S1_47, am_S1_48, am_S1_49, am_S1_50, am_S1_51, am_S1_52, am_S1_53, am_S1_54, am_S1_55, am_S1_56, am_S1_57, am_S1_58, am_S1_59, am_S1_60, am_S1_61, am_S1_62, am_S1_63, am_S1_64, am_S1_65, am_S1_66, am_S1_67, am_S1_68, am_S1_69, am_S1_70, am_S1_71, am_S1_72, am_S1_73, am_S1_74, am_S1_75, am_S1_76, am_S1_77, am_PT_3_1, am_PT_3_2, am_PT_3_0, am_PT_3_3, am_PT_3_4, am_PT_3_5, am_PT_3_6, am_PT_3_7, am_PT_3_8, am_PT_3_9, am_PT_3_10, am_PT_4_0, am_PT_6_6, am_PT_6_7, am_PT_6_8, am_PT_6_9, am_PT_6_10, am_PT_6_11, am_PT_13_6, am_PT_13_7, am_PT_13_8, am_PT_13_9, am_PT_13_10, am_PT_13_11, am_PT_20_3, am_PT_22_0, am_PT_23_0, am_PT_23_1, am_PT_23_2, am_PT_23_3, am_PT_23_4, am_PT_23_5, am_PT_23_6, am_PT_23_7, am_PT_23_8, am_PT_23_9, am_PT_24_3, am_PT_26_3, am_PT_28_3, am_PT_30_3, am_PT_32_3, am_PT_34_3, am_PT_36_3, am_PT_38_3, am_PT_40_3, am_PT_42_3, am_PT_44_0, am_PT_44_1, am_PT_46_2, am_PT_46_3, am_PT_46_4, am_PT_46_5, am_PT_51_0, am_PT_51_1, am_PT_51_2, am_PT_51_3, am_PT_51_4, am_PT_59_3, am_PT_61_3, am_PT_63_1, am_PT_63_3, am_PT_63_6, am_PT_63_7, am_PT_63_9, am_PT_63_10, am_PT_63_12, am_PT_63_14, am_PT_63_16, am_PT_63_25, am_PT_63_27, am_PT_63_30, am_PT_63_36, am_PT_63_37, n_c0, n_c1, n_c2, n_c3, n_c4, n_c5, n_c6, n_c7, n_c8, n_c9, n_c10, n_c11, n_c12, n_c14, n_c16, n_c18, n_c20, n_c24, n_c30, n_c31, n_c32, n_c36, n_c48, n_c57, n_c60, n_c63, n_c70, n_c75, n_c97, n_c100, n_c101, n_c104, n_c115, n_c116, n_c59, n_c150, n_c199, n_c200, n_c201, n_c216, n_c255, n_c256, n_c999, n_c1296, n_c4095, n_c6480, n_c100000, n_c1000, n_c65536]
  rw [s158 (S := am_S1 Lx) (a := 58) (n := 5) rfl (by omega) (by omega)]
  simp +decide (disch := omega) only [x75_0, x75_1, x75_4, x75_5, x75_8, x75_9, x75_12, x75_13, x75_14, x75_15, x75_16, x75_17, x75_18, ↓reduceIte, true_and, and_true, if_true, if_false, ne_eq, not_false_eq_true, am_u_at, am_nb0, am_nb1, am_fb0, am_fb1, am_kc_i, am_kc_r, am_kc_l, am_kc_n, am_wsum_n, am_wsum_i, am_wsum_r, am_wsum_l, am_rs_s, am_rs_n, am_S1_1, am_S1_2, am_S1_3, am_S1_4, am_S1_5, am_S1_6, am_S1_7, am_S1_8, am_S1_9, am_S1_10, am_S1_11, am_S1_12, am_S1_13, am_S1_14, am_S1_15, am_S1_16, am_S1_17, am_S1_18, am_S1_19, am_S1_20, am_S1_21, am_S1_22, am_S1_23, am_S1_24, am_S1_25, am_S1_26, am_S1_27, am_S1_28, am_S1_29, am_S1_30, am_S1_31, am_S1_32, am_S1_33, am_S1_34, am_S1_35, am_S1_36, am_S1_37, am_S1_38, am_S1_39, am_S1_40, am_S1_41, am_S1_42, am_S1_43, am_S1_44, am_S1_45, am_S1_46, am_S1_47, am_S1_48, am_S1_49, am_S1_50, am_S1_51, am_S1_52, am_S1_53, am_S1_54, am_S1_55, am_S1_56, am_S1_57, am_S1_58, am_S1_59, am_S1_60, am_S1_61, am_S1_62, am_S1_63, am_S1_64, am_S1_65, am_S1_66, am_S1_67, am_S1_68, am_S1_69, am_S1_70, am_S1_71, am_S1_72, am_S1_73, am_S1_74, am_S1_75, am_S1_76, am_S1_77, am_PT_3_1, am_PT_3_2, am_PT_3_0, am_PT_3_3, am_PT_3_4, am_PT_3_5, am_PT_3_6, am_PT_3_7, am_PT_3_8, am_PT_3_9, am_PT_3_10, am_PT_4_0, am_PT_6_6, am_PT_6_7, am_PT_6_8, am_PT_6_9, am_PT_6_10, am_PT_6_11, am_PT_13_6, am_PT_13_7, am_PT_13_8, am_PT_13_9, am_PT_13_10, am_PT_13_11, am_PT_20_3, am_PT_22_0, am_PT_23_0, am_PT_23_1, am_PT_23_2, am_PT_23_3, am_PT_23_4, am_PT_23_5, am_PT_23_6, am_PT_23_7, am_PT_23_8, am_PT_23_9, am_PT_24_3, am_PT_26_3, am_PT_28_3, am_PT_30_3, am_PT_32_3, am_PT_34_3, am_PT_36_3, am_PT_38_3, am_PT_40_3, am_PT_42_3, am_PT_44_0, am_PT_44_1, am_PT_46_2, am_PT_46_3, am_PT_46_4, am_PT_46_5, am_PT_51_0, am_PT_51_1, am_PT_51_2, am_PT_51_3, am_PT_51_4, am_PT_59_3, am_PT_61_3, am_PT_63_1, am_PT_63_3, am_PT_63_6, am_PT_63_7, am_PT_63_9, am_PT_63_10, am_PT_63_12, am_PT_63_14, am_PT_63_16, am_PT_63_25, am_PT_63_27, am_PT_63_30, am_PT_63_36, am_PT_63_37, n_c0, n_c1, n_c2, n_c3, n_c4, n_c5, n_c6, n_c7, n_c8, n_c9, n_c10, n_c11, n_c12, n_c14, n_c16, n_c18, n_c20, n_c24, n_c30, n_c31, n_c32, n_c36, n_c48, n_c57, n_c60, n_c63, n_c70, n_c75, n_c97, n_c100, n_c101, n_c104, n_c115, n_c116, n_c59, n_c150, n_c199, n_c200, n_c201, n_c216, n_c255, n_c256, n_c999, n_c1296, n_c4095, n_c6480, n_c100000, n_c1000, n_c65536, n_le, n_lt0, n_lt, n_eq, n_cl, n_add, n_sub, n_mul, n_div, n_rem, n_mo, n_in, n_nb0, n_nb1, n_fb0, n_fb1, n_vb0, n_vb1]
  have e1 : nI 1 = nI (10 ^ 0) := rfl
  rw [e1, l75 hx hn n 0 _ none (by omega) ?_ (Or.inl rfl)]
  · refine iff_of_eq (congrArg (fun X => Q _ X L _ (am_S1 Lx)) ?_)
    funext c j
    rw [am_row_at, am_row_at]
    by_cases hc : c = 58
    · rw [if_pos hc, if_pos hc]
      by_cases hj : j < 5
      · rw [if_pos hj, if_pos hj]
      · rw [if_neg hj, if_neg hj]
        have z0 : ¬ j = 0 := by omega
        simp only [am_u_at, am_row_at, if_true, z0, hj, if_false]
    · rw [if_neg hc, if_neg hc]
      simp +decide (disch := omega) only [am_u_ne, am_row_ne]
  · intro j hj
    by_cases hz : j = 0
    · subst hz
      simp +decide only [am_u_at, if_true, o_row]
    · simp +decide only [am_u_at, am_row_at, if_true, o_row, hz, hj, if_false]
theorem l74 {k : Nat} {f : Nat → Nat} {l1 l3 l4 : Option Value} {l6 : Int32} (hk : k ≤ 4) (hI : ∀ j, j < 5 → I 58 j = nI (f j)) : ∀ (m i : Nat), i + m = k + 1 →
    (Ex 74 61 [some (.ref 3), l1, some (.int (nI k)), l3, l4, some (.int l6), some (.int (nI (r_sum f i))), some (.int (nI i))] [] I L (am_PT h s) (am_S1 Lx) Q ↔ Ex 74 95 [some (.ref 3), l1, some (.int (nI k)), l3, l4, some (.int l6), some (.int (nI (r_sum f (k + 1)))), some (.int (nI (k + 1)))] [] I L (am_PT h s) (am_S1 Lx) Q) := by
  intro m
  induction m with
  | zero =>
    intro i hi
    obtain rfl : i = k + 1 := by omega
    have c1 : k < k + 1 := by omega
    rw [x74_61]
    simp +decide (disch := omega) only [x74_63, x74_64, ↓reduceIte, true_and, and_true, if_true, if_false, ne_eq, not_false_eq_true, am_u_at, am_nb0, am_nb1, am_fb0, am_fb1, am_kc_i, am_kc_r, am_kc_l, am_kc_n, am_wsum_n, am_wsum_i, am_wsum_r, am_wsum_l, am_rs_s, am_rs_n, n_c0, n_c1, n_c2, n_c3, n_c4, n_c5, n_c6, n_c7, n_c8, n_c9, n_c10, n_c11, n_c12, n_c14, n_c16, n_c18, n_c20, n_c24, n_c30, n_c31, n_c32, n_c36, n_c48, n_c57, n_c60, n_c63, n_c70, n_c75, n_c97, n_c100, n_c101, n_c104, n_c115, n_c116, n_c59, n_c150, n_c199, n_c200, n_c201, n_c216, n_c255, n_c256, n_c999, n_c1296, n_c4095, n_c6480, n_c100000, n_c1000, n_c65536, n_le, n_lt0, n_lt, n_eq, n_cl, n_add, n_sub, n_mul, n_div, n_rem, n_mo, n_in, n_nb0, n_nb1, n_fb0, n_fb1, n_vb0, n_vb1, c1]
  | succ m ih =>
    intro i hi
    have c1 : ¬ k < i := by omega
    have c2 : ¬ 5 ≤ i := by omega
    have c3 : i < 5 := by omega
    have e5 : Int32.ofNat 5 = nI 5 := rfl
    have hv := hI i (by omega)
    rw [x74_61]
    simp +decide (disch := omega) only [x74_63, x74_64, x74_67, x74_69, x74_70, x74_73, x74_74, x74_77, x74_79, x74_80, x74_83, x74_85, x74_86, x74_87, x74_89, x74_92, ↓reduceIte, true_and, and_true, if_true, if_false, ne_eq, not_false_eq_true, am_u_at, am_nb0, am_nb1, am_fb0, am_fb1, am_kc_i, am_kc_r, am_kc_l, am_kc_n, am_wsum_n, am_wsum_i, am_wsum_r, am_wsum_l, am_rs_s, am_rs_n, am_S1_1, am_S1_2, am_S1_3, am_S1_4, am_S1_5, am_S1_6, am_S1_7, am_S1_8, am_S1_9, am_S1_10, am_S1_11, am_S1_12, am_S1_13, am_S1_14, am_S1_15, am_S1_16, am_S1_17, am_S1_18, am_S1_19, am_S1_20, am_S1_21, am_S1_22, am_S1_23, am_S1_24, am_S1_25, am_S1_26, am_S1_27, am_S1_28, am_S1_29, am_S1_30, am_S1_31, am_S1_32, am_S1_33, am_S1_34, am_S1_35, am_S1_36, am_S1_37, am_S1_38, am_S1_39, am_S1_40, am_S1_41, am_S1_42, am_S1_43, am_S1_44, am_S1_45, am_S1_46, am_S1_47, am_S1_48, am_S1_49, am_S1_50, am_S1_51, am_S1_52, am_S1_53, am_S1_54, am_S1_55, am_S1_56, am_S1_57, am_S1_58, am_S1_59, am_S1_60, am_S1_61, am_S1_62, am_S1_63, am_S1_64, am_S1_65, am_S1_66, am_S1_67, am_S1_68, am_S1_69, am_S1_70, am_S1_71, am_S1_72, am_S1_73, am_S1_74, am_S1_75, am_S1_76, am_S1_77, am_PT_3_1, am_PT_3_2, am_PT_3_0, am_PT_3_3, am_PT_3_4, am_PT_3_5, am_PT_3_6, am_PT_3_7, am_PT_3_8, am_PT_3_9, am_PT_3_10, am_PT_4_0, am_PT_6_6, am_PT_6_7, am_PT_6_8, am_PT_6_9, am_PT_6_10, am_PT_6_11, am_PT_13_6, am_PT_13_7, am_PT_13_8, am_PT_13_9, am_PT_13_10, am_PT_13_11, am_PT_20_3, am_PT_22_0, am_PT_23_0, am_PT_23_1, am_PT_23_2, am_PT_23_3, am_PT_23_4, am_PT_23_5, am_PT_23_6, am_PT_23_7, am_PT_23_8, am_PT_23_9, am_PT_24_3, am_PT_26_3, am_PT_28_3, am_PT_30_3, am_PT_32_3, am_PT_34_3, am_PT_36_3, am_PT_38_3, am_PT_40_3, am_PT_42_3, am_PT_44_0, am_PT_44_1, am_PT_46_2, am_PT_46_3, am_PT_46_4, am_PT_46_5, am_PT_51_0, am_PT_51_1, am_PT_51_2, am_PT_51_3, am_PT_51_4, am_PT_59_3, am_PT_61_3, am_PT_63_1, am_PT_63_3, am_PT_63_6, am_PT_63_7, am_PT_63_9, am_PT_63_10, am_PT_63_12, am_PT_63_14, am_PT_63_16, am_PT_63_25, am_PT_63_27, am_PT_63_30, am_PT_63_36, am_PT_63_37, n_c0, n_c1, n_c2, n_c3, n_c4, n_c5, n_c6, n_c7, n_c8, n_c9, n_c10, n_c11, n_c12, n_c14, n_c16, n_c18, n_c20, n_c24, n_c30, n_c31, n_c32, n_c36, n_c48, n_c57, n_c60, n_c63, n_c70, n_c75, n_c97, n_c100, n_c101, n_c104, n_c115, n_c116, n_c59, n_c150, n_c199, n_c200, n_c201, n_c216, n_c255, n_c256, n_c999, n_c1296, n_c4095, n_c6480, n_c100000, n_c1000, n_c65536, n_le, n_lt0, n_lt, n_eq, n_cl, n_add, n_sub, n_mul, n_div, n_rem, n_mo, n_in, n_nb0, n_nb1, n_fb0, n_fb1, n_vb0, n_vb1, c1, c2, c3, e5, hv]
    rw [show r_sum f i + f i = r_sum f (i + 1) from rfl]
    exact ih (i + 1) (by omega)
end OE
