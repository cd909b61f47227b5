/-! whose -/
def y_t (m i : Nat) : Nat := m / 4 ^ i % 4
def y_met (m : Nat) : Nat → Nat
  | 0 => 0
  | i + 1 => y_met m i ||| 1 * 2 ^ y_t m i
def y_ok (sg : am_G0) (m : Nat) : Nat → Bool
  | 0 => true
  | i + 1 => y_ok sg m i && (decide (y_t m i < sg 0 1) && (!(y_met m i).testBit (y_t m i) && decide (r_pc 6 (sg 4 (y_t m i) ^^^ sg 11 i) ≤ 1)))
theorem y_t4 (m i : Nat) : y_t m i < 4 := Nat.mod_lt _ (by omega)
theorem y_bit (m i : Nat) : 1 * 2 ^ y_t m i < 16 := by
  have h := y_t4 m i
  have : 2 ^ y_t m i < 2 ^ 4 := Nat.pow_lt_pow_right (by omega) h
  omega
theorem y_met_lt (m : Nat) : ∀ i, y_met m i < 16
  | 0 => by show 0 < 16; omega
  | i + 1 => Nat.or_lt_two_pow (n := 4) (y_met_lt m i) (y_bit m i)
theorem y_ok_0 {sg : am_G0} {m i : Nat} (h : y_ok sg m i = false) : ∀ n, i ≤ n → y_ok sg m n = false
  | 0, hn => by
    obtain rfl : i = 0 := by omega
    exact h
  | n + 1, hn => by
    by_cases hk : i ≤ n
    · simp only [y_ok, y_ok_0 h n hk, Bool.false_and]
    · obtain rfl : i = n + 1 := by omega
      exact h
theorem y_ok_s {sg : am_G0} {m i : Nat} : y_ok sg m (i + 1) = true ↔ y_ok sg m i = true ∧ y_t m i < sg 0 1 ∧ (y_met m i).testBit (y_t m i) = false ∧ r_pc 6 (sg 4 (y_t m i) ^^^ sg 11 i) ≤ 1 := by
  simp only [y_ok, Bool.and_eq_true, decide_eq_true_iff, Bool.not_eq_true']
theorem y_ok_t {sg : am_G0} {m : Nat} : ∀ n, y_ok sg m n = true → ∀ i, i < n → y_t m i < sg 0 1
  | 0, _, i, hi => absurd hi (by omega)
  | n + 1, h, i, hi => by
    rw [y_ok_s] at h
    by_cases hin : i = n
    · rw [hin]; exact h.2.1
    · exact y_ok_t n h.1 i (by omega)
theorem y_pc1 : ∀ a, a < 16 → ∀ t, t < 4 → a.testBit t = false → r_pc 6 (a ||| 1 * 2 ^ t) = r_pc 6 a + 1 := by decide
theorem y_pc2 : ∀ n, n < 5 → ∀ a, a < 2 ^ n → r_pc 6 a ≤ n := by decide
theorem y_pig {sg : am_G0} {m : Nat} (h4 : sg 0 1 ≤ 4) : ∀ n, y_ok sg m n = true → y_met m n < 2 ^ sg 0 1 ∧ r_pc 6 (y_met m n) = n
  | 0, _ => ⟨Nat.two_pow_pos _, show r_pc 6 0 = 0 by decide⟩
  | n + 1, h => by
    rw [y_ok_s] at h
    obtain ⟨h1, h2⟩ := y_pig h4 n h.1
    have h3 : 1 * 2 ^ y_t m n < 2 ^ sg 0 1 := by
      rw [Nat.one_mul]; exact Nat.pow_lt_pow_right (by omega) h.2.1
    refine ⟨Nat.or_lt_two_pow h1 h3, ?_⟩
    show r_pc 6 (y_met m n ||| 1 * 2 ^ y_t m n) = n + 1
    rw [y_pc1 _ (y_met_lt m n) _ (y_t4 m n) h.2.2.1, h2]
theorem y_none {sg : am_G0} {m n : Nat} (h4 : sg 0 1 ≤ 4) (hn : sg 0 1 < n) : y_ok sg m n = false := by
  cases he : y_ok sg m n with
  | false => rfl
  | true =>
    obtain ⟨h1, h2⟩ := y_pig h4 n he
    have h3 := y_pc2 (sg 0 1) (by omega) _ h1
    omega
def y_cnt (sg : am_G0) : Nat → Nat
  | 0 => 0
  | k + 1 => y_cnt sg k + (if y_ok sg k (sg 10 0) = true then 1 else 0)
def y_cand (sg : am_G0) (i : Nat) : Nat → Nat
  | 0 => 0
  | k + 1 => if y_ok sg k (sg 10 0) = true then y_cand sg i k ||| 1 * 2 ^ y_t k i else y_cand sg i k
def y_one (c : Nat) : Nat := if c = 1 then 0 else if c = 2 then 1 else if c = 4 then 2 else if c = 8 then 3 else 100
theorem y_one_v (c : Nat) : y_one c < 4 ∨ y_one c = 100 := by
  unfold y_one
  split
  · omega
  · split
    · omega
    · split
      · omega
      · split <;> omega
theorem y_step : ∀ c, c < 16 → ∀ t, t < 4 → 0 < c → y_one (c ||| 1 * 2 ^ t) = if y_one c = t then t else 100 := by decide
theorem y_step0 : ∀ t, t < 4 → y_one (1 * 2 ^ t) = t ∧ y_one (0 ||| 1 * 2 ^ t) = t := by decide
theorem y_one_no : ∀ n, n < 5 → ∀ c, c < 2 ^ n → (∀ u, u < n → ¬ c = 1 * 2 ^ u) → y_one c = 100 := by decide
theorem y_cnt_le {sg : am_G0} : ∀ k, y_cnt sg k ≤ k
  | 0 => Nat.le_refl _
  | k + 1 => by
    have := y_cnt_le (sg := sg) k
    simp only [y_cnt]; split <;> omega
theorem y_cand_lt {sg : am_G0} {i : Nat} (hi : i < sg 10 0) : ∀ k, y_cand sg i k < 2 ^ sg 0 1
  | 0 => Nat.two_pow_pos _
  | k + 1 => by
    have h1 := y_cand_lt hi k
    simp only [y_cand]
    split
    · next h =>
      refine Nat.or_lt_two_pow h1 ?_
      rw [Nat.one_mul]; exact Nat.pow_lt_pow_right (by omega) (y_ok_t _ h i hi)
    · exact h1
theorem y_cand_0 {sg : am_G0} {i : Nat} : ∀ k, (y_cnt sg k = 0 → y_cand sg i k = 0) ∧ (0 < y_cnt sg k → 0 < y_cand sg i k)
  | 0 => ⟨fun _ => rfl, fun h => absurd h (by show ¬ 0 < 0; omega)⟩
  | k + 1 => by
    obtain ⟨h1, h2⟩ := y_cand_0 (sg := sg) (i := i) k
    simp only [y_cnt, y_cand]
    split
    · refine ⟨fun h => absurd h (by omega), fun _ => ?_⟩
      have := Nat.right_le_or (n := y_cand sg i k) (m := 1 * 2 ^ y_t k i)
      have := Nat.two_pow_pos (y_t k i)
      omega
    · exact ⟨h1, h2⟩
theorem y_zero {sg : am_G0} {i : Nat} (h4 : sg 0 1 ≤ 4) (hn : sg 0 1 < sg 10 0) : ∀ k, y_cnt sg k = 0 ∧ y_cand sg i k = 0
  | 0 => ⟨rfl, rfl⟩
  | k + 1 => by
    have h := y_none (m := k) h4 hn
    simp only [y_cnt, y_cand, h, Bool.false_eq_true, if_false]
    exact y_zero h4 hn k
def y_N (sg : am_G0) : Nat := if sg 10 0 ≤ sg 0 1 then 1 * 2 ^ (2 * sg 10 0) else 0
theorem y_N_le {sg : am_G0} (h4 : sg 0 1 ≤ 4) : y_N sg ≤ 256 := by
  unfold y_N
  split
  · have : 2 ^ (2 * sg 10 0) ≤ 2 ^ 8 := Nat.pow_le_pow_right (by omega) (by omega)
    omega
  · omega
section WH
variable {I : am_I} {L : am_L} {P : am_P} {S : am_S} {Q : Option Value → am_I → am_L → am_P → am_S → Prop} {h s n Lx : Nat} {sg : am_G0}
theorem s7 {m i : Nat} (hm : m < 65536) (hi : i < 6) : Ev 7 [.int (nI m), .int (nI i)] I L P S Q ↔ Q (some (.int (nI (y_t m i)))) I L P S := by
  have e : m / 2 ^ (2 * i) &&& 3 = y_t m i := by
    unfold y_t
    rw [show (4 : Nat) ^ i = 2 ^ (2 * i) by rw [Nat.pow_mul]]
    exact Nat.and_two_pow_sub_one_eq_mod _ 2
  simp +decide (disch := omega) only [xe7, x7_0, x7_1, x7_2, x7_3, x7_4, x7_5, x7_6, x7_7, ↓reduceIte, true_and, and_true, if_true, if_false, ne_eq, not_false_eq_true, am_u_at, am_nb0, am_nb1, am_fb0, am_fb1, am_kc_i, am_kc_r, am_kc_l, am_kc_n, am_wsum_n, am_wsum_i, am_wsum_r, am_wsum_l, am_rs_s, am_rs_n, n_c0, n_c1, n_c2, n_c3, n_c4, n_c5, n_c6, n_c7, n_c8, n_c9, n_c10, n_c11, n_c12, n_c14, n_c16, n_c18, n_c20, n_c24, n_c30, n_c31, n_c32, n_c36, n_c48, n_c57, n_c60, n_c63, n_c70, n_c75, n_c97, n_c100, n_c101, n_c104, n_c115, n_c116, n_c59, n_c150, n_c199, n_c200, n_c201, n_c216, n_c255, n_c256, n_c999, n_c1296, n_c4095, n_c6480, n_c100000, n_c1000, n_c65536, n_le, n_lt0, n_lt, n_eq, n_cl, n_add, n_sub, n_mul, n_div, n_rem, n_mo, n_in, n_nb0, n_nb1, n_fb0, n_fb1, n_vb0, n_vb1, n_and, n_k31, n_shr2, e]
theorem s6 (hd : h = 6 ∨ h = 13) (h1 : I h 1 = nI (sg 0 1)) (hn : sg 0 1 ≤ 4) (h46 : I 46 0 = nI (sg 10 0)) (hf : sg 10 0 ≤ 6) : Ev 6 [.ref 46, .ref h] I L (am_PT h s) (am_S1 Lx) Q ↔ Q (some (.int (nI (y_N sg)))) I L (am_PT h s) (am_S1 Lx) := by
  have P1 : (am_S1 Lx).1 h = (2, 0) := by rcases hd with rfl | rfl <;> rfl
  by_cases hc : sg 10 0 ≤ sg 0 1
  · have e : y_N sg = 1 * 2 ^ (2 * sg 10 0) := if_pos hc
    have c9 : 1 * 2 ^ (2 * sg 10 0) < 4294967296 := by
      have : 2 ^ (2 * sg 10 0) ≤ 2 ^ 8 := Nat.pow_le_pow_right (by omega) (by omega)
      omega
    rw [e]
    simp +decide (disch := first | omega | exact c9) only [xe6, x6_0, x6_1, x6_4, x6_5, x6_8, x6_11, x6_12, x6_15, x6_16, x6_17, x6_18, x6_21, x6_22, x6_23, ↓reduceIte, true_and, and_true, if_true, if_false, ne_eq, not_false_eq_true, am_u_at, am_nb0, am_nb1, am_fb0, am_fb1, am_kc_i, am_kc_r, am_kc_l, am_kc_n, am_wsum_n, am_wsum_i, am_wsum_r, am_wsum_l, am_rs_s, am_rs_n, am_S1_1, am_S1_2, am_S1_3, am_S1_4, am_S1_5, am_S1_6, am_S1_7, am_S1_8, am_S1_9, am_S1_10, am_S1_11, am_S1_12, am_S1_13, am_S1_14, am_S1_15, am_S1_16, am_S1_17, am_S1_18, am_S1_19, am_S1_20, am_S1_21, am_S1_22, am_S1_23, am_S1_24, am_S1_25, am_S1_26, am_S1_27, am_S1_28, am_S1_29, am_S1_30, am_S1_31, am_S1_32, am_S1_33, am_S1_34, am_S1_35, am_S1_36, am_S1_37, am_S1_38, am_S1_39, am_S1_40, am_S1_41, am_S1_42, am_S1_43, am_S1_44, am_S1_45, am_S1_46, am_S1_47, am_S1_48, am_S1_49, am_S1_50, am_S1_51, am_S1_52, am_S1_53, am_S1_54, am_S1_55, am_S1_56, am_S1_57, am_S1_58, am_S1_59, am_S1_60, am_S1_61, am_S1_62, am_S1_63, am_S1_64, am_S1_65, am_S1_66, am_S1_67, am_S1_68, am_S1_69, am_S1_70, am_S1_71, am_S1_72, am_S1_73, am_S1_74, am_S1_75, am_S1_76, am_S1_77, am_PT_3_1, am_PT_3_2, am_PT_3_0, am_PT_3_3, am_PT_3_4, am_PT_3_5, am_PT_3_6, am_PT_3_7, am_PT_3_8, am_PT_3_9, am_PT_3_10, am_PT_4_0, am_PT_6_6, am_PT_6_7, am_PT_6_8, am_PT_6_9, am_PT_6_10, am_PT_6_11, am_PT_13_6, am_PT_13_7, am_PT_13_8, am_PT_13_9, am_PT_13_10, am_PT_13_11, am_PT_20_3, am_PT_22_0, am_PT_23_0, am_PT_23_1, am_PT_23_2, am_PT_23_3, am_PT_23_4, am_PT_23_5, am_PT_23_6, am_PT_23_7, am_PT_23_8, am_PT_23_9, am_PT_24_3, am_PT_26_3, am_PT_28_3, am_PT_30_3, am_PT_32_3, am_PT_34_3, am_PT_36_3, am_PT_38_3, am_PT_40_3, am_PT_42_3, am_PT_44_0, am_PT_44_1, am_PT_46_2, am_PT_46_3, am_PT_46_4, am_PT_46_5, am_PT_51_0, am_PT_51_1, am_PT_51_2, am_PT_51_3, am_PT_51_4, am_PT_59_3, am_PT_61_3, am_PT_63_1, am_PT_63_3, am_PT_63_6, am_PT_63_7, am_PT_63_9, am_PT_63_10, am_PT_63_12, am_PT_63_14, am_PT_63_16, am_PT_63_25, am_PT_63_27, am_PT_63_30, am_PT_63_36, am_PT_63_37, n_c0, n_c1, n_c2, n_c3, n_c4, n_c5, n_c6, n_c7, n_c8, n_c9, n_c10, n_c11, n_c12, n_c14, n_c16, n_c18, n_c20, n_c24, n_c30, n_c31, n_c32, n_c36, n_c48, n_c57, n_c60, n_c63, n_c70, n_c75, n_c97, n_c100, n_c101, n_c104, n_c115, n_c116, n_c59, n_c150, n_c199, n_c200, n_c201, n_c216, n_c255, n_c256, n_c999, n_c1296, n_c4095, n_c6480, n_c100000, n_c1000, n_c65536, n_le, n_lt0, n_lt, n_eq, n_cl, n_add, n_sub, n_mul, n_div, n_rem, n_mo, n_in, n_nb0, n_nb1, n_fb0, n_fb1, n_vb0, n_vb1, P1, h1, h46, hc, n_and, n_k31, n_shl2]
  · have e : y_N sg = 0 := if_neg hc
    rw [e]
    simp +decide (disch := omega) only [xe6, x6_0, x6_1, x6_4, x6_5, x6_8, x6_11, x6_12, x6_15, x6_16, x6_17, x6_18, x6_21, x6_22, x6_23, ↓reduceIte, true_and, and_true, if_true, if_false, ne_eq, not_false_eq_true, am_u_at, am_nb0, am_nb1, am_fb0, am_fb1, am_kc_i, am_kc_r, am_kc_l, am_kc_n, am_wsum_n, am_wsum_i, am_wsum_r, am_wsum_l, am_rs_s, am_rs_n, am_S1_1, am_S1_2, am_S1_3, am_S1_4, am_S1_5, am_S1_6, am_S1_7, am_S1_8, am_S1_9, am_S1_10, am_S1_11, am_S1_12, am_S1_13, am_S1_14, am_S1_15, am_S1_16, am_S1_17, am_S1_18, am_S1_19, am_S1_20, am_S1_21, am_S1_22, am_S1_23, am_S1_24, am_S1_25, am_S1_26, am_S1_27, am_S1_28, am_S1_29, am_S1_30, am_S1_31, am_S1_32, am_S1_33, am_S1_34, am_S1_35, am_S1_36, am_S1_37, am_S1_38, am_S1_39, am_S1_40, am_S1_41, am_S1_42, am_S1_43, am_S1_44, am_S1_45, am_S1_46, am_S1_47, am_S1_48, am_S1_49, am_S1_50, am_S1_51, am_S1_52, am_S1_53, am_S1_54, am_S1_55, am_S1_56, am_S1_57, am_S1_58, am_S1_59, am_S1_60, am_S1_61, am_S1_62, am_S1_63, am_S1_64, am_S1_65, am_S1_66, am_S1_67, am_S1_68, am_S1_69, am_S1_70, am_S1_71, am_S1_72, am_S1_73, am_S1_74, am_S1_75, am_S1_76, am_S1_77, am_PT_3_1, am_PT_3_2, am_PT_3_0, am_PT_3_3, am_PT_3_4, am_PT_3_5, am_PT_3_6, am_PT_3_7, am_PT_3_8, am_PT_3_9, am_PT_3_10, am_PT_4_0, am_PT_6_6, am_PT_6_7, am_PT_6_8, am_PT_6_9, am_PT_6_10, am_PT_6_11, am_PT_13_6, am_PT_13_7, am_PT_13_8, am_PT_13_9, am_PT_13_10, am_PT_13_11, am_PT_20_3, am_PT_22_0, am_PT_23_0, am_PT_23_1, am_PT_23_2, am_PT_23_3, am_PT_23_4, am_PT_23_5, am_PT_23_6, am_PT_23_7, am_PT_23_8, am_PT_23_9, am_PT_24_3, am_PT_26_3, am_PT_28_3, am_PT_30_3, am_PT_32_3, am_PT_34_3, am_PT_36_3, am_PT_38_3, am_PT_40_3, am_PT_42_3, am_PT_44_0, am_PT_44_1, am_PT_46_2, am_PT_46_3, am_PT_46_4, am_PT_46_5, am_PT_51_0, am_PT_51_1, am_PT_51_2, am_PT_51_3, am_PT_51_4, am_PT_59_3, am_PT_61_3, am_PT_63_1, am_PT_63_3, am_PT_63_6, am_PT_63_7, am_PT_63_9, am_PT_63_10, am_PT_63_12, am_PT_63_14, am_PT_63_16, am_PT_63_25, am_PT_63_27, am_PT_63_30, am_PT_63_36, am_PT_63_37, n_c0, n_c1, n_c2, n_c3, n_c4, n_c5, n_c6, n_c7, n_c8, n_c9, n_c10, n_c11, n_c12, n_c14, n_c16, n_c18, n_c20, n_c24, n_c30, n_c31, n_c32, n_c36, n_c48, n_c57, n_c60, n_c63, n_c70, n_c75, n_c97, n_c100, n_c101, n_c104, n_c115, n_c116, n_c59, n_c150, n_c199, n_c200, n_c201, n_c216, n_c255, n_c256, n_c999, n_c1296, n_c4095, n_c6480, n_c100000, n_c1000, n_c65536, n_le, n_lt0, n_lt, n_eq, n_cl, n_add, n_sub, n_mul, n_div, n_rem, n_mo, n_in, n_nb0, n_nb1, n_fb0, n_fb1, n_vb0, n_vb1, P1, h1, h46, hc]
theorem l8 (hd : h = 6 ∨ h = 13) (h1 : I h 1 = nI (sg 0 1)) (hn : sg 0 1 ≤ 4) (h46 : I 46 0 = nI (sg 10 0)) (hf : sg 10 0 ≤ 6) (h47 : ∀ i, i < sg 10 0 → sg 11 i ≤ 31 ∧ I 47 i = nI (sg 11 i)) (h4 : ∀ t, t < sg 0 1 → sg 4 t ≤ 31 ∧ I (h + 4) t = nI (sg 4 t)) {m : Nat} (hm : m < 65536) : ∀ (k i : Nat) (l5 : Option Value), i + k = sg 10 0 → y_ok sg m i = true →
    (Ex 8 5 [some (.ref 46), some (.ref h), some (.int (nI m)), some (.int (nI (y_met m i))), some (.int (nI i)), l5] [] I L (am_PT h s) (am_S1 Lx) Q ↔ Q (some (.int (if y_ok sg m (sg 10 0) = true then nI 1 else nI 0))) I L (am_PT h s) (am_S1 Lx)) := by
  have P1 : (am_S1 Lx).1 h = (2, 0) := by rcases hd with rfl | rfl <;> rfl
  have PX4 : am_PT h s h 9 = h + 4 ∧ (am_S1 Lx).1 (h + 4) = (20, 4) ∧ ¬ h + 4 = 0 := by rcases hd with rfl | rfl <;> exact ⟨rfl, rfl, by omega⟩
  have h0 : ¬ h = 0 := by omega
  intro k
  induction k with
  | zero =>
    intro i l5 hi hok
    obtain rfl : i = sg 10 0 := by omega
    rw [x8_5]
    simp +decide (disch := omega) only [x8_7, x8_8, x8_11, x8_78, x8_79, ↓reduceIte, true_and, and_true, if_true, if_false, ne_eq, not_false_eq_true, am_u_at, am_nb0, am_nb1, am_fb0, am_fb1, am_kc_i, am_kc_r, am_kc_l, am_kc_n, am_wsum_n, am_wsum_i, am_wsum_r, am_wsum_l, am_rs_s, am_rs_n, am_S1_1, am_S1_2, am_S1_3, am_S1_4, am_S1_5, am_S1_6, am_S1_7, am_S1_8, am_S1_9, am_S1_10, am_S1_11, am_S1_12, am_S1_13, am_S1_14, am_S1_15, am_S1_16, am_S1_17, am_S1_18, am_S1_19, am_S1_20, am_S1_21, am_S1_22, am_S1_23, am_S1_24, am_S1_25, am_S1_26, am_S1_27, am_S1_28, am_S1_29, am_S1_30, am_S1_31, am_S1_32, am_S1_33, am_S1_34, am_S1_35, am_S1_36, am_S1_37, am_S1_38, am_S1_39, am_S1_40, am_S1_41, am_S1_42, am_S1_43, am_S1_44, am_S1_45, am_S1_46, am_S1_47, am_S1_48, am_S1_49, am_S1_50, am_S1_51, am_S1_52, am_S1_53, am_S1_54, am_S1_55, am_S1_56, am_S1_57, am_S1_58, am_S1_59, am_S1_60, am_S1_61, am_S1_62, am_S1_63, am_S1_64, am_S1_65, am_S1_66, am_S1_67, am_S1_68, am_S1_69, am_S1_70, am_S1_71, am_S1_72, am_S1_73, am_S1_74, am_S1_75, am_S1_76, am_S1_77, am_PT_3_1, am_PT_3_2, am_PT_3_0, am_PT_3_3, am_PT_3_4, am_PT_3_5, am_PT_3_6, am_PT_3_7, am_PT_3_8, am_PT_3_9, am_PT_3_10, am_PT_4_0, am_PT_6_6, am_PT_6_7, am_PT_6_8, am_PT_6_9, am_PT_6_10, am_PT_6_11, am_PT_13_6, am_PT_13_7, am_PT_13_8, am_PT_13_9, am_PT_13_10, am_PT_13_11, am_PT_20_3, am_PT_22_0, am_PT_23_0, am_PT_23_1, am_PT_23_2, am_PT_23_3, am_PT_23_4, am_PT_23_5, am_PT_23_6, am_PT_23_7, am_PT_23_8, am_PT_23_9, am_PT_24_3, am_PT_26_3, am_PT_28_3, am_PT_30_3, am_PT_32_3, am_PT_34_3, am_PT_36_3, am_PT_38_3, am_PT_40_3, am_PT_42_3, am_PT_44_0, am_PT_44_1, am_PT_46_2, am_PT_46_3, am_PT_46_4, am_PT_46_5, am_PT_51_0, am_PT_51_1, am_PT_51_2, am_PT_51_3, am_PT_51_4, am_PT_59_3, am_PT_61_3, am_PT_63_1, am_PT_63_3, am_PT_63_6, am_PT_63_7, am_PT_63_9, am_PT_63_10, am_PT_63_12, am_PT_63_14, am_PT_63_16, am_PT_63_25, am_PT_63_27, am_PT_63_30, am_PT_63_36, am_PT_63_37, n_c0, n_c1, n_c2, n_c3, n_c4, n_c5, n_c6, n_c7, n_c8, n_c9, n_c10, n_c11, n_c12, n_c14, n_c16, n_c18, n_c20, n_c24, n_c30, n_c31, n_c32, n_c36, n_c48, n_c57, n_c60, n_c63, n_c70, n_c75, n_c97, n_c100, n_c101, n_c104, n_c115, n_c116, n_c59, n_c150, n_c199, n_c200, n_c201, n_c216, n_c255, n_c256, n_c999, n_c1296, n_c4095, n_c6480, n_c100000, n_c1000, n_c65536, n_le, n_lt0, n_lt, n_eq, n_cl, n_add, n_sub, n_mul, n_div, n_rem, n_mo, n_in, n_nb0, n_nb1, n_fb0, n_fb1, n_vb0, n_vb1, h46, Nat.le_refl, hok]
  | succ k ih =>
    intro i l5 hi hok
    have c1 : ¬ sg 10 0 ≤ i := by omega
    have c0 : i < 6 := by omega
    have ht := y_t4 m i
    have hmt := y_met_lt m i
    have e := n_tb (r := y_met m i) (t := y_t m i)
    have fin : y_ok sg m (i + 1) = false → y_ok sg m (sg 10 0) = false := fun q => y_ok_0 q _ (by omega)
    rw [x8_5]
    by_cases c2 : y_t m i < sg 0 1
    · by_cases c3 : (y_met m i).testBit (y_t m i) = true
      · have q := fin (by
          cases hq : y_ok sg m (i + 1) with
          | false => rfl
          | true => rw [y_ok_s] at hq; rw [hq.2.2.1] at c3; exact absurd c3 (by decide))
        rw [if_pos c3] at e
        simp +decide (disch := omega) only [x8_7, x8_8, x8_11, x8_14, x8_15, x8_17, x8_20, x8_22, x8_23, x8_25, x8_28, x8_31, x8_32, x8_34, x8_35, x8_36, x8_37, x8_38, x8_41, x8_42, x8_45, x8_47, x8_48, x8_49, x8_52, x8_54, x8_55, x8_56, x8_59, x8_60, x8_63, x8_64, ↓reduceIte, true_and, and_true, if_true, if_false, ne_eq, not_false_eq_true, am_u_at, am_nb0, am_nb1, am_fb0, am_fb1, am_kc_i, am_kc_r, am_kc_l, am_kc_n, am_wsum_n, am_wsum_i, am_wsum_r, am_wsum_l, am_rs_s, am_rs_n, am_S1_1, am_S1_2, am_S1_3, am_S1_4, am_S1_5, am_S1_6, am_S1_7, am_S1_8, am_S1_9, am_S1_10, am_S1_11, am_S1_12, am_S1_13, am_S1_14, am_S1_15, am_S1_16, am_S1_17, am_S1_18, am_S1_19, am_S1_20, am_S1_21, am_S1_22, am_S1_23, am_S1_24, am_S1_25, am_S1_26, am_S1_27, am_S1_28, am_S1_29, am_S1_30, am_S1_31, am_S1_32, am_S1_33, am_S1_34, am_S1_35, am_S1_36, am_S1_37, am_S1_38, am_S1_39, am_S1_40, am_S1_41, am_S1_42, am_S1_43, am_S1_44, am_S1_45, am_S1_46, am_S1_47, am_S1_48, am_S1_49, am_S1_50, am_S1_51, am_S1_52, am_S1_53, am_S1_54, am_S1_55, am_S1_56, am_S1_57, am_S1_58, am_S1_59, am_S1_60, am_S1_61, am_S1_62, am_S1_63, am_S1_64, am_S1_65, am_S1_66, am_S1_67, am_S1_68, am_S1_69, am_S1_70, am_S1_71, am_S1_72, am_S1_73, am_S1_74, am_S1_75, am_S1_76, am_S1_77, am_PT_3_1, am_PT_3_2, am_PT_3_0, am_PT_3_3, am_PT_3_4, am_PT_3_5, am_PT_3_6, am_PT_3_7, am_PT_3_8, am_PT_3_9, am_PT_3_10, am_PT_4_0, am_PT_6_6, am_PT_6_7, am_PT_6_8, am_PT_6_9, am_PT_6_10, am_PT_6_11, am_PT_13_6, am_PT_13_7, am_PT_13_8, am_PT_13_9, am_PT_13_10, am_PT_13_11, am_PT_20_3, am_PT_22_0, am_PT_23_0, am_PT_23_1, am_PT_23_2, am_PT_23_3, am_PT_23_4, am_PT_23_5, am_PT_23_6, am_PT_23_7, am_PT_23_8, am_PT_23_9, am_PT_24_3, am_PT_26_3, am_PT_28_3, am_PT_30_3, am_PT_32_3, am_PT_34_3, am_PT_36_3, am_PT_38_3, am_PT_40_3, am_PT_42_3, am_PT_44_0, am_PT_44_1, am_PT_46_2, am_PT_46_3, am_PT_46_4, am_PT_46_5, am_PT_51_0, am_PT_51_1, am_PT_51_2, am_PT_51_3, am_PT_51_4, am_PT_59_3, am_PT_61_3, am_PT_63_1, am_PT_63_3, am_PT_63_6, am_PT_63_7, am_PT_63_9, am_PT_63_10, am_PT_63_12, am_PT_63_14, am_PT_63_16, am_PT_63_25, am_PT_63_27, am_PT_63_30, am_PT_63_36, am_PT_63_37, n_c0, n_c1, n_c2, n_c3, n_c4, n_c5, n_c6, n_c7, n_c8, n_c9, n_c10, n_c11, n_c12, n_c14, n_c16, n_c18, n_c20, n_c24, n_c30, n_c31, n_c32, n_c36, n_c48, n_c57, n_c60, n_c63, n_c70, n_c75, n_c97, n_c100, n_c101, n_c104, n_c115, n_c116, n_c59, n_c150, n_c199, n_c200, n_c201, n_c216, n_c255, n_c256, n_c999, n_c1296, n_c4095, n_c6480, n_c100000, n_c1000, n_c65536, n_le, n_lt0, n_lt, n_eq, n_cl, n_add, n_sub, n_mul, n_div, n_rem, n_mo, n_in, n_nb0, n_nb1, n_fb0, n_fb1, n_vb0, n_vb1, h46, c1, c0, s7 hm, s15 P1 h0, P1, Nat.zero_le, h1, c2, n_and, n_k31, n_shr2, e, q]
      · rw [if_neg c3] at e
        obtain ⟨m1, m2⟩ := h4 _ c2
        obtain ⟨f1, f2⟩ := h47 i (by omega)
        have x64 : sg 4 (y_t m i) ^^^ sg 11 i < 64 := Nat.xor_lt_two_pow (n := 6) (by omega) (by omega)
        have p6 := r_pc_le (sg 4 (y_t m i) ^^^ sg 11 i) 6
        by_cases c4 : r_pc 6 (sg 4 (y_t m i) ^^^ sg 11 i) ≤ 1
        · have q : y_ok sg m (i + 1) = true := y_ok_s.mpr ⟨hok, c2, by simpa using c3, c4⟩
          have c9 : 1 * 2 ^ y_t m i < 4294967296 := by have := y_bit m i; omega
          simp +decide (disch := first | omega | exact c9) only [x8_7, x8_8, x8_11, x8_14, x8_15, x8_17, x8_20, x8_22, x8_23, x8_25, x8_28, x8_31, x8_32, x8_34, x8_35, x8_36, x8_37, x8_38, x8_41, x8_42, x8_45, x8_47, x8_48, x8_49, x8_52, x8_54, x8_55, x8_56, x8_59, x8_60, x8_63, x8_64, x8_65, x8_66, x8_67, x8_69, x8_70, x8_71, x8_72, x8_75, ↓reduceIte, true_and, and_true, if_true, if_false, ne_eq, not_false_eq_true, am_u_at, am_nb0, am_nb1, am_fb0, am_fb1, am_kc_i, am_kc_r, am_kc_l, am_kc_n, am_wsum_n, am_wsum_i, am_wsum_r, am_wsum_l, am_rs_s, am_rs_n, am_S1_1, am_S1_2, am_S1_3, am_S1_4, am_S1_5, am_S1_6, am_S1_7, am_S1_8, am_S1_9, am_S1_10, am_S1_11, am_S1_12, am_S1_13, am_S1_14, am_S1_15, am_S1_16, am_S1_17, am_S1_18, am_S1_19, am_S1_20, am_S1_21, am_S1_22, am_S1_23, am_S1_24, am_S1_25, am_S1_26, am_S1_27, am_S1_28, am_S1_29, am_S1_30, am_S1_31, am_S1_32, am_S1_33, am_S1_34, am_S1_35, am_S1_36, am_S1_37, am_S1_38, am_S1_39, am_S1_40, am_S1_41, am_S1_42, am_S1_43, am_S1_44, am_S1_45, am_S1_46, am_S1_47, am_S1_48, am_S1_49, am_S1_50, am_S1_51, am_S1_52, am_S1_53, am_S1_54, am_S1_55, am_S1_56, am_S1_57, am_S1_58, am_S1_59, am_S1_60, am_S1_61, am_S1_62, am_S1_63, am_S1_64, am_S1_65, am_S1_66, am_S1_67, am_S1_68, am_S1_69, am_S1_70, am_S1_71, am_S1_72, am_S1_73, am_S1_74, am_S1_75, am_S1_76, am_S1_77, am_PT_3_1, am_PT_3_2, am_PT_3_0, am_PT_3_3, am_PT_3_4, am_PT_3_5, am_PT_3_6, am_PT_3_7, am_PT_3_8, am_PT_3_9, am_PT_3_10, am_PT_4_0, am_PT_6_6, am_PT_6_7, am_PT_6_8, am_PT_6_9, am_PT_6_10, am_PT_6_11, am_PT_13_6, am_PT_13_7, am_PT_13_8, am_PT_13_9, am_PT_13_10, am_PT_13_11, am_PT_20_3, am_PT_22_0, am_PT_23_0, am_PT_23_1, am_PT_23_2, am_PT_23_3, am_PT_23_4, am_PT_23_5, am_PT_23_6, am_PT_23_7, am_PT_23_8, am_PT_23_9, am_PT_24_3, am_PT_26_3, am_PT_28_3, am_PT_30_3, am_PT_32_3, am_PT_34_3, am_PT_36_3, am_PT_38_3, am_PT_40_3, am_PT_42_3, am_PT_44_0, am_PT_44_1, am_PT_46_2, am_PT_46_3, am_PT_46_4, am_PT_46_5, am_PT_51_0, am_PT_51_1, am_PT_51_2, am_PT_51_3, am_PT_51_4, am_PT_59_3, am_PT_61_3, am_PT_63_1, am_PT_63_3, am_PT_63_6, am_PT_63_7, am_PT_63_9, am_PT_63_10, am_PT_63_12, am_PT_63_14, am_PT_63_16, am_PT_63_25, am_PT_63_27, am_PT_63_30, am_PT_63_36, am_PT_63_37, n_c0, n_c1, n_c2, n_c3, n_c4, n_c5, n_c6, n_c7, n_c8, n_c9, n_c10, n_c11, n_c12, n_c14, n_c16, n_c18, n_c20, n_c24, n_c30, n_c31, n_c32, n_c36, n_c48, n_c57, n_c60, n_c63, n_c70, n_c75, n_c97, n_c100, n_c101, n_c104, n_c115, n_c116, n_c59, n_c150, n_c199, n_c200, n_c201, n_c216, n_c255, n_c256, n_c999, n_c1296, n_c4095, n_c6480, n_c100000, n_c1000, n_c65536, n_le, n_lt0, n_lt, n_eq, n_cl, n_add, n_sub, n_mul, n_div, n_rem, n_mo, n_in, n_nb0, n_nb1, n_fb0, n_fb1, n_vb0, n_vb1, h46, c1, c0, s7 hm, s15 P1 h0, P1, Nat.zero_le, h1, c2, n_and, n_k31, n_shr2, e, PX4.1, PX4.2.1, PX4.2.2, m2, f2, ht, n_xor, s156 x64, c4, n_shl2, n_or]
          exact ih (i + 1) _ (by omega) q
        · have q := fin (by
            cases hq : y_ok sg m (i + 1) with
            | false => rfl
            | true => rw [y_ok_s] at hq; exact absurd hq.2.2.2 c4)
          simp +decide (disch := omega) only [x8_7, x8_8, x8_11, x8_14, x8_15, x8_17, x8_20, x8_22, x8_23, x8_25, x8_28, x8_31, x8_32, x8_34, x8_35, x8_36, x8_37, x8_38, x8_41, x8_42, x8_45, x8_47, x8_48, x8_49, x8_52, x8_54, x8_55, x8_56, x8_59, x8_60, x8_63, x8_64, ↓reduceIte, true_and, and_true, if_true, if_false, ne_eq, not_false_eq_true, am_u_at, am_nb0, am_nb1, am_fb0, am_fb1, am_kc_i, am_kc_r, am_kc_l, am_kc_n, am_wsum_n, am_wsum_i, am_wsum_r, am_wsum_l, am_rs_s, am_rs_n, am_S1_1, am_S1_2, am_S1_3, am_S1_4, am_S1_5, am_S1_6, am_S1_7, am_S1_8, am_S1_9, am_S1_10, am_S1_11, am_S1_12, am_S1_13, am_S1_14, am_S1_15, am_S1_16, am_S1_17, am_S1_18, am_S1_19, am_S1_20, am_S1_21, am_S1_22, am_S1_23, am_S1_24, am_S1_25, am_S1_26, am_S1_27, am_S1_28, am_S1_29, am_S1_30, am_S1_31, am_S1_32, am_S1_33, am_S1_34, am_S1_35, am_S1_36, am_S1_37, am_S1_38, am_S1_39, am_S1_40, am_S1_41, am_S1_42, am_S1_43, am_S1_44, am_S1_45, am_S1_46, am_S1_47, am_S1_48, am_S1_49, am_S1_50, am_S1_51, am_S1_52, am_S1_53, am_S1_54, am_S1_55, am_S1_56, am_S1_57, am_S1_58, am_S1_59, am_S1_60, am_S1_61, am_S1_62, am_S1_63, am_S1_64, am_S1_65, am_S1_66, am_S1_67, am_S1_68, am_S1_69, am_S1_70, am_S1_71, am_S1_72, am_S1_73, am_S1_74, am_S1_75, am_S1_76, am_S1_77, am_PT_3_1, am_PT_3_2, am_PT_3_0, am_PT_3_3, am_PT_3_4, am_PT_3_5, am_PT_3_6, am_PT_3_7, am_PT_3_8, am_PT_3_9, am_PT_3_10, am_PT_4_0, am_PT_6_6, am_PT_6_7, am_PT_6_8, am_PT_6_9, am_PT_6_10, am_PT_6_11, am_PT_13_6, am_PT_13_7, am_PT_13_8, am_PT_13_9, am_PT_13_10, am_PT_13_11, am_PT_20_3, am_PT_22_0, am_PT_23_0, am_PT_23_1, am_PT_23_2, am_PT_23_3, am_PT_23_4, am_PT_23_5, am_PT_23_6, am_PT_23_7, am_PT_23_8, am_PT_23_9, am_PT_24_3, am_PT_26_3, am_PT_28_3, am_PT_30_3, am_PT_32_3, am_PT_34_3, am_PT_36_3, am_PT_38_3, am_PT_40_3, am_PT_42_3, am_PT_44_0, am_PT_44_1, am_PT_46_2, am_PT_46_3, am_PT_46_4, am_PT_46_5, am_PT_51_0, am_PT_51_1, am_PT_51_2, am_PT_51_3, am_PT_51_4, am_PT_59_3, am_PT_61_3, am_PT_63_1, am_PT_63_3, am_PT_63_6, am_PT_63_7, am_PT_63_9, am_PT_63_10, am_PT_63_12, am_PT_63_14, am_PT_63_16, am_PT_63_25, am_PT_63_27, am_PT_63_30, am_PT_63_36, am_PT_63_37, n_c0, n_c1, n_c2, n_c3, n_c4, n_c5, n_c6, n_c7, n_c8, n_c9, n_c10, n_c11, n_c12, n_c14, n_c16, n_c18, n_c20, n_c24, n_c30, n_c31, n_c32, n_c36, n_c48, n_c57, n_c60, n_c63, n_c70, n_c75, n_c97, n_c100, n_c101, n_c104, n_c115, n_c116, n_c59, n_c150, n_c199, n_c200, n_c201, n_c216, n_c255, n_c256, n_c999, n_c1296, n_c4095, n_c6480, n_c100000, n_c1000, n_c65536, n_le, n_lt0, n_lt, n_eq, n_cl, n_add, n_sub, n_mul, n_div, n_rem, n_mo, n_in, n_nb0, n_nb1, n_fb0, n_fb1, n_vb0, n_vb1, h46, c1, c0, s7 hm, s15 P1 h0, P1, Nat.zero_le, h1, c2, n_and, n_k31, n_shr2, e, PX4.1, PX4.2.1, PX4.2.2, m2, f2, ht, n_xor, s156 x64, c4, q]
    · have q := fin (by
        cases hq : y_ok sg m (i + 1) with
        | false => rfl
        | true => rw [y_ok_s] at hq; exact absurd hq.2.1 c2)
      simp +decide (disch := omega) only [x8_7, x8_8, x8_11, x8_14, x8_15, x8_17, x8_20, x8_22, x8_23, x8_25, x8_28, x8_31, x8_32, x8_34, x8_35, x8_36, x8_37, x8_38, x8_41, x8_42, x8_45, x8_47, x8_48, x8_49, x8_52, x8_54, x8_55, x8_56, x8_59, x8_60, x8_63, x8_64, ↓reduceIte, true_and, and_true, if_true, if_false, ne_eq, not_false_eq_true, am_u_at, am_nb0, am_nb1, am_fb0, am_fb1, am_kc_i, am_kc_r, am_kc_l, am_kc_n, am_wsum_n, am_wsum_i, am_wsum_r, am_wsum_l, am_rs_s, am_rs_n, am_S1_1, am_S1_2, am_S1_3, am_S1_4, am_S1_5, am_S1_6, am_S1_7, am_S1_8, am_S1_9, am_S1_10, am_S1_11, am_S1_12, am_S1_13, am_S1_14, am_S1_15, am_S1_16, am_S1_17, am_S1_18, am_S1_19, am_S1_20, am_S1_21, am_S1_22, am_S1_23, am_S1_24, am_S1_25, am_S1_26, am_S1_27, am_S1_28, am_S1_29, am_S1_30, am_S1_31, am_S1_32, am_S1_33, am_S1_34, am_S1_35, am_S1_36, am_S1_37, am_S1_38, am_S1_39, am_S1_40, am_S1_41, am_S1_42, am_S1_43, am_S1_44, am_S1_45, am_S1_46, am_S1_47, am_S1_48, am_S1_49, am_S1_50, am_S1_51, am_S1_52, am_S1_53, am_S1_54, am_S1_55, am_S1_56, am_S1_57, am_S1_58, am_S1_59, am_S1_60, am_S1_61, am_S1_62, am_S1_63, am_S1_64, am_S1_65, am_S1_66, am_S1_67, am_S1_68, am_S1_69, am_S1_70, am_S1_71, am_S1_72, am_S1_73, am_S1_74, am_S1_75, am_S1_76, am_S1_77, am_PT_3_1, am_PT_3_2, am_PT_3_0, am_PT_3_3, am_PT_3_4, am_PT_3_5, am_PT_3_6, am_PT_3_7, am_PT_3_8, am_PT_3_9, am_PT_3_10, am_PT_4_0, am_PT_6_6, am_PT_6_7, am_PT_6_8, am_PT_6_9, am_PT_6_10, am_PT_6_11, am_PT_13_6, am_PT_13_7, am_PT_13_8, am_PT_13_9, am_PT_13_10, am_PT_13_11, am_PT_20_3, am_PT_22_0, am_PT_23_0, am_PT_23_1, am_PT_23_2, am_PT_23_3, am_PT_23_4, am_PT_23_5, am_PT_23_6, am_PT_23_7, am_PT_23_8, am_PT_23_9, am_PT_24_3, am_PT_26_3, am_PT_28_3, am_PT_30_3, am_PT_32_3, am_PT_34_3, am_PT_36_3, am_PT_38_3, am_PT_40_3, am_PT_42_3, am_PT_44_0, am_PT_44_1, am_PT_46_2, am_PT_46_3, am_PT_46_4, am_PT_46_5, am_PT_51_0, am_PT_51_1, am_PT_51_2, am_PT_51_3, am_PT_51_4, am_PT_59_3, am_PT_61_3, am_PT_63_1, am_PT_63_3, am_PT_63_6, am_PT_63_7, am_PT_63_9, am_PT_63_10, am_PT_63_12, am_PT_63_14, am_PT_63_16, am_PT_63_25, am_PT_63_27, am_PT_63_30, am_PT_63_36, am_PT_63_37, n_c0, n_c1, n_c2, n_c3, n_c4, n_c5, n_c6, n_c7, n_c8, n_c9, n_c10, n_c11, n_c12, n_c14, n_c16, n_c18, n_c20, n_c24, n_c30, n_c31, n_c32, n_c36, n_c48, n_c57, n_c60, n_c63, n_c70, n_c75, n_c97, n_c100, n_c101, n_c104, n_c115, n_c116, n_c59, n_c150, n_c199, n_c200, n_c201, n_c216, n_c255, n_c256, n_c999, n_c1296, n_c4095, n_c6480, n_c100000, n_c1000, n_c65536, n_le, n_lt0, n_lt, n_eq, n_cl, n_add, n_sub, n_mul, n_div, n_rem, n_mo, n_in, n_nb0, n_nb1, n_fb0, n_fb1, n_vb0, n_vb1, h46, c1, c0, s7 hm, s15 P1 h0, P1, Nat.zero_le, h1, c2, and_false, q]
theorem s8 (hd : h = 6 ∨ h = 13) (h1 : I h 1 = nI (sg 0 1)) (hn : sg 0 1 ≤ 4) (h46 : I 46 0 = nI (sg 10 0)) (hf : sg 10 0 ≤ 6) (h47 : ∀ i, i < sg 10 0 → sg 11 i ≤ 31 ∧ I 47 i = nI (sg 11 i)) (h4 : ∀ t, t < sg 0 1 → sg 4 t ≤ 31 ∧ I (h + 4) t = nI (sg 4 t)) {m : Nat} (hm : m < 65536) : Ev 8 [.ref 46, .ref h, .int (nI m)] I L (am_PT h s) (am_S1 Lx) Q ↔ Q (some (.int (if y_ok sg m (sg 10 0) = true then nI 1 else nI 0))) I L (am_PT h s) (am_S1 Lx) := by
  simp +decide (disch := omega) only [xe8, x8_0, x8_1, x8_2, x8_3, ↓reduceIte, true_and, and_true, if_true, if_false, ne_eq, not_false_eq_true, am_u_at, am_nb0, am_nb1, am_fb0, am_fb1, am_kc_i, am_kc_r, am_kc_l, am_kc_n, am_wsum_n, am_wsum_i, am_wsum_r, am_wsum_l, am_rs_s, am_rs_n, n_c0, n_c1, n_c2, n_c3, n_c4, n_c5, n_c6, n_c7, n_c8, n_c9, n_c10, n_c11, n_c12, n_c14, n_c16, n_c18, n_c20, n_c24, n_c30, n_c31, n_c32, n_c36, n_c48, n_c57, n_c60, n_c63, n_c70, n_c75, n_c97, n_c100, n_c101, n_c104, n_c115, n_c116, n_c59, n_c150, n_c199, n_c200, n_c201, n_c216, n_c255, n_c256, n_c999, n_c1296, n_c4095, n_c6480, n_c100000, n_c1000, n_c65536]
  exact l8 hd h1 hn h46 hf h47 h4 hm (sg 10 0) 0 none (by omega) rfl
theorem l4 (hd : h = 6 ∨ h = 13) (h1 : I h 1 = nI (sg 0 1)) (hn : sg 0 1 ≤ 4) (h46 : I 46 0 = nI (sg 10 0)) (hf : sg 10 0 ≤ 6) (h47 : ∀ i, i < sg 10 0 → sg 11 i ≤ 31 ∧ I 47 i = nI (sg 11 i)) (h4 : ∀ t, t < sg 0 1 → sg 4 t ≤ 31 ∧ I (h + 4) t = nI (sg 4 t)) : ∀ (m k : Nat), k + m = y_N sg →
    (Ex 4 4 [some (.ref 46), some (.ref h), some (.int (nI (y_cnt sg k))), some (.int (nI k))] [] I L (am_PT h s) (am_S1 Lx) Q ↔ Q (some (.int (nI (y_cnt sg (y_N sg))))) I L (am_PT h s) (am_S1 Lx)) := by
  have hN := y_N_le hn
  intro m
  induction m with
  | zero =>
    intro k hk
    obtain rfl : k = y_N sg := by omega
    rw [x4_4]
    simp +decide (disch := omega) only [x4_5, x4_6, x4_7, x4_10, x4_13, x4_14, x4_15, x4_16, x4_19, x4_22, x4_25, x4_28, x4_31, x4_32, ↓reduceIte, true_and, and_true, if_true, if_false, ne_eq, not_false_eq_true, am_u_at, am_nb0, am_nb1, am_fb0, am_fb1, am_kc_i, am_kc_r, am_kc_l, am_kc_n, am_wsum_n, am_wsum_i, am_wsum_r, am_wsum_l, am_rs_s, am_rs_n, am_S1_1, am_S1_2, am_S1_3, am_S1_4, am_S1_5, am_S1_6, am_S1_7, am_S1_8, am_S1_9, am_S1_10, am_S1_11, am_S1_12, am_S1_13, am_S1_14, am_S1_15, am_S1_16, am_S1_17, am_S1_18, am_S1_19, am_S1_20, am_S1_21, am_S1_22, am_S1_23, am_S1_24, am_S1_25, am_S1_26, am_S1_27, am_S1_28, am_S1_29, am_S1_30, am_S1_31, am_S1_32, am_S1_33, am_S1_34, am_S1_35, am_S1_36, am_S1_37, am_S1_38, am_S1_39, am_S1_40, am_S1_41, am_S1_42, am_S1_43, am_S1_44, am_S1_45, am_S1_46, am_S1_47, am_S1_48, am_S1_49, am_S1_50, am_S1_51, am_S1_52, am_S1_53, am_S1_54, am_S1_55, am_S1_56, am_S1_57, am_S1_58, am_S1_59, am_S1_60, am_S1_61, am_S1_62, am_S1_63, am_S1_64, am_S1_65, am_S1_66, am_S1_67, am_S1_68, am_S1_69, am_S1_70, am_S1_71, am_S1_72, am_S1_73, am_S1_74, am_S1_75, am_S1_76, am_S1_77, am_PT_3_1, am_PT_3_2, am_PT_3_0, am_PT_3_3, am_PT_3_4, am_PT_3_5, am_PT_3_6, am_PT_3_7, am_PT_3_8, am_PT_3_9, am_PT_3_10, am_PT_4_0, am_PT_6_6, am_PT_6_7, am_PT_6_8, am_PT_6_9, am_PT_6_10, am_PT_6_11, am_PT_13_6, am_PT_13_7, am_PT_13_8, am_PT_13_9, am_PT_13_10, am_PT_13_11, am_PT_20_3, am_PT_22_0, am_PT_23_0, am_PT_23_1, am_PT_23_2, am_PT_23_3, am_PT_23_4, am_PT_23_5, am_PT_23_6, am_PT_23_7, am_PT_23_8, am_PT_23_9, am_PT_24_3, am_PT_26_3, am_PT_28_3, am_PT_30_3, am_PT_32_3, am_PT_34_3, am_PT_36_3, am_PT_38_3, am_PT_40_3, am_PT_42_3, am_PT_44_0, am_PT_44_1, am_PT_46_2, am_PT_46_3, am_PT_46_4, am_PT_46_5, am_PT_51_0, am_PT_51_1, am_PT_51_2, am_PT_51_3, am_PT_51_4, am_PT_59_3, am_PT_61_3, am_PT_63_1, am_PT_63_3, am_PT_63_6, am_PT_63_7, am_PT_63_9, am_PT_63_10, am_PT_63_12, am_PT_63_14, am_PT_63_16, am_PT_63_25, am_PT_63_27, am_PT_63_30, am_PT_63_36, am_PT_63_37, n_c0, n_c1, n_c2, n_c3, n_c4, n_c5, n_c6, n_c7, n_c8, n_c9, n_c10, n_c11, n_c12, n_c14, n_c16, n_c18, n_c20, n_c24, n_c30, n_c31, n_c32, n_c36, n_c48, n_c57, n_c60, n_c63, n_c70, n_c75, n_c97, n_c100, n_c101, n_c104, n_c115, n_c116, n_c59, n_c150, n_c199, n_c200, n_c201, n_c216, n_c255, n_c256, n_c999, n_c1296, n_c4095, n_c6480, n_c100000, n_c1000, n_c65536, n_le, n_lt0, n_lt, n_eq, n_cl, n_add, n_sub, n_mul, n_div, n_rem, n_mo, n_in, n_nb0, n_nb1, n_fb0, n_fb1, n_vb0, n_vb1, s6 hd h1 hn h46 hf, Nat.le_refl]
  | succ m ih =>
    intro k hk
    have c1 : ¬ y_N sg ≤ k := by omega
    have ih2 := ih (k + 1) (by omega)
    simp only [y_cnt] at ih2
    rw [x4_4]
    by_cases hc : y_ok sg k (sg 10 0) = true
    · rw [if_pos hc] at ih2
      simp +decide (disch := omega) only [x4_5, x4_6, x4_7, x4_10, x4_13, x4_14, x4_15, x4_16, x4_19, x4_22, x4_25, x4_28, ↓reduceIte, true_and, and_true, if_true, if_false, ne_eq, not_false_eq_true, am_u_at, am_nb0, am_nb1, am_fb0, am_fb1, am_kc_i, am_kc_r, am_kc_l, am_kc_n, am_wsum_n, am_wsum_i, am_wsum_r, am_wsum_l, am_rs_s, am_rs_n, am_S1_1, am_S1_2, am_S1_3, am_S1_4, am_S1_5, am_S1_6, am_S1_7, am_S1_8, am_S1_9, am_S1_10, am_S1_11, am_S1_12, am_S1_13, am_S1_14, am_S1_15, am_S1_16, am_S1_17, am_S1_18, am_S1_19, am_S1_20, am_S1_21, am_S1_22, am_S1_23, am_S1_24, am_S1_25, am_S1_26, am_S1_27, am_S1_28, am_S1_29, am_S1_30, am_S1_31, am_S1_32, am_S1_33, am_S1_34, am_S1_35, am_S1_36, am_S1_37, am_S1_38, am_S1_39, am_S1_40, am_S1_41, am_S1_42, am_S1_43, am_S1_44, am_S1_45, am_S1_46, am_S1_47, am_S1_48, am_S1_49, am_S1_50, am_S1_51, am_S1_52, am_S1_53, am_S1_54, am_S1_55, am_S1_56, am_S1_57, am_S1_58, am_S1_59, am_S1_60, am_S1_61, am_S1_62, am_S1_63, am_S1_64, am_S1_65, am_S1_66, am_S1_67, am_S1_68, am_S1_69, am_S1_70, am_S1_71, am_S1_72, am_S1_73, am_S1_74, am_S1_75, am_S1_76, am_S1_77, am_PT_3_1, am_PT_3_2, am_PT_3_0, am_PT_3_3, am_PT_3_4, am_PT_3_5, am_PT_3_6, am_PT_3_7, am_PT_3_8, am_PT_3_9, am_PT_3_10, am_PT_4_0, am_PT_6_6, am_PT_6_7, am_PT_6_8, am_PT_6_9, am_PT_6_10, am_PT_6_11, am_PT_13_6, am_PT_13_7, am_PT_13_8, am_PT_13_9, am_PT_13_10, am_PT_13_11, am_PT_20_3, am_PT_22_0, am_PT_23_0, am_PT_23_1, am_PT_23_2, am_PT_23_3, am_PT_23_4, am_PT_23_5, am_PT_23_6, am_PT_23_7, am_PT_23_8, am_PT_23_9, am_PT_24_3, am_PT_26_3, am_PT_28_3, am_PT_30_3, am_PT_32_3, am_PT_34_3, am_PT_36_3, am_PT_38_3, am_PT_40_3, am_PT_42_3, am_PT_44_0, am_PT_44_1, am_PT_46_2, am_PT_46_3, am_PT_46_4, am_PT_46_5, am_PT_51_0, am_PT_51_1, am_PT_51_2, am_PT_51_3, am_PT_51_4, am_PT_59_3, am_PT_61_3, am_PT_63_1, am_PT_63_3, am_PT_63_6, am_PT_63_7, am_PT_63_9, am_PT_63_10, am_PT_63_12, am_PT_63_14, am_PT_63_16, am_PT_63_25, am_PT_63_27, am_PT_63_30, am_PT_63_36, am_PT_63_37, n_c0, n_c1, n_c2, n_c3, n_c4, n_c5, n_c6, n_c7, n_c8, n_c9, n_c10, n_c11, n_c12, n_c14, n_c16, n_c18, n_c20, n_c24, n_c30, n_c31, n_c32, n_c36, n_c48, n_c57, n_c60, n_c63, n_c70, n_c75, n_c97, n_c100, n_c101, n_c104, n_c115, n_c116, n_c59, n_c150, n_c199, n_c200, n_c201, n_c216, n_c255, n_c256, n_c999, n_c1296, n_c4095, n_c6480, n_c100000, n_c1000, n_c65536, n_le, n_lt0, n_lt, n_eq, n_cl, n_add, n_sub, n_mul, n_div, n_rem, n_mo, n_in, n_nb0, n_nb1, n_fb0, n_fb1, n_vb0, n_vb1, s6 hd h1 hn h46 hf, c1, s8 hd h1 hn h46 hf h47 h4, hc]
      exact ih2
    · rw [if_neg hc] at ih2
      simp +decide (disch := omega) only [x4_5, x4_6, x4_7, x4_10, x4_13, x4_14, x4_15, x4_16, x4_19, x4_22, x4_25, x4_28, ↓reduceIte, true_and, and_true, if_true, if_false, ne_eq, not_false_eq_true, am_u_at, am_nb0, am_nb1, am_fb0, am_fb1, am_kc_i, am_kc_r, am_kc_l, am_kc_n, am_wsum_n, am_wsum_i, am_wsum_r, am_wsum_l, am_rs_s, am_rs_n, am_S1_1, am_S1_2, am_S1_3, am_S1_4, am_S1_5, am_S1_6, am_S1_7, am_S1_8, am_S1_9, am_S1_10, am_S1_11, am_S1_12, am_S1_13, am_S1_14, am_S1_15, am_S1_16, am_S1_17, am_S1_18, am_S1_19, am_S1_20, am_S1_21, am_S1_22, am_S1_23, am_S1_24, am_S1_25, am_S1_26, am_S1_27, am_S1_28, am_S1_29, am_S1_30, am_S1_31, am_S1_32, am_S1_33, am_S1_34, am_S1_35, am_S1_36, am_S1_37, am_S1_38, am_S1_39, am_S1_40, am_S1_41, am_S1_42, am_S1_43, am_S1_44, am_S1_45, am_S1_46, am_S1_47, am_S1_48, am_S1_49, am_S1_50, am_S1_51, am_S1_52, am_S1_53, am_S1_54, am_S1_55, am_S1_56, am_S1_57, am_S1_58, am_S1_59, am_S1_60, am_S1_61, am_S1_62, am_S1_63, am_S1_64, am_S1_65, am_S1_66, am_S1_67, am_S1_68, am_S1_69, am_S1_70, am_S1_71, am_S1_72, am_S1_73, am_S1_74, am_S1_75, am_S1_76, am_S1_77, am_PT_3_1, am_PT_3_2, am_PT_3_0, am_PT_3_3, am_PT_3_4, am_PT_3_5, am_PT_3_6, am_PT_3_7, am_PT_3_8, am_PT_3_9, am_PT_3_10, am_PT_4_0, am_PT_6_6, am_PT_6_7, am_PT_6_8, am_PT_6_9, am_PT_6_10, am_PT_6_11, am_PT_13_6, am_PT_13_7, am_PT_13_8, am_PT_13_9, am_PT_13_10, am_PT_13_11, am_PT_20_3, am_PT_22_0, am_PT_23_0, am_PT_23_1, am_PT_23_2, am_PT_23_3, am_PT_23_4, am_PT_23_5, am_PT_23_6, am_PT_23_7, am_PT_23_8, am_PT_23_9, am_PT_24_3, am_PT_26_3, am_PT_28_3, am_PT_30_3, am_PT_32_3, am_PT_34_3, am_PT_36_3, am_PT_38_3, am_PT_40_3, am_PT_42_3, am_PT_44_0, am_PT_44_1, am_PT_46_2, am_PT_46_3, am_PT_46_4, am_PT_46_5, am_PT_51_0, am_PT_51_1, am_PT_51_2, am_PT_51_3, am_PT_51_4, am_PT_59_3, am_PT_61_3, am_PT_63_1, am_PT_63_3, am_PT_63_6, am_PT_63_7, am_PT_63_9, am_PT_63_10, am_PT_63_12, am_PT_63_14, am_PT_63_16, am_PT_63_25, am_PT_63_27, am_PT_63_30, am_PT_63_36, am_PT_63_37, n_c0, n_c1, n_c2, n_c3, n_c4, n_c5, n_c6, n_c7, n_c8, n_c9, n_c10, n_c11, n_c12, n_c14, n_c16, n_c18, n_c20, n_c24, n_c30, n_c31, n_c32, n_c36, n_c48, n_c57, n_c60, n_c63, n_c70, n_c75, n_c97, n_c100, n_c101, n_c104, n_c115, n_c116, n_c59, n_c150, n_c199, n_c200, n_c201, n_c216, n_c255, n_c256, n_c999, n_c1296, n_c4095, n_c6480, n_c100000, n_c1000, n_c65536, n_le, n_lt0, n_lt, n_eq, n_cl, n_add, n_sub, n_mul, n_div, n_rem, n_mo, n_in, n_nb0, n_nb1, n_fb0, n_fb1, n_vb0, n_vb1, s6 hd h1 hn h46 hf, c1, s8 hd h1 hn h46 hf h47 h4, hc]
      exact ih2
theorem l5 (hd : h = 6 ∨ h = 13) (h1 : I h 1 = nI (sg 0 1)) (hn : sg 0 1 ≤ 4) (h46 : I 46 0 = nI (sg 10 0)) (hf : sg 10 0 ≤ 6) (h47 : ∀ i, i < sg 10 0 → sg 11 i ≤ 31 ∧ I 47 i = nI (sg 11 i)) (h4 : ∀ t, t < sg 0 1 → sg 4 t ≤ 31 ∧ I (h + 4) t = nI (sg 4 t)) {i : Nat} (hi : i < sg 10 0) : ∀ (m k : Nat), k + m = y_N sg →
    (Ex 5 5 [some (.ref 46), some (.ref h), some (.int (nI i)), some (.int (nI (y_cand sg i k))), some (.int (nI k))] [] I L (am_PT h s) (am_S1 Lx) Q ↔ Q (some (.int (nI (y_cand sg i (y_N sg))))) I L (am_PT h s) (am_S1 Lx)) := by
  have hN := y_N_le hn
  have hi6 : i < 6 := by omega
  intro m
  induction m with
  | zero =>
    intro k hk
    obtain rfl : k = y_N sg := by omega
    rw [x5_5]
    simp +decide (disch := omega) only [x5_7, x5_8, x5_9, x5_12, x5_15, x5_16, x5_17, x5_19, x5_22, x5_25, x5_26, x5_27, x5_29, x5_30, x5_33, x5_34, x5_35, x5_36, x5_39, x5_42, x5_43, ↓reduceIte, true_and, and_true, if_true, if_false, ne_eq, not_false_eq_true, am_u_at, am_nb0, am_nb1, am_fb0, am_fb1, am_kc_i, am_kc_r, am_kc_l, am_kc_n, am_wsum_n, am_wsum_i, am_wsum_r, am_wsum_l, am_rs_s, am_rs_n, am_S1_1, am_S1_2, am_S1_3, am_S1_4, am_S1_5, am_S1_6, am_S1_7, am_S1_8, am_S1_9, am_S1_10, am_S1_11, am_S1_12, am_S1_13, am_S1_14, am_S1_15, am_S1_16, am_S1_17, am_S1_18, am_S1_19, am_S1_20, am_S1_21, am_S1_22, am_S1_23, am_S1_24, am_S1_25, am_S1_26, am_S1_27, am_S1_28, am_S1_29, am_S1_30, am_S1_31, am_S1_32, am_S1_33, am_S1_34, am_S1_35, am_S1_36, am_S1_37, am_S1_38, am_S1_39, am_S1_40, am_S1_41, am_S1_42, am_S1_43, am_S1_44, am_S1_45, am_S1_46, am_S1_47, am_S1_48, am_S1_49, am_S1_50, am_S1_51, am_S1_52, am_S1_53, am_S1_54, am_S1_55, am_S1_56, am_S1_57, am_S1_58, am_S1_59, am_S1_60, am_S1_61, am_S1_62, am_S1_63, am_S1_64, am_S1_65, am_S1_66, am_S1_67, am_S1_68, am_S1_69, am_S1_70, am_S1_71, am_S1_72, am_S1_73, am_S1_74, am_S1_75, am_S1_76, am_S1_77, am_PT_3_1, am_PT_3_2, am_PT_3_0, am_PT_3_3, am_PT_3_4, am_PT_3_5, am_PT_3_6, am_PT_3_7, am_PT_3_8, am_PT_3_9, am_PT_3_10, am_PT_4_0, am_PT_6_6, am_PT_6_7, am_PT_6_8, am_PT_6_9, am_PT_6_10, am_PT_6_11, am_PT_13_6, am_PT_13_7, am_PT_13_8, am_PT_13_9, am_PT_13_10, am_PT_13_11, am_PT_20_3, am_PT_22_0, am_PT_23_0, am_PT_23_1, am_PT_23_2, am_PT_23_3, am_PT_23_4, am_PT_23_5, am_PT_23_6, am_PT_23_7, am_PT_23_8, am_PT_23_9, am_PT_24_3, am_PT_26_3, am_PT_28_3, am_PT_30_3, am_PT_32_3, am_PT_34_3, am_PT_36_3, am_PT_38_3, am_PT_40_3, am_PT_42_3, am_PT_44_0, am_PT_44_1, am_PT_46_2, am_PT_46_3, am_PT_46_4, am_PT_46_5, am_PT_51_0, am_PT_51_1, am_PT_51_2, am_PT_51_3, am_PT_51_4, am_PT_59_3, am_PT_61_3, am_PT_63_1, am_PT_63_3, am_PT_63_6, am_PT_63_7, am_PT_63_9, am_PT_63_10, am_PT_63_12, am_PT_63_14, am_PT_63_16, am_PT_63_25, am_PT_63_27, am_PT_63_30, am_PT_63_36, am_PT_63_37, n_c0, n_c1, n_c2, n_c3, n_c4, n_c5, n_c6, n_c7, n_c8, n_c9, n_c10, n_c11, n_c12, n_c14, n_c16, n_c18, n_c20, n_c24, n_c30, n_c31, n_c32, n_c36, n_c48, n_c57, n_c60, n_c63, n_c70, n_c75, n_c97, n_c100, n_c101, n_c104, n_c115, n_c116, n_c59, n_c150, n_c199, n_c200, n_c201, n_c216, n_c255, n_c256, n_c999, n_c1296, n_c4095, n_c6480, n_c100000, n_c1000, n_c65536, n_le, n_lt0, n_lt, n_eq, n_cl, n_add, n_sub, n_mul, n_div, n_rem, n_mo, n_in, n_nb0, n_nb1, n_fb0, n_fb1, n_vb0, n_vb1, s6 hd h1 hn h46 hf, Nat.le_refl]
  | succ m ih =>
    intro k hk
    have c1 : ¬ y_N sg ≤ k := by omega
    have hk2 : k < 65536 := by omega
    have ht := y_t4 k i
    have ih2 := ih (k + 1) (by omega)
    simp only [y_cand] at ih2
    rw [x5_5]
    by_cases hc : y_ok sg k (sg 10 0) = true
    · have c9 : 1 * 2 ^ y_t k i < 4294967296 := by have := y_bit k i; omega
      rw [if_pos hc] at ih2
      simp +decide (disch := first | omega | exact c9) only [x5_7, x5_8, x5_9, x5_12, x5_15, x5_16, x5_17, x5_19, x5_22, x5_25, x5_26, x5_27, x5_29, x5_30, x5_33, x5_34, x5_35, x5_36, x5_39, ↓reduceIte, true_and, and_true, if_true, if_false, ne_eq, not_false_eq_true, am_u_at, am_nb0, am_nb1, am_fb0, am_fb1, am_kc_i, am_kc_r, am_kc_l, am_kc_n, am_wsum_n, am_wsum_i, am_wsum_r, am_wsum_l, am_rs_s, am_rs_n, am_S1_1, am_S1_2, am_S1_3, am_S1_4, am_S1_5, am_S1_6, am_S1_7, am_S1_8, am_S1_9, am_S1_10, am_S1_11, am_S1_12, am_S1_13, am_S1_14, am_S1_15, am_S1_16, am_S1_17, am_S1_18, am_S1_19, am_S1_20, am_S1_21, am_S1_22, am_S1_23, am_S1_24, am_S1_25, am_S1_26, am_S1_27, am_S1_28, am_S1_29, am_S1_30, am_S1_31, am_S1_32, am_S1_33, am_S1_34, am_S1_35, am_S1_36, am_S1_37, am_S1_38, am_S1_39, am_S1_40, am_S1_41, am_S1_42, am_S1_43, am_S1_44, am_S1_45, am_S1_46, am_S1_47, am_S1_48, am_S1_49, am_S1_50, am_S1_51, am_S1_52, am_S1_53, am_S1_54, am_S1_55, am_S1_56, am_S1_57, am_S1_58, am_S1_59, am_S1_60, am_S1_61, am_S1_62, am_S1_63, am_S1_64, am_S1_65, am_S1_66, am_S1_67, am_S1_68, am_S1_69, am_S1_70, am_S1_71, am_S1_72, am_S1_73, am_S1_74, am_S1_75, am_S1_76, am_S1_77, am_PT_3_1, am_PT_3_2, am_PT_3_0, am_PT_3_3, am_PT_3_4, am_PT_3_5, am_PT_3_6, am_PT_3_7, am_PT_3_8, am_PT_3_9, am_PT_3_10, am_PT_4_0, am_PT_6_6, am_PT_6_7, am_PT_6_8, am_PT_6_9, am_PT_6_10, am_PT_6_11, am_PT_13_6, am_PT_13_7, am_PT_13_8, am_PT_13_9, am_PT_13_10, am_PT_13_11, am_PT_20_3, am_PT_22_0, am_PT_23_0, am_PT_23_1, am_PT_23_2, am_PT_23_3, am_PT_23_4, am_PT_23_5, am_PT_23_6, am_PT_23_7, am_PT_23_8, am_PT_23_9, am_PT_24_3, am_PT_26_3, am_PT_28_3, am_PT_30_3, am_PT_32_3, am_PT_34_3, am_PT_36_3, am_PT_38_3, am_PT_40_3, am_PT_42_3, am_PT_44_0, am_PT_44_1, am_PT_46_2, am_PT_46_3, am_PT_46_4, am_PT_46_5, am_PT_51_0, am_PT_51_1, am_PT_51_2, am_PT_51_3, am_PT_51_4, am_PT_59_3, am_PT_61_3, am_PT_63_1, am_PT_63_3, am_PT_63_6, am_PT_63_7, am_PT_63_9, am_PT_63_10, am_PT_63_12, am_PT_63_14, am_PT_63_16, am_PT_63_25, am_PT_63_27, am_PT_63_30, am_PT_63_36, am_PT_63_37, n_c0, n_c1, n_c2, n_c3, n_c4, n_c5, n_c6, n_c7, n_c8, n_c9, n_c10, n_c11, n_c12, n_c14, n_c16, n_c18, n_c20, n_c24, n_c30, n_c31, n_c32, n_c36, n_c48, n_c57, n_c60, n_c63, n_c70, n_c75, n_c97, n_c100, n_c101, n_c104, n_c115, n_c116, n_c59, n_c150, n_c199, n_c200, n_c201, n_c216, n_c255, n_c256, n_c999, n_c1296, n_c4095, n_c6480, n_c100000, n_c1000, n_c65536, n_le, n_lt0, n_lt, n_eq, n_cl, n_add, n_sub, n_mul, n_div, n_rem, n_mo, n_in, n_nb0, n_nb1, n_fb0, n_fb1, n_vb0, n_vb1, s6 hd h1 hn h46 hf, c1, s8 hd h1 hn h46 hf h47 h4, hc, s7 hk2 hi6, n_and, n_k31, n_shl2, n_or]
      exact ih2
    · rw [if_neg hc] at ih2
      simp +decide (disch := omega) only [x5_7, x5_8, x5_9, x5_12, x5_15, x5_16, x5_17, x5_19, x5_22, x5_25, x5_26, x5_27, x5_29, x5_30, x5_33, x5_34, x5_35, x5_36, x5_39, ↓reduceIte, true_and, and_true, if_true, if_false, ne_eq, not_false_eq_true, am_u_at, am_nb0, am_nb1, am_fb0, am_fb1, am_kc_i, am_kc_r, am_kc_l, am_kc_n, am_wsum_n, am_wsum_i, am_wsum_r, am_wsum_l, am_rs_s, am_rs_n, am_S1_1, am_S1_2, am_S1_3, am_S1_4, am_S1_5, am_S1_6, am_S1_7, am_S1_8, am_S1_9, am_S1_10, am_S1_11, am_S1_12, am_S1_13, am_S1_14, am_S1_15, am_S1_16, am_S1_17, am_S1_18, am_S1_19, am_S1_20, am_S1_21, am_S1_22, am_S1_23, am_S1_24, am_S1_25, am_S1_26, am_S1_27, am_S1_28, am_S1_29, am_S1_30, am_S1_31, am_S1_32, am_S1_33, am_S1_34, am_S1_35, am_S1_36, am_S1_37, am_S1_38, am_S1_39, am_S1_40, am_S1_41, am_S1_42, am_S1_43, am_S1_44, am_S1_45, am_S1_46, am_S1_47, am_S1_48, am_S1_49, am_S1_50, am_S1_51, am_S1_52, am_S1_53, am_S1_54, am_S1_55, am_S1_56, am_S1_57, am_S1_58, am_S1_59, am_S1_60, am_S1_61, am_S1_62, am_S1_63, am_S1_64, am_S1_65, am_S1_66, am_S1_67, am_S1_68, am_S1_69, am_S1_70, am_S1_71, am_S1_72, am_S1_73, am_S1_74, am_S1_75, am_S1_76, am_S1_77, am_PT_3_1, am_PT_3_2, am_PT_3_0, am_PT_3_3, am_PT_3_4, am_PT_3_5, am_PT_3_6, am_PT_3_7, am_PT_3_8, am_PT_3_9, am_PT_3_10, am_PT_4_0, am_PT_6_6, am_PT_6_7, am_PT_6_8, am_PT_6_9, am_PT_6_10, am_PT_6_11, am_PT_13_6, am_PT_13_7, am_PT_13_8, am_PT_13_9, am_PT_13_10, am_PT_13_11, am_PT_20_3, am_PT_22_0, am_PT_23_0, am_PT_23_1, am_PT_23_2, am_PT_23_3, am_PT_23_4, am_PT_23_5, am_PT_23_6, am_PT_23_7, am_PT_23_8, am_PT_23_9, am_PT_24_3, am_PT_26_3, am_PT_28_3, am_PT_30_3, am_PT_32_3, am_PT_34_3, am_PT_36_3, am_PT_38_3, am_PT_40_3, am_PT_42_3, am_PT_44_0, am_PT_44_1, am_PT_46_2, am_PT_46_3, am_PT_46_4, am_PT_46_5, am_PT_51_0, am_PT_51_1, am_PT_51_2, am_PT_51_3, am_PT_51_4, am_PT_59_3, am_PT_61_3, am_PT_63_1, am_PT_63_3, am_PT_63_6, am_PT_63_7, am_PT_63_9, am_PT_63_10, am_PT_63_12, am_PT_63_14, am_PT_63_16, am_PT_63_25, am_PT_63_27, am_PT_63_30, am_PT_63_36, am_PT_63_37, n_c0, n_c1, n_c2, n_c3, n_c4, n_c5, n_c6, n_c7, n_c8, n_c9, n_c10, n_c11, n_c12, n_c14, n_c16, n_c18, n_c20, n_c24, n_c30, n_c31, n_c32, n_c36, n_c48, n_c57, n_c60, n_c63, n_c70, n_c75, n_c97, n_c100, n_c101, n_c104, n_c115, n_c116, n_c59, n_c150, n_c199, n_c200, n_c201, n_c216, n_c255, n_c256, n_c999, n_c1296, n_c4095, n_c6480, n_c100000, n_c1000, n_c65536, n_le, n_lt0, n_lt, n_eq, n_cl, n_add, n_sub, n_mul, n_div, n_rem, n_mo, n_in, n_nb0, n_nb1, n_fb0, n_fb1, n_vb0, n_vb1, s6 hd h1 hn h46 hf, c1, s8 hd h1 hn h46 hf h47 h4, hc]
      exact ih2
end WH
