/-! all states from which one step leads to a state -/
theorem n_sh {a x y u : Nat} (h : y * u ≤ a + x * u) : nI a + (nI x - nI y) * nI u = nI (a + x * u - y * u) := by
  rw [Int32.sub_mul, n_mul, n_mul, ← n_sub h, ← n_add, Int32.sub_eq_add_neg, Int32.sub_eq_add_neg, Int32.add_assoc]
def wt_rl (sg : am_G0) (F F' : Nat → Nat → Nat) (n st mi : Nat) : Prop := (∀ s n', ¬ n' = n → F' s n' = F s n') ∧ ∀ s, F' s n ≤ F s n ∧ (F' s n = F s n ∨ (s < 6480 ∧ ∃ w, r_E1 sg s st w ∧ F' s n = mi + w ∧ mi + w < 256))
def wt_st (sg : am_G0) (I0 : am_I) (L0 : am_L) (F0 : Nat → Nat → Nat) (n : Nat) (dn : Nat → Nat) (st mi : Nat) (I : am_I) (L : am_L) (F : Nat → Nat → Nat) : Prop := (∀ c, ¬ (53 ≤ c ∧ c ≤ 56) → I c = I0 c) ∧ (∀ c, ¬ c = 52 → L c = L0 c) ∧ wt_inv I L F n dn ∧ wt_rl sg F0 F n st mi
section WG
variable {I : am_I} {L : am_L} {Q : Option Value → am_I → am_L → am_P → am_S → Prop} {h s n Lx : Nat} {sg : am_G0} {I0 : am_I} {L0 : am_L} {F0 F : Nat → Nat → Nat} {dn : Nat → Nat} {st mi : Nat}
theorem s54e {x w : Nat} (hn : n < 5) (h6 : I0 51 6 = nI n) (hmi : mi < 256) (hdn : ∀ s, s < 6480 → ¬ dn s = 0 → F0 s n ≤ mi) (hS : wt_st sg I0 L0 F0 n dn st mi I L F) (hE : r_E1 sg x st w) (hx : x < 6480) (hw : w < 100) (H : ∀ (I' : am_I) (L' : am_L) (F' : Nat → Nat → Nat), wt_st sg I0 L0 F0 n dn st mi I' L' F' → (∀ s, F' s n ≤ F s n) → (mi + w < 256 → F' x n ≤ mi + w) → I' 56 = I 56 → Q none I' L' (am_PT h s) (am_S1 Lx)) : Ev 54 [.ref 51, .int (nI x), .int (nI (mi + w))] I L (am_PT h s) (am_S1 Lx) Q := by
  obtain ⟨a1, a2, a3, a4⟩ := hS
  refine s54 hn (by rw [a1 51 (by omega)]; exact h6) a3 hx (by omega) (fun q => ?_) fun I' L' f1 f2 f3 => ?_
  · have h1 := hdn x hx q
    have h2 := (a4.2 x).1
    omega
  · refine H I' L' _ ⟨fun c hc => (f1 c (by omega) (by omega) (by omega)).trans (a1 c hc), fun c hc => (f2 c hc).trans (a2 c hc), f3, ?_⟩ (fun y => ?_) (fun q => ?_) (f1 56 (by omega) (by omega) (by omega))
    · by_cases c : mi + w < 256 ∧ mi + w < F x n
      · rw [if_pos c]
        refine ⟨fun y n' hn' => ?_, fun y => ?_⟩
        · unfold wt_up
          rw [if_neg (fun z => hn' z.2)]; exact a4.1 y n' hn'
        · obtain ⟨b1, b2⟩ := a4.2 y
          unfold wt_up
          by_cases z : y = x
          · rw [if_pos ⟨z, rfl⟩]
            subst z
            exact ⟨by omega, Or.inr ⟨hx, w, hE, rfl, c.1⟩⟩
          · rw [if_neg (fun q => z q.1)]; exact ⟨b1, b2⟩
      · rw [if_neg c]; exact a4
    · by_cases c : mi + w < 256 ∧ mi + w < F x n
      · rw [if_pos c]
        unfold wt_up
        split
        · next z => rw [z.1]; omega
        · exact Nat.le_refl _
      · rw [if_neg c]; exact Nat.le_refl _
    · by_cases c : mi + w < F x n
      · rw [if_pos ⟨q, c⟩]
        unfold wt_up
        rw [if_pos ⟨rfl, rfl⟩]; exact Nat.le_refl _
      · rw [if_neg (fun z => c z.2)]; omega
/-- digits -/
theorem l53 (H : ∀ I' : am_I, (∀ c, ¬ c = 56 → I' c = I0 c) → (∀ t, t < 4 → I' 56 t = nI (r_d6 st t)) → Q (some (.int (nI (r_h6 st 4)))) I' L (am_PT h s) (am_S1 Lx)) (hst : st < 6480) {x1 : Int32} : ∀ m k (I : am_I), k + m = 4 → (∀ c, ¬ c = 56 → I c = I0 c) → (∀ t, t < k → I 56 t = nI (r_d6 st t)) → Ex 53 11 [some (.ref 51), some (.int x1), some (.int (nI (st % 1296 / 6 ^ k))), some (.int (nI (r_h6 st k))), some (.int (nI k))] [] I L (am_PT h s) (am_S1 Lx) Q := by
  intro m
  induction m with
  | zero =>
    intro k I hk hf hv
    obtain rfl : k = 4 := by omega
    rw [x53_11]
    simp +decide (disch := omega) only [x53_13, x53_14, x53_53, x53_54, ↓reduceIte, true_and, and_true, if_true, if_false, ne_eq, not_false_eq_true, am_u_at, am_nb0, am_nb1, am_fb0, am_fb1, am_kc_i, am_kc_r, am_kc_l, am_kc_n, am_wsum_n, am_wsum_i, am_wsum_r, am_wsum_l, am_rs_s, am_rs_n, am_S1_1, am_S1_2, am_S1_3, am_S1_4, am_S1_5, am_S1_6, am_S1_7, am_S1_8, am_S1_9, am_S1_10, am_S1_11, am_S1_12, am_S1_13, am_S1_14, am_S1_15, am_S1_16, am_S1_17, am_S1_18, am_S1_19, am_S1_20, am_S1_21, am_S1_22, am_S1_23, am_S1_24, am_S1_25, am_S1_26, am_S1_27, am_S1_28, am_S1_29, am_S1_30, am_S1_31, am_S1_32, am_S1_33, am_S1_34, am_S1_35, am_S1_36, am_S1_37, am_S1_38, am_S1_39, am_S1_40, am_S1_41, am_S1_42, am_S1_43, am_S1_44, am_S1_45, am_S1_46, am_S1_47, am_S1_48, am_S1_49, am_S1_50, am_S1_51, am_S1_52, am_S1_53, am_S1_54, am_S1_55, am_S1_56, am_S1_57, am_S1_58, am_S1_59, am_S1_60, am_S1_61, am_S1_62, am_S1_63, am_S1_64, am_S1_65, am_S1_66, am_S1_67, am_S1_68, am_S1_69, am_S1_70, am_S1_71, am_S1_72, am_S1_73, am_S1_74, am_S1_75, am_S1_76, am_S1_77, am_PT_3_1, am_PT_3_2, am_PT_3_0, am_PT_3_3, am_PT_3_4, am_PT_3_5, am_PT_3_6, am_PT_3_7, am_PT_3_8, am_PT_3_9, am_PT_3_10, am_PT_4_0, am_PT_6_6, am_PT_6_7, am_PT_6_8, am_PT_6_9, am_PT_6_10, am_PT_6_11, am_PT_13_6, am_PT_13_7, am_PT_13_8, am_PT_13_9, am_PT_13_10, am_PT_13_11, am_PT_20_3, am_PT_22_0, am_PT_23_0, am_PT_23_1, am_PT_23_2, am_PT_23_3, am_PT_23_4, am_PT_23_5, am_PT_23_6, am_PT_23_7, am_PT_23_8, am_PT_23_9, am_PT_24_3, am_PT_26_3, am_PT_28_3, am_PT_30_3, am_PT_32_3, am_PT_34_3, am_PT_36_3, am_PT_38_3, am_PT_40_3, am_PT_42_3, am_PT_44_0, am_PT_44_1, am_PT_46_2, am_PT_46_3, am_PT_46_4, am_PT_46_5, am_PT_51_0, am_PT_51_1, am_PT_51_2, am_PT_51_3, am_PT_51_4, am_PT_59_3, am_PT_61_3, am_PT_63_1, am_PT_63_3, am_PT_63_6, am_PT_63_7, am_PT_63_9, am_PT_63_10, am_PT_63_12, am_PT_63_14, am_PT_63_16, am_PT_63_25, am_PT_63_27, am_PT_63_30, am_PT_63_36, am_PT_63_37, n_c0, n_c1, n_c2, n_c3, n_c4, n_c5, n_c6, n_c7, n_c8, n_c9, n_c10, n_c11, n_c12, n_c14, n_c16, n_c18, n_c20, n_c24, n_c30, n_c31, n_c32, n_c36, n_c48, n_c57, n_c60, n_c63, n_c70, n_c75, n_c97, n_c100, n_c101, n_c104, n_c115, n_c116, n_c59, n_c150, n_c199, n_c200, n_c201, n_c216, n_c255, n_c256, n_c999, n_c1296, n_c4095, n_c6480, n_c100000, n_c1000, n_c65536, n_le, n_lt0, n_lt, n_eq, n_cl, n_add, n_sub, n_mul, n_div, n_rem, n_mo, n_in, n_nb0, n_nb1, n_fb0, n_fb1, n_vb0, n_vb1]
    exact H I hf hv
  | succ m ih =>
    intro k I hk hf hv
    have c1 : ¬ 4 ≤ k := by omega
    have c2 : k < 4 := by omega
    have b : st % 1296 / 6 ^ k < 1296 := Nat.lt_of_le_of_lt (Nat.div_le_self _ _) (Nat.mod_lt _ (by omega))
    have e1 : st % 1296 / 6 ^ k % 6 = r_d6 st k := by
      unfold r_d6
      match k, c2 with
      | 0, _ => show st % 1296 / 1 % 6 = st / 1 % 6; omega
      | 1, _ => show st % 1296 / 6 % 6 = st / 6 % 6; omega
      | 2, _ => show st % 1296 / 36 % 6 = st / 36 % 6; omega
      | 3, _ => show st % 1296 / 216 % 6 = st / 216 % 6; omega
      | k + 4, q => exact absurd q (by omega)
    have e2 : st % 1296 / 6 ^ k / 6 = st % 1296 / 6 ^ (k + 1) := by rw [Nat.div_div_eq_div_mul, Nat.pow_succ]
    have er : nI (st % 1296 / 6 ^ k) - nI (st % 1296 / 6 ^ (k + 1) * 6) = nI (r_d6 st k) := by
      rw [← e2, ← e1]; exact n_rem (by omega) (by omega) (by omega)
    have d6 : r_d6 st k < 6 := Nat.mod_lt _ (by omega)
    have step : ∀ y : Int32, y = nI (r_h6 st (k + 1)) → Ex 53 11 [some (.ref 51), some (.int x1), some (.int (nI (st % 1296 / 6 ^ (k + 1)))), some (.int y), some (.int (nI (k + 1)))] [] (am_u I 56 k (nI (r_d6 st k))) L (am_PT h s) (am_S1 Lx) Q := by
      intro y hy
      rw [hy]
      refine ih (k + 1) _ (by omega) (fun c hc => ?_) (fun t ht => ?_)
      · rw [am_u_ne hc]; exact hf c hc
      · rw [am_u_at, if_pos rfl]
        by_cases q : t = k
        · rw [if_pos q, q]
        · rw [if_neg q]; exact hv t (by omega)
    rw [x53_11]
    by_cases c4 : r_d6 st k = 4
    · simp +decide (disch := omega) only [x53_13, x53_14, x53_17, x53_18, x53_21, x53_23, x53_24, x53_26, x53_27, x53_28, x53_29, x53_31, x53_32, x53_33, x53_34, x53_37, x53_39, x53_40, x53_41, x53_44, x53_47, x53_50, ↓reduceIte, true_and, and_true, if_true, if_false, ne_eq, not_false_eq_true, am_u_at, am_nb0, am_nb1, am_fb0, am_fb1, am_kc_i, am_kc_r, am_kc_l, am_kc_n, am_wsum_n, am_wsum_i, am_wsum_r, am_wsum_l, am_rs_s, am_rs_n, am_S1_1, am_S1_2, am_S1_3, am_S1_4, am_S1_5, am_S1_6, am_S1_7, am_S1_8, am_S1_9, am_S1_10, am_S1_11, am_S1_12, am_S1_13, am_S1_14, am_S1_15, am_S1_16, am_S1_17, am_S1_18, am_S1_19, am_S1_20, am_S1_21, am_S1_22, am_S1_23, am_S1_24, am_S1_25, am_S1_26, am_S1_27, am_S1_28, am_S1_29, am_S1_30, am_S1_31, am_S1_32, am_S1_33, am_S1_34, am_S1_35, am_S1_36, am_S1_37, am_S1_38, am_S1_39, am_S1_40, am_S1_41, am_S1_42, am_S1_43, am_S1_44, am_S1_45, am_S1_46, am_S1_47, am_S1_48, am_S1_49, am_S1_50, am_S1_51, am_S1_52, am_S1_53, am_S1_54, am_S1_55, am_S1_56, am_S1_57, am_S1_58, am_S1_59, am_S1_60, am_S1_61, am_S1_62, am_S1_63, am_S1_64, am_S1_65, am_S1_66, am_S1_67, am_S1_68, am_S1_69, am_S1_70, am_S1_71, am_S1_72, am_S1_73, am_S1_74, am_S1_75, am_S1_76, am_S1_77, am_PT_3_1, am_PT_3_2, am_PT_3_0, am_PT_3_3, am_PT_3_4, am_PT_3_5, am_PT_3_6, am_PT_3_7, am_PT_3_8, am_PT_3_9, am_PT_3_10, am_PT_4_0, am_PT_6_6, am_PT_6_7, am_PT_6_8, am_PT_6_9, am_PT_6_10, am_PT_6_11, am_PT_13_6, am_PT_13_7, am_PT_13_8, am_PT_13_9, am_PT_13_10, am_PT_13_11, am_PT_20_3, am_PT_22_0, am_PT_23_0, am_PT_23_1, am_PT_23_2, am_PT_23_3, am_PT_23_4, am_PT_23_5, am_PT_23_6, am_PT_23_7, am_PT_23_8, am_PT_23_9, am_PT_24_3, am_PT_26_3, am_PT_28_3, am_PT_30_3, am_PT_32_3, am_PT_34_3, am_PT_36_3, am_PT_38_3, am_PT_40_3, am_PT_42_3, am_PT_44_0, am_PT_44_1, am_PT_46_2, am_PT_46_3, am_PT_46_4, am_PT_46_5, am_PT_51_0, am_PT_51_1, am_PT_51_2, am_PT_51_3, am_PT_51_4, am_PT_59_3, am_PT_61_3, am_PT_63_1, am_PT_63_3, am_PT_63_6, am_PT_63_7, am_PT_63_9, am_PT_63_10, am_PT_63_12, am_PT_63_14, am_PT_63_16, am_PT_63_25, am_PT_63_27, am_PT_63_30, am_PT_63_36, am_PT_63_37, n_c0, n_c1, n_c2, n_c3, n_c4, n_c5, n_c6, n_c7, n_c8, n_c9, n_c10, n_c11, n_c12, n_c14, n_c16, n_c18, n_c20, n_c24, n_c30, n_c31, n_c32, n_c36, n_c48, n_c57, n_c60, n_c63, n_c70, n_c75, n_c97, n_c100, n_c101, n_c104, n_c115, n_c116, n_c59, n_c150, n_c199, n_c200, n_c201, n_c216, n_c255, n_c256, n_c999, n_c1296, n_c4095, n_c6480, n_c100000, n_c1000, n_c65536, n_le, n_lt0, n_lt, n_eq, n_cl, n_add, n_sub, n_mul, n_div, n_rem, n_mo, n_in, n_nb0, n_nb1, n_fb0, n_fb1, n_vb0, n_vb1, c1, c2, e2, er, c4]
      rw [← c4]
      exact step _ (by simp only [r_h6]; rw [if_pos c4])
    · simp +decide (disch := omega) only [x53_13, x53_14, x53_17, x53_18, x53_21, x53_23, x53_24, x53_26, x53_27, x53_28, x53_29, x53_31, x53_32, x53_33, x53_34, x53_37, x53_39, x53_40, x53_41, x53_44, x53_47, x53_50, ↓reduceIte, true_and, and_true, if_true, if_false, ne_eq, not_false_eq_true, am_u_at, am_nb0, am_nb1, am_fb0, am_fb1, am_kc_i, am_kc_r, am_kc_l, am_kc_n, am_wsum_n, am_wsum_i, am_wsum_r, am_wsum_l, am_rs_s, am_rs_n, am_S1_1, am_S1_2, am_S1_3, am_S1_4, am_S1_5, am_S1_6, am_S1_7, am_S1_8, am_S1_9, am_S1_10, am_S1_11, am_S1_12, am_S1_13, am_S1_14, am_S1_15, am_S1_16, am_S1_17, am_S1_18, am_S1_19, am_S1_20, am_S1_21, am_S1_22, am_S1_23, am_S1_24, am_S1_25, am_S1_26, am_S1_27, am_S1_28, am_S1_29, am_S1_30, am_S1_31, am_S1_32, am_S1_33, am_S1_34, am_S1_35, am_S1_36, am_S1_37, am_S1_38, am_S1_39, am_S1_40, am_S1_41, am_S1_42, am_S1_43, am_S1_44, am_S1_45, am_S1_46, am_S1_47, am_S1_48, am_S1_49, am_S1_50, am_S1_51, am_S1_52, am_S1_53, am_S1_54, am_S1_55, am_S1_56, am_S1_57, am_S1_58, am_S1_59, am_S1_60, am_S1_61, am_S1_62, am_S1_63, am_S1_64, am_S1_65, am_S1_66, am_S1_67, am_S1_68, am_S1_69, am_S1_70, am_S1_71, am_S1_72, am_S1_73, am_S1_74, am_S1_75, am_S1_76, am_S1_77, am_PT_3_1, am_PT_3_2, am_PT_3_0, am_PT_3_3, am_PT_3_4, am_PT_3_5, am_PT_3_6, am_PT_3_7, am_PT_3_8, am_PT_3_9, am_PT_3_10, am_PT_4_0, am_PT_6_6, am_PT_6_7, am_PT_6_8, am_PT_6_9, am_PT_6_10, am_PT_6_11, am_PT_13_6, am_PT_13_7, am_PT_13_8, am_PT_13_9, am_PT_13_10, am_PT_13_11, am_PT_20_3, am_PT_22_0, am_PT_23_0, am_PT_23_1, am_PT_23_2, am_PT_23_3, am_PT_23_4, am_PT_23_5, am_PT_23_6, am_PT_23_7, am_PT_23_8, am_PT_23_9, am_PT_24_3, am_PT_26_3, am_PT_28_3, am_PT_30_3, am_PT_32_3, am_PT_34_3, am_PT_36_3, am_PT_38_3, am_PT_40_3, am_PT_42_3, am_PT_44_0, am_PT_44_1, am_PT_46_2, am_PT_46_3, am_PT_46_4, am_PT_46_5, am_PT_51_0, am_PT_51_1, am_PT_51_2, am_PT_51_3, am_PT_51_4, am_PT_59_3, am_PT_61_3, am_PT_63_1, am_PT_63_3, am_PT_63_6, am_PT_63_7, am_PT_63_9, am_PT_63_10, am_PT_63_12, am_PT_63_14, am_PT_63_16, am_PT_63_25, am_PT_63_27, am_PT_63_30, am_PT_63_36, am_PT_63_37, n_c0, n_c1, n_c2, n_c3, n_c4, n_c5, n_c6, n_c7, n_c8, n_c9, n_c10, n_c11, n_c12, n_c14, n_c16, n_c18, n_c20, n_c24, n_c30, n_c31, n_c32, n_c36, n_c48, n_c57, n_c60, n_c63, n_c70, n_c75, n_c97, n_c100, n_c101, n_c104, n_c115, n_c116, n_c59, n_c150, n_c199, n_c200, n_c201, n_c216, n_c255, n_c256, n_c999, n_c1296, n_c4095, n_c6480, n_c100000, n_c1000, n_c65536, n_le, n_lt0, n_lt, n_eq, n_cl, n_add, n_sub, n_mul, n_div, n_rem, n_mo, n_in, n_nb0, n_nb1, n_fb0, n_fb1, n_vb0, n_vb1, c1, c2, e2, er, c4]
      exact step _ (by simp only [r_h6]; rw [if_neg c4, Nat.add_zero])
theorem s53 (hst : st < 6480) (H : ∀ I' : am_I, (∀ c, ¬ c = 56 → I' c = I c) → (∀ t, t < 4 → I' 56 t = nI (r_d6 st t)) → Q (some (.int (nI (r_h6 st 4)))) I' L (am_PT h s) (am_S1 Lx)) : Ev 53 [.ref 51, .int (nI st)] I L (am_PT h s) (am_S1 Lx) Q := by
  have er : nI st - nI (st / 1296 * 1296) = nI (st % 1296) := n_rem (by omega) (by omega) (by omega)
  simp +decide (disch := omega) only [xe53, x53_0, x53_1, x53_4, x53_5, x53_6, x53_7, x53_8, x53_9, ↓reduceIte, true_and, and_true, if_true, if_false, ne_eq, not_false_eq_true, am_u_at, am_nb0, am_nb1, am_fb0, am_fb1, am_kc_i, am_kc_r, am_kc_l, am_kc_n, am_wsum_n, am_wsum_i, am_wsum_r, am_wsum_l, am_rs_s, am_rs_n, am_S1_1, am_S1_2, am_S1_3, am_S1_4, am_S1_5, am_S1_6, am_S1_7, am_S1_8, am_S1_9, am_S1_10, am_S1_11, am_S1_12, am_S1_13, am_S1_14, am_S1_15, am_S1_16, am_S1_17, am_S1_18, am_S1_19, am_S1_20, am_S1_21, am_S1_22, am_S1_23, am_S1_24, am_S1_25, am_S1_26, am_S1_27, am_S1_28, am_S1_29, am_S1_30, am_S1_31, am_S1_32, am_S1_33, am_S1_34, am_S1_35, am_S1_36, am_S1_37, am_S1_38, am_S1_39, am_S1_40, am_S1_41, am_S1_42, am_S1_43, am_S1_44, am_S1_45, am_S1_46, am_S1_47, am_S1_48, am_S1_49, am_S1_50, am_S1_51, am_S1_52, am_S1_53, am_S1_54, am_S1_55, am_S1_56, am_S1_57, am_S1_58, am_S1_59, am_S1_60, am_S1_61, am_S1_62, am_S1_63, am_S1_64, am_S1_65, am_S1_66, am_S1_67, am_S1_68, am_S1_69, am_S1_70, am_S1_71, am_S1_72, am_S1_73, am_S1_74, am_S1_75, am_S1_76, am_S1_77, am_PT_3_1, am_PT_3_2, am_PT_3_0, am_PT_3_3, am_PT_3_4, am_PT_3_5, am_PT_3_6, am_PT_3_7, am_PT_3_8, am_PT_3_9, am_PT_3_10, am_PT_4_0, am_PT_6_6, am_PT_6_7, am_PT_6_8, am_PT_6_9, am_PT_6_10, am_PT_6_11, am_PT_13_6, am_PT_13_7, am_PT_13_8, am_PT_13_9, am_PT_13_10, am_PT_13_11, am_PT_20_3, am_PT_22_0, am_PT_23_0, am_PT_23_1, am_PT_23_2, am_PT_23_3, am_PT_23_4, am_PT_23_5, am_PT_23_6, am_PT_23_7, am_PT_23_8, am_PT_23_9, am_PT_24_3, am_PT_26_3, am_PT_28_3, am_PT_30_3, am_PT_32_3, am_PT_34_3, am_PT_36_3, am_PT_38_3, am_PT_40_3, am_PT_42_3, am_PT_44_0, am_PT_44_1, am_PT_46_2, am_PT_46_3, am_PT_46_4, am_PT_46_5, am_PT_51_0, am_PT_51_1, am_PT_51_2, am_PT_51_3, am_PT_51_4, am_PT_59_3, am_PT_61_3, am_PT_63_1, am_PT_63_3, am_PT_63_6, am_PT_63_7, am_PT_63_9, am_PT_63_10, am_PT_63_12, am_PT_63_14, am_PT_63_16, am_PT_63_25, am_PT_63_27, am_PT_63_30, am_PT_63_36, am_PT_63_37, n_c0, n_c1, n_c2, n_c3, n_c4, n_c5, n_c6, n_c7, n_c8, n_c9, n_c10, n_c11, n_c12, n_c14, n_c16, n_c18, n_c20, n_c24, n_c30, n_c31, n_c32, n_c36, n_c48, n_c57, n_c60, n_c63, n_c70, n_c75, n_c97, n_c100, n_c101, n_c104, n_c115, n_c116, n_c59, n_c150, n_c199, n_c200, n_c201, n_c216, n_c255, n_c256, n_c999, n_c1296, n_c4095, n_c6480, n_c100000, n_c1000, n_c65536, n_le, n_lt0, n_lt, n_eq, n_cl, n_add, n_sub, n_mul, n_div, n_rem, n_mo, n_in, n_nb0, n_nb1, n_fb0, n_fb1, n_vb0, n_vb1]
  have e : st % 1296 = st % 1296 / 6 ^ 0 := by rw [Nat.pow_zero, Nat.div_one]
  rw [e]
  exact l53 H hst 4 0 I (by omega) (fun _ _ => rfl) (fun t ht => absurd ht (by omega))
end WG
