/-! the model goes back from a case -/
def f_st (I0 : am_I) (all : Nat) (I : am_I) (M : Nat → Nat) (lt ag : Nat) : Prop := (∀ c, ¬ c = 63 → ¬ c = 75 → I c = I0 c) ∧ (∀ k, ¬ k = 34 → ¬ k = 35 → I 63 k = I0 63 k) ∧ I 63 34 = nI lt ∧ I 63 35 = nI ag ∧ ag ≤ 1 ∧ lt < 100000 ∧ ∀ k, k < all → I 75 k = nI (M k) ∧ M k ≤ 100000
def f_rl (sg : am_G0) (cs all k' tm : Nat) (M : Nat → Nat) (lt ag : Nat) (M' : Nat → Nat) (lt' ag' : Nat) : Prop := (∀ k, M' k ≤ M k ∧ (M' k = M k ∨ (k < all ∧ (∃ w, r_E2 sg cs k k' w ∧ M' k = tm + w) ∧ M' k < M k ∧ M' k ≤ lt'))) ∧ lt ≤ lt' ∧ (ag = 1 → ag' = 1) ∧ (∀ k, ¬ M' k = M k → M' k = tm → ag' = 1) ∧ (ag' = 1 → ag = 1 ∨ ∃ k, k < all ∧ M' k < M k)
theorem f_bd : ∀ n, n ≤ 4 → ∀ t, t < n → ∀ k a, k < 5 ^ (1 + n) * 2 ^ n → r_d5 k t = a → a ≤ 4 → k + (4 - a) * 5 ^ (1 + t) < 5 ^ (1 + n) * 2 ^ n := by
  intro n hn t ht k a hk ha ha4
  unfold r_d5 at ha
  match n, hn, t, ht with
  | 1, _, 0, _ => have hk' : k < 50 := hk; have ha' : k / 5 % 5 = a := ha; show k + (4 - a) * 5 < 50; omega
  | 2, _, 0, _ => have hk' : k < 500 := hk; have ha' : k / 5 % 5 = a := ha; show k + (4 - a) * 5 < 500; omega
  | 2, _, 1, _ => have hk' : k < 500 := hk; have ha' : k / 25 % 5 = a := ha; show k + (4 - a) * 25 < 500; omega
  | 3, _, 0, _ => have hk' : k < 5000 := hk; have ha' : k / 5 % 5 = a := ha; show k + (4 - a) * 5 < 5000; omega
  | 3, _, 1, _ => have hk' : k < 5000 := hk; have ha' : k / 25 % 5 = a := ha; show k + (4 - a) * 25 < 5000; omega
  | 3, _, 2, _ => have hk' : k < 5000 := hk; have ha' : k / 125 % 5 = a := ha; show k + (4 - a) * 125 < 5000; omega
  | 4, _, 0, _ => have hk' : k < 50000 := hk; have ha' : k / 5 % 5 = a := ha; show k + (4 - a) * 5 < 50000; omega
  | 4, _, 1, _ => have hk' : k < 50000 := hk; have ha' : k / 25 % 5 = a := ha; show k + (4 - a) * 25 < 50000; omega
  | 4, _, 2, _ => have hk' : k < 50000 := hk; have ha' : k / 125 % 5 = a := ha; show k + (4 - a) * 125 < 50000; omega
  | 4, _, 3, _ => have hk' : k < 50000 := hk; have ha' : k / 625 % 5 = a := ha; show k + (4 - a) * 625 < 50000; omega
  | n + 5, q, _, _ => exact absurd q (by omega)
theorem f_all : ∀ n, n ≤ 4 → 5 ^ (1 + n) * 2 ^ n % 5 = 0 ∧ 5 ^ (1 + n) * 2 ^ n ≤ 50000 ∧ 0 < 5 ^ (1 + n) ∧ 5 ^ (1 + n) ≤ 3125 := by decide
theorem f_bit : ∀ n, n < 5 → ∀ R, R < 2 ^ n → ∀ t, t < n → R.testBit t = false → R + 2 ^ t < 2 ^ n := by decide
theorem f_d5 {k t d : Nat} (h : r_d5 k t = d) : d * 5 ^ (1 + t) ≤ k := by
  unfold r_d5 at h
  have h1 : d ≤ k / 5 ^ (1 + t) := by
    rw [← h]; exact Nat.mod_le _ _
  exact Nat.le_trans (Nat.mul_le_mul_right _ h1) (Nat.div_mul_le_self k (5 ^ (1 + t)))
theorem r_way_self (sg : am_G0) (a : Nat) : r_way sg a a = 0 := by
  unfold r_way r_ab
  rw [if_pos (Nat.le_refl _), if_pos (Nat.le_refl _)]; omega
section GB
variable {I : am_I} {L : am_L} {Q : Option Value → am_I → am_L → am_P → am_S → Prop} {h s n Lx : Nat} {sg : am_G0} {I0 : am_I} {cs all k' tm lt0 ag0 : Nat} {M0 : Nat → Nat}
theorem s130e {x w lt ag : Nat} {M : Nat → Nat} (hall : all ≤ 50000) (h33 : I0 63 33 = nI tm) (htm : tm < 100000) (hS : f_st I0 all I M lt ag) (hR : f_rl sg cs all k' tm M0 lt0 ag0 M lt ag) (hE : r_E2 sg cs x k' w) (hx : x < all) (hw : w < 100) (H : ∀ (I' : am_I) (M' : Nat → Nat) (lt' ag' : Nat), f_st I0 all I' M' lt' ag' → f_rl sg cs all k' tm M0 lt0 ag0 M' lt' ag' → (∀ y, M' y ≤ M y) → M' x ≤ tm + w → Q none I' L (am_PT h s) (am_S1 Lx)) : Ev 130 [.ref 63, .int (nI x), .int (nI (tm + w))] I L (am_PT h s) (am_S1 Lx) Q := by
  obtain ⟨a1, a2, a3, a4, a5, a6, a7⟩ := hS
  obtain ⟨b1, b2⟩ := a7 x hx
  have e33 : I 63 33 = nI tm := by rw [a2 33 (by omega) (by omega)]; exact h33
  refine (s130 (show x < 50000 by omega) b1 b2 (by omega) e33 (by omega) a3 (by omega) a4 a5).mpr ?_
  by_cases c : tm + w < M x
  · rw [if_pos c]
    obtain ⟨r1, r2, r3, r4, r5⟩ := hR
    refine H _ (fun y => if y = x then tm + w else M y) (if lt < tm + w then tm + w else lt) (if ag = 1 ∨ tm + w = tm then 1 else 0) ⟨fun y h1 h2 => ?_, fun y h1 h2 => ?_, ?_, ?_, ?_, ?_, fun y hy => ?_⟩ ⟨fun y => ?_, ?_, fun q => ?_, fun y q1 q2 => ?_, fun q => ?_⟩ (fun y => ?_) ?_
    · rw [am_u_ne h1, am_u_ne h1, am_u_ne h2]; exact a1 y h1 h2
    · simp only [am_u_at, if_true, h1, h2, if_false]
      rw [if_neg (by omega)]; exact a2 y h1 h2
    · simp +decide only [am_u_at, if_true, if_false]
    · simp +decide only [am_u_at, if_true, if_false]
    · split <;> omega
    · split <;> omega
    · rw [am_u_ne (by omega), am_u_ne (by omega), am_u_at, if_pos rfl]
      show (if y = x then nI (tm + w) else I 75 y) = nI (if y = x then tm + w else M y) ∧ (if y = x then tm + w else M y) ≤ 100000
      by_cases z : y = x
      · rw [if_pos z, if_pos z]; exact ⟨rfl, by omega⟩
      · rw [if_neg z, if_neg z]; exact a7 y hy
    · show (if y = x then tm + w else M y) ≤ M0 y ∧ ((if y = x then tm + w else M y) = M0 y ∨ _)
      by_cases z : y = x
      · subst z
        simp only [if_true]
        have := (r1 y).1
        refine ⟨by omega, Or.inr ⟨hx, ⟨w, hE, rfl⟩, by omega, by split <;> omega⟩⟩
      · simp only [if_neg z]
        refine ⟨(r1 y).1, (r1 y).2.imp id fun q => ⟨q.1, q.2.1, q.2.2.1, ?_⟩⟩
        have := q.2.2.2
        split <;> omega
    · split <;> omega
    · rw [if_pos (Or.inl (r3 q))]
    · by_cases z : y = x
      · have q3 : (if y = x then tm + w else M y) = tm := q2
        rw [if_pos z] at q3
        rw [if_pos (Or.inr q3)]
      · have q3 : (if y = x then tm + w else M y) = tm := q2
        have q4 : ¬ (if y = x then tm + w else M y) = M0 y := q1
        rw [if_neg z] at q3 q4
        rw [if_pos (Or.inl (r4 y q4 q3))]
    · right
      have := (r1 x).1
      exact ⟨x, hx, by show (if x = x then tm + w else M x) < M0 x; rw [if_pos rfl]; omega⟩
    · show (if y = x then tm + w else M y) ≤ M y
      split
      · next z => rw [z]; omega
      · exact Nat.le_refl _
    · show (if x = x then tm + w else M x) ≤ tm + w
      rw [if_pos rfl]; exact Nat.le_refl _
  · rw [if_neg c]
    exact H I M lt ag ⟨a1, a2, a3, a4, a5, a6, a7⟩ hR (fun _ => Nat.le_refl _) (by omega)
theorem l132a (rH : r_H I0 sg h) (hall : all ≤ 50000) (h5 : all % 5 = 0) (h33 : I0 63 33 = nI tm) (htm : tm < 100000) (hk : k' < all) (hat : k' % 5 < sg 0 0) {l5 l6 l7 l8 l9 : Option Value} (H : ∀ (I' : am_I) (M' : Nat → Nat) (lt' ag' : Nat), f_st I0 all I' M' lt' ag' → f_rl sg cs all k' tm M0 lt0 ag0 M' lt' ag' → (∀ x, x < 5 → ¬ x = k' % 5 → (x < sg 0 0 ∨ x = 4) → M' (k' - k' % 5 + x) ≤ tm + r_way sg x (k' % 5)) → Ex 132 66 [some (.ref 63), some (.int (nI k')), some (.int (nI (k' % 5))), some (.int (nI tm)), some (.int (nI 5)), l5, l6, l7, l8, l9] [] I' L (am_PT h s) (am_S1 Lx) Q) : ∀ m k (I : am_I) (M : Nat → Nat) (lt ag : Nat), k + m = 5 → f_st I0 all I M lt ag → f_rl sg cs all k' tm M0 lt0 ag0 M lt ag → (∀ x, x < k → ¬ x = k' % 5 → (x < sg 0 0 ∨ x = 4) → M (k' - k' % 5 + x) ≤ tm + r_way sg x (k' % 5)) → Ex 132 14 [some (.ref 63), some (.int (nI k')), some (.int (nI (k' % 5))), some (.int (nI tm)), some (.int (nI k)), l5, l6, l7, l8, l9] [] I L (am_PT h s) (am_S1 Lx) Q := by
  obtain ⟨hd, hV, g0, g1, g2, g3, ⟨g4, g5, g6, g7⟩, gs, gt, gz⟩ := id rH
  have v0 := hV.1
  intro m
  induction m with
  | zero =>
    intro k I M lt ag hk5 hS hR hX
    obtain rfl : k = 5 := by omega
    have c : nI 4 < nI 5 := by decide
    rw [x132_14]
    simp +decide (disch := omega) only [x132_16, x132_17, ↓reduceIte, true_and, and_true, if_true, if_false, ne_eq, not_false_eq_true, am_u_at, am_nb0, am_nb1, am_fb0, am_fb1, am_kc_i, am_kc_r, am_kc_l, am_kc_n, am_wsum_n, am_wsum_i, am_wsum_r, am_wsum_l, am_rs_s, am_rs_n, am_S1_1, am_S1_2, am_S1_3, am_S1_4, am_S1_5, am_S1_6, am_S1_7, am_S1_8, am_S1_9, am_S1_10, am_S1_11, am_S1_12, am_S1_13, am_S1_14, am_S1_15, am_S1_16, am_S1_17, am_S1_18, am_S1_19, am_S1_20, am_S1_21, am_S1_22, am_S1_23, am_S1_24, am_S1_25, am_S1_26, am_S1_27, am_S1_28, am_S1_29, am_S1_30, am_S1_31, am_S1_32, am_S1_33, am_S1_34, am_S1_35, am_S1_36, am_S1_37, am_S1_38, am_S1_39, am_S1_40, am_S1_41, am_S1_42, am_S1_43, am_S1_44, am_S1_45, am_S1_46, am_S1_47, am_S1_48, am_S1_49, am_S1_50, am_S1_51, am_S1_52, am_S1_53, am_S1_54, am_S1_55, am_S1_56, am_S1_57, am_S1_58, am_S1_59, am_S1_60, am_S1_61, am_S1_62, am_S1_63, am_S1_64, am_S1_65, am_S1_66, am_S1_67, am_S1_68, am_S1_69, am_S1_70, am_S1_71, am_S1_72, am_S1_73, am_S1_74, am_S1_75, am_S1_76, am_S1_77, am_PT_3_1, am_PT_3_2, am_PT_3_0, am_PT_3_3, am_PT_3_4, am_PT_3_5, am_PT_3_6, am_PT_3_7, am_PT_3_8, am_PT_3_9, am_PT_3_10, am_PT_4_0, am_PT_6_6, am_PT_6_7, am_PT_6_8, am_PT_6_9, am_PT_6_10, am_PT_6_11, am_PT_13_6, am_PT_13_7, am_PT_13_8, am_PT_13_9, am_PT_13_10, am_PT_13_11, am_PT_20_3, am_PT_22_0, am_PT_23_0, am_PT_23_1, am_PT_23_2, am_PT_23_3, am_PT_23_4, am_PT_23_5, am_PT_23_6, am_PT_23_7, am_PT_23_8, am_PT_23_9, am_PT_24_3, am_PT_26_3, am_PT_28_3, am_PT_30_3, am_PT_32_3, am_PT_34_3, am_PT_36_3, am_PT_38_3, am_PT_40_3, am_PT_42_3, am_PT_44_0, am_PT_44_1, am_PT_46_2, am_PT_46_3, am_PT_46_4, am_PT_46_5, am_PT_51_0, am_PT_51_1, am_PT_51_2, am_PT_51_3, am_PT_51_4, am_PT_59_3, am_PT_61_3, am_PT_63_1, am_PT_63_3, am_PT_63_6, am_PT_63_7, am_PT_63_9, am_PT_63_10, am_PT_63_12, am_PT_63_14, am_PT_63_16, am_PT_63_25, am_PT_63_27, am_PT_63_30, am_PT_63_36, am_PT_63_37, n_c0, n_c1, n_c2, n_c3, n_c4, n_c5, n_c6, n_c7, n_c8, n_c9, n_c10, n_c11, n_c12, n_c14, n_c16, n_c18, n_c20, n_c24, n_c30, n_c31, n_c32, n_c36, n_c48, n_c57, n_c60, n_c63, n_c70, n_c75, n_c97, n_c100, n_c101, n_c104, n_c115, n_c116, n_c59, n_c150, n_c199, n_c200, n_c201, n_c216, n_c255, n_c256, n_c999, n_c1296, n_c4095, n_c6480, n_c100000, n_c1000, n_c65536, c]
    exact H I M lt ag hS hR hX
  | succ m ih =>
    intro k I M lt ag hk5 hS hR hX
    have c1 : ¬ 4 < k := by omega
    have e0 : I 63 0 = nI (sg 0 0) := by rw [hS.2.1 0 (by omega) (by omega)]; exact g4
    have skip : ¬ (¬ k = k' % 5 ∧ (k < sg 0 0 ∨ k = 4)) → Ex 132 60 [some (.ref 63), some (.int (nI k')), some (.int (nI (k' % 5))), some (.int (nI tm)), some (.int (nI k)), l5, l6, l7, l8, l9] [] I L (am_PT h s) (am_S1 Lx) Q := by
      intro q
      simp +decide (disch := omega) only [x132_60, x132_63, ↓reduceIte, true_and, and_true, if_true, if_false, ne_eq, not_false_eq_true, am_u_at, am_nb0, am_nb1, am_fb0, am_fb1, am_kc_i, am_kc_r, am_kc_l, am_kc_n, am_wsum_n, am_wsum_i, am_wsum_r, am_wsum_l, am_rs_s, am_rs_n, n_c0, n_c1, n_c2, n_c3, n_c4, n_c5, n_c6, n_c7, n_c8, n_c9, n_c10, n_c11, n_c12, n_c14, n_c16, n_c18, n_c20, n_c24, n_c30, n_c31, n_c32, n_c36, n_c48, n_c57, n_c60, n_c63, n_c70, n_c75, n_c97, n_c100, n_c101, n_c104, n_c115, n_c116, n_c59, n_c150, n_c199, n_c200, n_c201, n_c216, n_c255, n_c256, n_c999, n_c1296, n_c4095, n_c6480, n_c100000, n_c1000, n_c65536, n_add]
      refine ih (k + 1) I M lt ag (by omega) hS hR fun x hx h1 h2 => ?_
      by_cases z : x = k
      · subst z; exact absurd ⟨h1, h2⟩ q
      · exact hX x (by omega) h1 h2
    rw [x132_14]
    by_cases c2 : k = k' % 5
    · have sk := skip (fun q => q.1 c2)
      simp +decide (disch := omega) only [x132_16, x132_17, x132_20, x132_22, x132_23, ↓reduceIte, true_and, and_true, if_true, if_false, ne_eq, not_false_eq_true, am_u_at, am_nb0, am_nb1, am_fb0, am_fb1, am_kc_i, am_kc_r, am_kc_l, am_kc_n, am_wsum_n, am_wsum_i, am_wsum_r, am_wsum_l, am_rs_s, am_rs_n, am_S1_1, am_S1_2, am_S1_3, am_S1_4, am_S1_5, am_S1_6, am_S1_7, am_S1_8, am_S1_9, am_S1_10, am_S1_11, am_S1_12, am_S1_13, am_S1_14, am_S1_15, am_S1_16, am_S1_17, am_S1_18, am_S1_19, am_S1_20, am_S1_21, am_S1_22, am_S1_23, am_S1_24, am_S1_25, am_S1_26, am_S1_27, am_S1_28, am_S1_29, am_S1_30, am_S1_31, am_S1_32, am_S1_33, am_S1_34, am_S1_35, am_S1_36, am_S1_37, am_S1_38, am_S1_39, am_S1_40, am_S1_41, am_S1_42, am_S1_43, am_S1_44, am_S1_45, am_S1_46, am_S1_47, am_S1_48, am_S1_49, am_S1_50, am_S1_51, am_S1_52, am_S1_53, am_S1_54, am_S1_55, am_S1_56, am_S1_57, am_S1_58, am_S1_59, am_S1_60, am_S1_61, am_S1_62, am_S1_63, am_S1_64, am_S1_65, am_S1_66, am_S1_67, am_S1_68, am_S1_69, am_S1_70, am_S1_71, am_S1_72, am_S1_73, am_S1_74, am_S1_75, am_S1_76, am_S1_77, am_PT_3_1, am_PT_3_2, am_PT_3_0, am_PT_3_3, am_PT_3_4, am_PT_3_5, am_PT_3_6, am_PT_3_7, am_PT_3_8, am_PT_3_9, am_PT_3_10, am_PT_4_0, am_PT_6_6, am_PT_6_7, am_PT_6_8, am_PT_6_9, am_PT_6_10, am_PT_6_11, am_PT_13_6, am_PT_13_7, am_PT_13_8, am_PT_13_9, am_PT_13_10, am_PT_13_11, am_PT_20_3, am_PT_22_0, am_PT_23_0, am_PT_23_1, am_PT_23_2, am_PT_23_3, am_PT_23_4, am_PT_23_5, am_PT_23_6, am_PT_23_7, am_PT_23_8, am_PT_23_9, am_PT_24_3, am_PT_26_3, am_PT_28_3, am_PT_30_3, am_PT_32_3, am_PT_34_3, am_PT_36_3, am_PT_38_3, am_PT_40_3, am_PT_42_3, am_PT_44_0, am_PT_44_1, am_PT_46_2, am_PT_46_3, am_PT_46_4, am_PT_46_5, am_PT_51_0, am_PT_51_1, am_PT_51_2, am_PT_51_3, am_PT_51_4, am_PT_59_3, am_PT_61_3, am_PT_63_1, am_PT_63_3, am_PT_63_6, am_PT_63_7, am_PT_63_9, am_PT_63_10, am_PT_63_12, am_PT_63_14, am_PT_63_16, am_PT_63_25, am_PT_63_27, am_PT_63_30, am_PT_63_36, am_PT_63_37, n_c0, n_c1, n_c2, n_c3, n_c4, n_c5, n_c6, n_c7, n_c8, n_c9, n_c10, n_c11, n_c12, n_c14, n_c16, n_c18, n_c20, n_c24, n_c30, n_c31, n_c32, n_c36, n_c48, n_c57, n_c60, n_c63, n_c70, n_c75, n_c97, n_c100, n_c101, n_c104, n_c115, n_c116, n_c59, n_c150, n_c199, n_c200, n_c201, n_c216, n_c255, n_c256, n_c999, n_c1296, n_c4095, n_c6480, n_c100000, n_c1000, n_c65536, n_lt, n_eq, c1, eq_true c2]
      exact sk
    by_cases c3 : k < sg 0 0 ∨ k = 4
    rotate_left
    · have sk := skip (fun q => c3 q.2)
      have c4 : ¬ k < sg 0 0 := fun q => c3 (Or.inl q)
      have c5 : ¬ k = 4 := fun q => c3 (Or.inr q)
      simp +decide (disch := omega) only [x132_16, x132_17, x132_20, x132_22, x132_23, x132_26, x132_28, x132_29, x132_32, x132_35, x132_37, x132_38, ↓reduceIte, true_and, and_true, if_true, if_false, ne_eq, not_false_eq_true, am_u_at, am_nb0, am_nb1, am_fb0, am_fb1, am_kc_i, am_kc_r, am_kc_l, am_kc_n, am_wsum_n, am_wsum_i, am_wsum_r, am_wsum_l, am_rs_s, am_rs_n, am_S1_1, am_S1_2, am_S1_3, am_S1_4, am_S1_5, am_S1_6, am_S1_7, am_S1_8, am_S1_9, am_S1_10, am_S1_11, am_S1_12, am_S1_13, am_S1_14, am_S1_15, am_S1_16, am_S1_17, am_S1_18, am_S1_19, am_S1_20, am_S1_21, am_S1_22, am_S1_23, am_S1_24, am_S1_25, am_S1_26, am_S1_27, am_S1_28, am_S1_29, am_S1_30, am_S1_31, am_S1_32, am_S1_33, am_S1_34, am_S1_35, am_S1_36, am_S1_37, am_S1_38, am_S1_39, am_S1_40, am_S1_41, am_S1_42, am_S1_43, am_S1_44, am_S1_45, am_S1_46, am_S1_47, am_S1_48, am_S1_49, am_S1_50, am_S1_51, am_S1_52, am_S1_53, am_S1_54, am_S1_55, am_S1_56, am_S1_57, am_S1_58, am_S1_59, am_S1_60, am_S1_61, am_S1_62, am_S1_63, am_S1_64, am_S1_65, am_S1_66, am_S1_67, am_S1_68, am_S1_69, am_S1_70, am_S1_71, am_S1_72, am_S1_73, am_S1_74, am_S1_75, am_S1_76, am_S1_77, am_PT_3_1, am_PT_3_2, am_PT_3_0, am_PT_3_3, am_PT_3_4, am_PT_3_5, am_PT_3_6, am_PT_3_7, am_PT_3_8, am_PT_3_9, am_PT_3_10, am_PT_4_0, am_PT_6_6, am_PT_6_7, am_PT_6_8, am_PT_6_9, am_PT_6_10, am_PT_6_11, am_PT_13_6, am_PT_13_7, am_PT_13_8, am_PT_13_9, am_PT_13_10, am_PT_13_11, am_PT_20_3, am_PT_22_0, am_PT_23_0, am_PT_23_1, am_PT_23_2, am_PT_23_3, am_PT_23_4, am_PT_23_5, am_PT_23_6, am_PT_23_7, am_PT_23_8, am_PT_23_9, am_PT_24_3, am_PT_26_3, am_PT_28_3, am_PT_30_3, am_PT_32_3, am_PT_34_3, am_PT_36_3, am_PT_38_3, am_PT_40_3, am_PT_42_3, am_PT_44_0, am_PT_44_1, am_PT_46_2, am_PT_46_3, am_PT_46_4, am_PT_46_5, am_PT_51_0, am_PT_51_1, am_PT_51_2, am_PT_51_3, am_PT_51_4, am_PT_59_3, am_PT_61_3, am_PT_63_1, am_PT_63_3, am_PT_63_6, am_PT_63_7, am_PT_63_9, am_PT_63_10, am_PT_63_12, am_PT_63_14, am_PT_63_16, am_PT_63_25, am_PT_63_27, am_PT_63_30, am_PT_63_36, am_PT_63_37, n_c0, n_c1, n_c2, n_c3, n_c4, n_c5, n_c6, n_c7, n_c8, n_c9, n_c10, n_c11, n_c12, n_c14, n_c16, n_c18, n_c20, n_c24, n_c30, n_c31, n_c32, n_c36, n_c48, n_c57, n_c60, n_c63, n_c70, n_c75, n_c97, n_c100, n_c101, n_c104, n_c115, n_c116, n_c59, n_c150, n_c199, n_c200, n_c201, n_c216, n_c255, n_c256, n_c999, n_c1296, n_c4095, n_c6480, n_c100000, n_c1000, n_c65536, n_lt, n_eq, c1, c2, e0, c4, c5]
      exact sk
    have hw := r_way_lt hV k (k' % 5)
    have go : Ex 132 41 [some (.ref 63), some (.int (nI k')), some (.int (nI (k' % 5))), some (.int (nI tm)), some (.int (nI k)), l5, l6, l7, l8, l9] [] I L (am_PT h s) (am_S1 Lx) Q := by
      simp +decide (disch := omega) only [x132_41, x132_42, x132_43, x132_44, x132_45, x132_47, x132_48, x132_49, x132_50, x132_52, x132_53, ↓reduceIte, true_and, and_true, if_true, if_false, ne_eq, not_false_eq_true, am_u_at, am_nb0, am_nb1, am_fb0, am_fb1, am_kc_i, am_kc_r, am_kc_l, am_kc_n, am_wsum_n, am_wsum_i, am_wsum_r, am_wsum_l, am_rs_s, am_rs_n, am_S1_1, am_S1_2, am_S1_3, am_S1_4, am_S1_5, am_S1_6, am_S1_7, am_S1_8, am_S1_9, am_S1_10, am_S1_11, am_S1_12, am_S1_13, am_S1_14, am_S1_15, am_S1_16, am_S1_17, am_S1_18, am_S1_19, am_S1_20, am_S1_21, am_S1_22, am_S1_23, am_S1_24, am_S1_25, am_S1_26, am_S1_27, am_S1_28, am_S1_29, am_S1_30, am_S1_31, am_S1_32, am_S1_33, am_S1_34, am_S1_35, am_S1_36, am_S1_37, am_S1_38, am_S1_39, am_S1_40, am_S1_41, am_S1_42, am_S1_43, am_S1_44, am_S1_45, am_S1_46, am_S1_47, am_S1_48, am_S1_49, am_S1_50, am_S1_51, am_S1_52, am_S1_53, am_S1_54, am_S1_55, am_S1_56, am_S1_57, am_S1_58, am_S1_59, am_S1_60, am_S1_61, am_S1_62, am_S1_63, am_S1_64, am_S1_65, am_S1_66, am_S1_67, am_S1_68, am_S1_69, am_S1_70, am_S1_71, am_S1_72, am_S1_73, am_S1_74, am_S1_75, am_S1_76, am_S1_77, am_PT_3_1, am_PT_3_2, am_PT_3_0, am_PT_3_3, am_PT_3_4, am_PT_3_5, am_PT_3_6, am_PT_3_7, am_PT_3_8, am_PT_3_9, am_PT_3_10, am_PT_4_0, am_PT_6_6, am_PT_6_7, am_PT_6_8, am_PT_6_9, am_PT_6_10, am_PT_6_11, am_PT_13_6, am_PT_13_7, am_PT_13_8, am_PT_13_9, am_PT_13_10, am_PT_13_11, am_PT_20_3, am_PT_22_0, am_PT_23_0, am_PT_23_1, am_PT_23_2, am_PT_23_3, am_PT_23_4, am_PT_23_5, am_PT_23_6, am_PT_23_7, am_PT_23_8, am_PT_23_9, am_PT_24_3, am_PT_26_3, am_PT_28_3, am_PT_30_3, am_PT_32_3, am_PT_34_3, am_PT_36_3, am_PT_38_3, am_PT_40_3, am_PT_42_3, am_PT_44_0, am_PT_44_1, am_PT_46_2, am_PT_46_3, am_PT_46_4, am_PT_46_5, am_PT_51_0, am_PT_51_1, am_PT_51_2, am_PT_51_3, am_PT_51_4, am_PT_59_3, am_PT_61_3, am_PT_63_1, am_PT_63_3, am_PT_63_6, am_PT_63_7, am_PT_63_9, am_PT_63_10, am_PT_63_12, am_PT_63_14, am_PT_63_16, am_PT_63_25, am_PT_63_27, am_PT_63_30, am_PT_63_36, am_PT_63_37, n_c0, n_c1, n_c2, n_c3, n_c4, n_c5, n_c6, n_c7, n_c8, n_c9, n_c10, n_c11, n_c12, n_c14, n_c16, n_c18, n_c20, n_c24, n_c30, n_c31, n_c32, n_c36, n_c48, n_c57, n_c60, n_c63, n_c70, n_c75, n_c97, n_c100, n_c101, n_c104, n_c115, n_c116, n_c59, n_c150, n_c199, n_c200, n_c201, n_c216, n_c255, n_c256, n_c999, n_c1296, n_c4095, n_c6480, n_c100000, n_c1000, n_c65536, n_sub, n_add]
      refine (s115 (sg := sg) hV (fun i hi => ?_) c3 (Or.inl hat)).mpr ?_
      · rw [hS.1 64 (by omega) (by omega)]; exact ⟨(gs i hi).2.2.1, (gs i hi).2.2.2⟩
      simp +decide (disch := omega) only [x132_56, x132_57, ↓reduceIte, true_and, and_true, if_true, if_false, ne_eq, not_false_eq_true, am_u_at, am_nb0, am_nb1, am_fb0, am_fb1, am_kc_i, am_kc_r, am_kc_l, am_kc_n, am_wsum_n, am_wsum_i, am_wsum_r, am_wsum_l, am_rs_s, am_rs_n, am_S1_1, am_S1_2, am_S1_3, am_S1_4, am_S1_5, am_S1_6, am_S1_7, am_S1_8, am_S1_9, am_S1_10, am_S1_11, am_S1_12, am_S1_13, am_S1_14, am_S1_15, am_S1_16, am_S1_17, am_S1_18, am_S1_19, am_S1_20, am_S1_21, am_S1_22, am_S1_23, am_S1_24, am_S1_25, am_S1_26, am_S1_27, am_S1_28, am_S1_29, am_S1_30, am_S1_31, am_S1_32, am_S1_33, am_S1_34, am_S1_35, am_S1_36, am_S1_37, am_S1_38, am_S1_39, am_S1_40, am_S1_41, am_S1_42, am_S1_43, am_S1_44, am_S1_45, am_S1_46, am_S1_47, am_S1_48, am_S1_49, am_S1_50, am_S1_51, am_S1_52, am_S1_53, am_S1_54, am_S1_55, am_S1_56, am_S1_57, am_S1_58, am_S1_59, am_S1_60, am_S1_61, am_S1_62, am_S1_63, am_S1_64, am_S1_65, am_S1_66, am_S1_67, am_S1_68, am_S1_69, am_S1_70, am_S1_71, am_S1_72, am_S1_73, am_S1_74, am_S1_75, am_S1_76, am_S1_77, am_PT_3_1, am_PT_3_2, am_PT_3_0, am_PT_3_3, am_PT_3_4, am_PT_3_5, am_PT_3_6, am_PT_3_7, am_PT_3_8, am_PT_3_9, am_PT_3_10, am_PT_4_0, am_PT_6_6, am_PT_6_7, am_PT_6_8, am_PT_6_9, am_PT_6_10, am_PT_6_11, am_PT_13_6, am_PT_13_7, am_PT_13_8, am_PT_13_9, am_PT_13_10, am_PT_13_11, am_PT_20_3, am_PT_22_0, am_PT_23_0, am_PT_23_1, am_PT_23_2, am_PT_23_3, am_PT_23_4, am_PT_23_5, am_PT_23_6, am_PT_23_7, am_PT_23_8, am_PT_23_9, am_PT_24_3, am_PT_26_3, am_PT_28_3, am_PT_30_3, am_PT_32_3, am_PT_34_3, am_PT_36_3, am_PT_38_3, am_PT_40_3, am_PT_42_3, am_PT_44_0, am_PT_44_1, am_PT_46_2, am_PT_46_3, am_PT_46_4, am_PT_46_5, am_PT_51_0, am_PT_51_1, am_PT_51_2, am_PT_51_3, am_PT_51_4, am_PT_59_3, am_PT_61_3, am_PT_63_1, am_PT_63_3, am_PT_63_6, am_PT_63_7, am_PT_63_9, am_PT_63_10, am_PT_63_12, am_PT_63_14, am_PT_63_16, am_PT_63_25, am_PT_63_27, am_PT_63_30, am_PT_63_36, am_PT_63_37, n_c0, n_c1, n_c2, n_c3, n_c4, n_c5, n_c6, n_c7, n_c8, n_c9, n_c10, n_c11, n_c12, n_c14, n_c16, n_c18, n_c20, n_c24, n_c30, n_c31, n_c32, n_c36, n_c48, n_c57, n_c60, n_c63, n_c70, n_c75, n_c97, n_c100, n_c101, n_c104, n_c115, n_c116, n_c59, n_c150, n_c199, n_c200, n_c201, n_c216, n_c255, n_c256, n_c999, n_c1296, n_c4095, n_c6480, n_c100000, n_c1000, n_c65536, n_add]
      refine s130e hall h33 htm hS hR ⟨hat, Or.inl ⟨by omega, by omega, ?_⟩⟩ (by omega) hw fun I' M' lt' ag' p1 p2 p3 p4 => ?_
      · have : (k' - k' % 5 + k) % 5 = k := by omega
        rw [this]
      simp +decide (disch := omega) only [x132_60, x132_63, ↓reduceIte, true_and, and_true, if_true, if_false, ne_eq, not_false_eq_true, am_u_at, am_nb0, am_nb1, am_fb0, am_fb1, am_kc_i, am_kc_r, am_kc_l, am_kc_n, am_wsum_n, am_wsum_i, am_wsum_r, am_wsum_l, am_rs_s, am_rs_n, n_c0, n_c1, n_c2, n_c3, n_c4, n_c5, n_c6, n_c7, n_c8, n_c9, n_c10, n_c11, n_c12, n_c14, n_c16, n_c18, n_c20, n_c24, n_c30, n_c31, n_c32, n_c36, n_c48, n_c57, n_c60, n_c63, n_c70, n_c75, n_c97, n_c100, n_c101, n_c104, n_c115, n_c116, n_c59, n_c150, n_c199, n_c200, n_c201, n_c216, n_c255, n_c256, n_c999, n_c1296, n_c4095, n_c6480, n_c100000, n_c1000, n_c65536, n_add]
      refine ih (k + 1) I' M' lt' ag' (by omega) p1 p2 fun x hx h1 h2 => ?_
      by_cases z : x = k
      · subst z; exact p4
      · exact Nat.le_trans (p3 _) (hX x (by omega) h1 h2)
    by_cases c4 : k < sg 0 0
    · simp +decide (disch := omega) only [x132_16, x132_17, x132_20, x132_22, x132_23, x132_26, x132_28, x132_29, x132_32, ↓reduceIte, true_and, and_true, if_true, if_false, ne_eq, not_false_eq_true, am_u_at, am_nb0, am_nb1, am_fb0, am_fb1, am_kc_i, am_kc_r, am_kc_l, am_kc_n, am_wsum_n, am_wsum_i, am_wsum_r, am_wsum_l, am_rs_s, am_rs_n, am_S1_1, am_S1_2, am_S1_3, am_S1_4, am_S1_5, am_S1_6, am_S1_7, am_S1_8, am_S1_9, am_S1_10, am_S1_11, am_S1_12, am_S1_13, am_S1_14, am_S1_15, am_S1_16, am_S1_17, am_S1_18, am_S1_19, am_S1_20, am_S1_21, am_S1_22, am_S1_23, am_S1_24, am_S1_25, am_S1_26, am_S1_27, am_S1_28, am_S1_29, am_S1_30, am_S1_31, am_S1_32, am_S1_33, am_S1_34, am_S1_35, am_S1_36, am_S1_37, am_S1_38, am_S1_39, am_S1_40, am_S1_41, am_S1_42, am_S1_43, am_S1_44, am_S1_45, am_S1_46, am_S1_47, am_S1_48, am_S1_49, am_S1_50, am_S1_51, am_S1_52, am_S1_53, am_S1_54, am_S1_55, am_S1_56, am_S1_57, am_S1_58, am_S1_59, am_S1_60, am_S1_61, am_S1_62, am_S1_63, am_S1_64, am_S1_65, am_S1_66, am_S1_67, am_S1_68, am_S1_69, am_S1_70, am_S1_71, am_S1_72, am_S1_73, am_S1_74, am_S1_75, am_S1_76, am_S1_77, am_PT_3_1, am_PT_3_2, am_PT_3_0, am_PT_3_3, am_PT_3_4, am_PT_3_5, am_PT_3_6, am_PT_3_7, am_PT_3_8, am_PT_3_9, am_PT_3_10, am_PT_4_0, am_PT_6_6, am_PT_6_7, am_PT_6_8, am_PT_6_9, am_PT_6_10, am_PT_6_11, am_PT_13_6, am_PT_13_7, am_PT_13_8, am_PT_13_9, am_PT_13_10, am_PT_13_11, am_PT_20_3, am_PT_22_0, am_PT_23_0, am_PT_23_1, am_PT_23_2, am_PT_23_3, am_PT_23_4, am_PT_23_5, am_PT_23_6, am_PT_23_7, am_PT_23_8, am_PT_23_9, am_PT_24_3, am_PT_26_3, am_PT_28_3, am_PT_30_3, am_PT_32_3, am_PT_34_3, am_PT_36_3, am_PT_38_3, am_PT_40_3, am_PT_42_3, am_PT_44_0, am_PT_44_1, am_PT_46_2, am_PT_46_3, am_PT_46_4, am_PT_46_5, am_PT_51_0, am_PT_51_1, am_PT_51_2, am_PT_51_3, am_PT_51_4, am_PT_59_3, am_PT_61_3, am_PT_63_1, am_PT_63_3, am_PT_63_6, am_PT_63_7, am_PT_63_9, am_PT_63_10, am_PT_63_12, am_PT_63_14, am_PT_63_16, am_PT_63_25, am_PT_63_27, am_PT_63_30, am_PT_63_36, am_PT_63_37, n_c0, n_c1, n_c2, n_c3, n_c4, n_c5, n_c6, n_c7, n_c8, n_c9, n_c10, n_c11, n_c12, n_c14, n_c16, n_c18, n_c20, n_c24, n_c30, n_c31, n_c32, n_c36, n_c48, n_c57, n_c60, n_c63, n_c70, n_c75, n_c97, n_c100, n_c101, n_c104, n_c115, n_c116, n_c59, n_c150, n_c199, n_c200, n_c201, n_c216, n_c255, n_c256, n_c999, n_c1296, n_c4095, n_c6480, n_c100000, n_c1000, n_c65536, n_lt, n_eq, c1, c2, e0, c4]
      exact go
    · have c5 : k = 4 := by omega
      simp +decide (disch := omega) only [x132_16, x132_17, x132_20, x132_22, x132_23, x132_26, x132_28, x132_29, x132_32, x132_35, x132_37, x132_38, ↓reduceIte, true_and, and_true, if_true, if_false, ne_eq, not_false_eq_true, am_u_at, am_nb0, am_nb1, am_fb0, am_fb1, am_kc_i, am_kc_r, am_kc_l, am_kc_n, am_wsum_n, am_wsum_i, am_wsum_r, am_wsum_l, am_rs_s, am_rs_n, am_S1_1, am_S1_2, am_S1_3, am_S1_4, am_S1_5, am_S1_6, am_S1_7, am_S1_8, am_S1_9, am_S1_10, am_S1_11, am_S1_12, am_S1_13, am_S1_14, am_S1_15, am_S1_16, am_S1_17, am_S1_18, am_S1_19, am_S1_20, am_S1_21, am_S1_22, am_S1_23, am_S1_24, am_S1_25, am_S1_26, am_S1_27, am_S1_28, am_S1_29, am_S1_30, am_S1_31, am_S1_32, am_S1_33, am_S1_34, am_S1_35, am_S1_36, am_S1_37, am_S1_38, am_S1_39, am_S1_40, am_S1_41, am_S1_42, am_S1_43, am_S1_44, am_S1_45, am_S1_46, am_S1_47, am_S1_48, am_S1_49, am_S1_50, am_S1_51, am_S1_52, am_S1_53, am_S1_54, am_S1_55, am_S1_56, am_S1_57, am_S1_58, am_S1_59, am_S1_60, am_S1_61, am_S1_62, am_S1_63, am_S1_64, am_S1_65, am_S1_66, am_S1_67, am_S1_68, am_S1_69, am_S1_70, am_S1_71, am_S1_72, am_S1_73, am_S1_74, am_S1_75, am_S1_76, am_S1_77, am_PT_3_1, am_PT_3_2, am_PT_3_0, am_PT_3_3, am_PT_3_4, am_PT_3_5, am_PT_3_6, am_PT_3_7, am_PT_3_8, am_PT_3_9, am_PT_3_10, am_PT_4_0, am_PT_6_6, am_PT_6_7, am_PT_6_8, am_PT_6_9, am_PT_6_10, am_PT_6_11, am_PT_13_6, am_PT_13_7, am_PT_13_8, am_PT_13_9, am_PT_13_10, am_PT_13_11, am_PT_20_3, am_PT_22_0, am_PT_23_0, am_PT_23_1, am_PT_23_2, am_PT_23_3, am_PT_23_4, am_PT_23_5, am_PT_23_6, am_PT_23_7, am_PT_23_8, am_PT_23_9, am_PT_24_3, am_PT_26_3, am_PT_28_3, am_PT_30_3, am_PT_32_3, am_PT_34_3, am_PT_36_3, am_PT_38_3, am_PT_40_3, am_PT_42_3, am_PT_44_0, am_PT_44_1, am_PT_46_2, am_PT_46_3, am_PT_46_4, am_PT_46_5, am_PT_51_0, am_PT_51_1, am_PT_51_2, am_PT_51_3, am_PT_51_4, am_PT_59_3, am_PT_61_3, am_PT_63_1, am_PT_63_3, am_PT_63_6, am_PT_63_7, am_PT_63_9, am_PT_63_10, am_PT_63_12, am_PT_63_14, am_PT_63_16, am_PT_63_25, am_PT_63_27, am_PT_63_30, am_PT_63_36, am_PT_63_37, n_c0, n_c1, n_c2, n_c3, n_c4, n_c5, n_c6, n_c7, n_c8, n_c9, n_c10, n_c11, n_c12, n_c14, n_c16, n_c18, n_c20, n_c24, n_c30, n_c31, n_c32, n_c36, n_c48, n_c57, n_c60, n_c63, n_c70, n_c75, n_c97, n_c100, n_c101, n_c104, n_c115, n_c116, n_c59, n_c150, n_c199, n_c200, n_c201, n_c216, n_c255, n_c256, n_c999, n_c1296, n_c4095, n_c6480, n_c100000, n_c1000, n_c65536, n_lt, n_eq, c1, c2, e0, c4, eq_true c5]
      exact go
end GB
