/-! which laws fit -/
def r_lw (sg : am_G0) (law t f : Nat) : Nat := if law = 0 then sg 3 t else if law = 1 then r_nr sg f (sg 0 0) else if f + 1 < sg 0 0 then f + 1 else 0
def r_fa (sg : am_G0) (law : Nat) : Nat → Nat
  | 0 => 1
  | k + 1 => if r_fa sg law k = 1 ∧ sg 15 k = r_lw sg law (sg 13 k) (sg 14 k) then 1 else 0
theorem r_fa_0 {sg : am_G0} {law k : Nat} (h : r_fa sg law k = 0) : ∀ n, k ≤ n → r_fa sg law n = 0
  | 0, hn => by
    obtain rfl : k = 0 := by omega
    exact h
  | n + 1, hn => by
    by_cases hk : k ≤ n
    · have := r_fa_0 h n hk
      simp [r_fa, this]
    · obtain rfl : k = n + 1 := by omega
      exact h
theorem v_nr_eq {a x : Nat} (ha : a < 4) (hx : x < 4 ∨ x = 100) : (nI a = v_nr x) = (a = x) := by
  unfold v_nr
  rcases hx with hx | rfl
  · rw [if_neg (by omega), n_eq (by omega) (by omega)]
  · rw [if_pos rfl]
    have e : (a = 100) = False := eq_false (by omega)
    rw [e]
    clear e
    refine eq_false ?_
    revert ha; revert a; decide
theorem r_lw_lt {sg : am_G0} {law t f : Nat} (hV : r_VH sg) (ht : t < sg 0 1) (hf : f < sg 0 0) : r_lw sg law t f < 4 ∨ r_lw sg law t f = 100 := by
  have v0 := hV.1
  have o := (hV.2.2.2.2.2 t ht).1
  have q := r_nr_lt (sg := sg) (s := f) (sg 0 0) v0
  unfold r_lw
  split
  · omega
  · split
    · omega
    · split <;> omega
section FI
variable {I : am_I} {L : am_L} {Q : Option Value → am_I → am_L → am_P → am_S → Prop} {h s n Lx : Nat} {sg : am_G0}
theorem s11 {law t f : Nat} (rH : r_H I sg h) (hl : law < 3) (ht : t < sg 0 1) (hf : f < sg 0 0) : Ev 11 [.ref h, .int (nI law), .int (nI t), .int (nI f)] I L (am_PT h s) (am_S1 Lx) Q ↔ Q (some (.int (v_nr (r_lw sg law t f)))) I L (am_PT h s) (am_S1 Lx) := by
  obtain ⟨hd, hV, g0, g1, g2, g3, ⟨g4, g5, g6, g7⟩, gs, gt, gz⟩ := id rH
  have P1 : (am_S1 Lx).1 h = (2, 0) := by rcases hd with rfl | rfl <;> rfl
  have PX3 : am_PT h s h 8 = h + 3 ∧ (am_S1 Lx).1 (h + 3) = (20, 4) ∧ ¬ h + 3 = 0 := by rcases hd with rfl | rfl <;> exact ⟨rfl, rfl, by omega⟩
  have h0 : ¬ h = 0 := by omega
  have v0 := hV.1
  have v1 := hV.2.1
  have t4 : t < 4 := by omega
  have w := (gt t ht).1
  have o := (hV.2.2.2.2.2 t ht).1
  match law, hl with
  | 0, _ =>
    have e : v_nr (r_lw sg 0 t f) = nI (sg 3 t) := by
      unfold r_lw v_nr
      rw [if_pos rfl, if_neg (by omega)]
    rw [e]
    simp +decide (disch := omega) only [xe11, x11_0, x11_1, x11_28, x11_29, x11_32, x11_33, x11_34, x11_35, x11_36, x11_37, x11_40, x11_41, x11_42, x11_43, x11_44, x11_45, x11_48, x11_51, x11_52, x11_53, x11_54, x11_57, x11_58, ↓reduceIte, true_and, and_true, if_true, if_false, ne_eq, not_false_eq_true, am_u_at, am_nb0, am_nb1, am_fb0, am_fb1, am_kc_i, am_kc_r, am_kc_l, am_kc_n, am_wsum_n, am_wsum_i, am_wsum_r, am_wsum_l, am_rs_s, am_rs_n, n_c0, n_c1, n_c2, n_c3, n_c4, n_c5, n_c6, n_c7, n_c8, n_c9, n_c10, n_c11, n_c12, n_c14, n_c16, n_c18, n_c20, n_c24, n_c30, n_c31, n_c32, n_c36, n_c48, n_c57, n_c60, n_c63, n_c70, n_c75, n_c97, n_c100, n_c101, n_c104, n_c115, n_c116, n_c59, n_c150, n_c199, n_c200, n_c201, n_c216, n_c255, n_c256, n_c999, n_c1296, n_c4095, n_c6480, n_c100000, n_c1000, n_c65536, n_le, n_lt0, n_lt, n_eq, n_cl, n_add, n_sub, n_mul, n_div, n_rem, n_mo, n_in, n_nb0, n_nb1, n_fb0, n_fb1, n_vb0, n_vb1, P1, PX3.1, PX3.2.1, PX3.2.2, t4, w]
  | 1, _ =>
    have e : v_nr (r_lw sg 1 t f) = v_nr (r_nr sg f (sg 0 0)) := by
      unfold r_lw
      rw [if_neg (by omega), if_pos rfl]
    rw [e]
    simp +decide (disch := omega) only [xe11, x11_0, x11_1, x11_28, x11_29, x11_32, x11_33, x11_34, x11_35, x11_36, x11_37, x11_40, x11_41, x11_42, x11_43, x11_44, x11_45, x11_48, x11_51, x11_52, x11_53, x11_54, x11_57, x11_58, ↓reduceIte, true_and, and_true, if_true, if_false, ne_eq, not_false_eq_true, am_u_at, am_nb0, am_nb1, am_fb0, am_fb1, am_kc_i, am_kc_r, am_kc_l, am_kc_n, am_wsum_n, am_wsum_i, am_wsum_r, am_wsum_l, am_rs_s, am_rs_n, n_c0, n_c1, n_c2, n_c3, n_c4, n_c5, n_c6, n_c7, n_c8, n_c9, n_c10, n_c11, n_c12, n_c14, n_c16, n_c18, n_c20, n_c24, n_c30, n_c31, n_c32, n_c36, n_c48, n_c57, n_c60, n_c63, n_c70, n_c75, n_c97, n_c100, n_c101, n_c104, n_c115, n_c116, n_c59, n_c150, n_c199, n_c200, n_c201, n_c216, n_c255, n_c256, n_c999, n_c1296, n_c4095, n_c6480, n_c100000, n_c1000, n_c65536, n_le, n_lt0, n_lt, n_eq, n_cl, n_add, n_sub, n_mul, n_div, n_rem, n_mo, n_in, n_nb0, n_nb1, n_fb0, n_fb1, n_vb0, n_vb1, P1]
    rw [s17 hd hV g0 hf (fun i hi => ⟨(gs i hi).1, (gs i hi).2.1⟩) gz]
    simp +decide (disch := omega) only [xe11, x11_0, x11_1, x11_28, x11_29, x11_32, x11_33, x11_34, x11_35, x11_36, x11_37, x11_40, x11_41, x11_42, x11_43, x11_44, x11_45, x11_48, x11_51, x11_52, x11_53, x11_54, x11_57, x11_58, ↓reduceIte, true_and, and_true, if_true, if_false, ne_eq, not_false_eq_true, am_u_at, am_nb0, am_nb1, am_fb0, am_fb1, am_kc_i, am_kc_r, am_kc_l, am_kc_n, am_wsum_n, am_wsum_i, am_wsum_r, am_wsum_l, am_rs_s, am_rs_n, n_c0, n_c1, n_c2, n_c3, n_c4, n_c5, n_c6, n_c7, n_c8, n_c9, n_c10, n_c11, n_c12, n_c14, n_c16, n_c18, n_c20, n_c24, n_c30, n_c31, n_c32, n_c36, n_c48, n_c57, n_c60, n_c63, n_c70, n_c75, n_c97, n_c100, n_c101, n_c104, n_c115, n_c116, n_c59, n_c150, n_c199, n_c200, n_c201, n_c216, n_c255, n_c256, n_c999, n_c1296, n_c4095, n_c6480, n_c100000, n_c1000, n_c65536, n_le, n_lt0, n_lt, n_eq, n_cl, n_add, n_sub, n_mul, n_div, n_rem, n_mo, n_in, n_nb0, n_nb1, n_fb0, n_fb1, n_vb0, n_vb1, P1]
  | 2, _ =>
    by_cases hc : f + 1 < sg 0 0
    · have e : v_nr (r_lw sg 2 t f) = nI (f + 1) := by
        have e0 : r_lw sg 2 t f = f + 1 := by unfold r_lw; simp [hc]
        rw [e0]; unfold v_nr; rw [if_neg (by omega)]
      have c2 : ¬ sg 0 0 ≤ f + 1 := by omega
      rw [e]
      simp +decide (disch := omega) only [xe11, x11_0, x11_1, x11_28, x11_29, x11_32, x11_33, x11_34, x11_35, x11_36, x11_37, x11_40, x11_41, x11_42, x11_43, x11_44, x11_45, x11_48, x11_51, x11_52, x11_53, x11_54, x11_57, x11_58, ↓reduceIte, true_and, and_true, if_true, if_false, ne_eq, not_false_eq_true, am_u_at, am_nb0, am_nb1, am_fb0, am_fb1, am_kc_i, am_kc_r, am_kc_l, am_kc_n, am_wsum_n, am_wsum_i, am_wsum_r, am_wsum_l, am_rs_s, am_rs_n, n_c0, n_c1, n_c2, n_c3, n_c4, n_c5, n_c6, n_c7, n_c8, n_c9, n_c10, n_c11, n_c12, n_c14, n_c16, n_c18, n_c20, n_c24, n_c30, n_c31, n_c32, n_c36, n_c48, n_c57, n_c60, n_c63, n_c70, n_c75, n_c97, n_c100, n_c101, n_c104, n_c115, n_c116, n_c59, n_c150, n_c199, n_c200, n_c201, n_c216, n_c255, n_c256, n_c999, n_c1296, n_c4095, n_c6480, n_c100000, n_c1000, n_c65536, n_le, n_lt0, n_lt, n_eq, n_cl, n_add, n_sub, n_mul, n_div, n_rem, n_mo, n_in, n_nb0, n_nb1, n_fb0, n_fb1, n_vb0, n_vb1, P1, g0, c2]
    · have e : v_nr (r_lw sg 2 t f) = nI 0 := by
        have e0 : r_lw sg 2 t f = 0 := by unfold r_lw; simp [hc]
        rw [e0]; unfold v_nr; rw [if_neg (by omega)]
      have c2 : sg 0 0 ≤ f + 1 := by omega
      rw [e]
      simp +decide (disch := omega) only [xe11, x11_0, x11_1, x11_28, x11_29, x11_32, x11_33, x11_34, x11_35, x11_36, x11_37, x11_40, x11_41, x11_42, x11_43, x11_44, x11_45, x11_48, x11_51, x11_52, x11_53, x11_54, x11_57, x11_58, ↓reduceIte, true_and, and_true, if_true, if_false, ne_eq, not_false_eq_true, am_u_at, am_nb0, am_nb1, am_fb0, am_fb1, am_kc_i, am_kc_r, am_kc_l, am_kc_n, am_wsum_n, am_wsum_i, am_wsum_r, am_wsum_l, am_rs_s, am_rs_n, n_c0, n_c1, n_c2, n_c3, n_c4, n_c5, n_c6, n_c7, n_c8, n_c9, n_c10, n_c11, n_c12, n_c14, n_c16, n_c18, n_c20, n_c24, n_c30, n_c31, n_c32, n_c36, n_c48, n_c57, n_c60, n_c63, n_c70, n_c75, n_c97, n_c100, n_c101, n_c104, n_c115, n_c116, n_c59, n_c150, n_c199, n_c200, n_c201, n_c216, n_c255, n_c256, n_c999, n_c1296, n_c4095, n_c6480, n_c100000, n_c1000, n_c65536, n_le, n_lt0, n_lt, n_eq, n_cl, n_add, n_sub, n_mul, n_div, n_rem, n_mo, n_in, n_nb0, n_nb1, n_fb0, n_fb1, n_vb0, n_vb1, P1, g0, c2]
  | n + 3, hl => exact absurd hl (by omega)
theorem l10 {law : Nat} (rH : r_H I sg h) (rC : r_C I sg) (hl : law < 3) : ∀ m k, k + m = sg 12 0 → r_fa sg law k = 1 →
    (Ex 10 2 [some (.ref 46), some (.ref h), some (.int (nI law)), some (.int (nI k))] [] I L (am_PT h s) (am_S1 Lx) Q ↔ Q (some (.int (nI (r_fa sg law (sg 12 0))))) I L (am_PT h s) (am_S1 Lx)) := by
  obtain ⟨-, -, -, -, u1, u2, -, u3⟩ := id rC
  have hV := rH.2.1
  intro m
  induction m with
  | zero =>
    intro k hk hf
    obtain rfl : k = sg 12 0 := by omega
    rw [hf]
    simp +decide (disch := omega) only [xe10, x10_0, x10_1, x10_2, x10_3, x10_4, x10_7, x10_10, x10_11, x10_14, x10_15, x10_16, x10_17, x10_18, x10_19, x10_22, x10_23, x10_24, x10_25, x10_28, x10_29, x10_30, x10_33, x10_36, x10_37, x10_38, x10_41, x10_44, x10_45, ↓reduceIte, true_and, and_true, if_true, if_false, ne_eq, not_false_eq_true, am_u_at, am_nb0, am_nb1, am_fb0, am_fb1, am_kc_i, am_kc_r, am_kc_l, am_kc_n, am_wsum_n, am_wsum_i, am_wsum_r, am_wsum_l, am_rs_s, am_rs_n, am_S1_1, am_S1_2, am_S1_3, am_S1_4, am_S1_5, am_S1_6, am_S1_7, am_S1_8, am_S1_9, am_S1_10, am_S1_11, am_S1_12, am_S1_13, am_S1_14, am_S1_15, am_S1_16, am_S1_17, am_S1_18, am_S1_19, am_S1_20, am_S1_21, am_S1_22, am_S1_23, am_S1_24, am_S1_25, am_S1_26, am_S1_27, am_S1_28, am_S1_29, am_S1_30, am_S1_31, am_S1_32, am_S1_33, am_S1_34, am_S1_35, am_S1_36, am_S1_37, am_S1_38, am_S1_39, am_S1_40, am_S1_41, am_S1_42, am_S1_43, am_S1_44, am_S1_45, am_S1_46, am_S1_47, am_S1_48, am_S1_49, am_S1_50, am_S1_51, am_S1_52, am_S1_53, am_S1_54, am_S1_55, am_S1_56, am_S1_57, am_S1_58, am_S1_59, am_S1_60, am_S1_61, am_S1_62, am_S1_63, am_S1_64, am_S1_65, am_S1_66, am_S1_67, am_S1_68, am_S1_69, am_S1_70, am_S1_71, am_S1_72, am_S1_73, am_S1_74, am_S1_75, am_S1_76, am_S1_77, am_PT_3_1, am_PT_3_2, am_PT_3_0, am_PT_3_3, am_PT_3_4, am_PT_3_5, am_PT_3_6, am_PT_3_7, am_PT_3_8, am_PT_3_9, am_PT_3_10, am_PT_4_0, am_PT_6_6, am_PT_6_7, am_PT_6_8, am_PT_6_9, am_PT_6_10, am_PT_6_11, am_PT_13_6, am_PT_13_7, am_PT_13_8, am_PT_13_9, am_PT_13_10, am_PT_13_11, am_PT_20_3, am_PT_22_0, am_PT_23_0, am_PT_23_1, am_PT_23_2, am_PT_23_3, am_PT_23_4, am_PT_23_5, am_PT_23_6, am_PT_23_7, am_PT_23_8, am_PT_23_9, am_PT_24_3, am_PT_26_3, am_PT_28_3, am_PT_30_3, am_PT_32_3, am_PT_34_3, am_PT_36_3, am_PT_38_3, am_PT_40_3, am_PT_42_3, am_PT_44_0, am_PT_44_1, am_PT_46_2, am_PT_46_3, am_PT_46_4, am_PT_46_5, am_PT_51_0, am_PT_51_1, am_PT_51_2, am_PT_51_3, am_PT_51_4, am_PT_59_3, am_PT_61_3, am_PT_63_1, am_PT_63_3, am_PT_63_6, am_PT_63_7, am_PT_63_9, am_PT_63_10, am_PT_63_12, am_PT_63_14, am_PT_63_16, am_PT_63_25, am_PT_63_27, am_PT_63_30, am_PT_63_36, am_PT_63_37, n_c0, n_c1, n_c2, n_c3, n_c4, n_c5, n_c6, n_c7, n_c8, n_c9, n_c10, n_c11, n_c12, n_c14, n_c16, n_c18, n_c20, n_c24, n_c30, n_c31, n_c32, n_c36, n_c48, n_c57, n_c60, n_c63, n_c70, n_c75, n_c97, n_c100, n_c101, n_c104, n_c115, n_c116, n_c59, n_c150, n_c199, n_c200, n_c201, n_c216, n_c255, n_c256, n_c999, n_c1296, n_c4095, n_c6480, n_c100000, n_c1000, n_c65536, n_le, n_lt0, n_lt, n_eq, n_cl, n_add, n_sub, n_mul, n_div, n_rem, n_mo, n_in, n_nb0, n_nb1, n_fb0, n_fb1, n_vb0, n_vb1, u2, Nat.le_refl]
  | succ m ih =>
    intro k hk hf
    have c1 : ¬ sg 12 0 ≤ k := by omega
    have c2 : k < 6 := by omega
    obtain ⟨⟨a1, a2, a3⟩, a4, a5, a6, -⟩ := u3 k (by omega)
    have e11 := fun Q => s11 (Q := Q) (L := L) (s := s) (Lx := Lx) rH hl a1 a2
    have v0 := hV.1
    have e := v_nr_eq (a := sg 15 k) (x := r_lw sg law (sg 13 k) (sg 14 k)) (by omega) (r_lw_lt hV a1 a2)
    rw [x10_2]
    by_cases hc : sg 15 k = r_lw sg law (sg 13 k) (sg 14 k)
    · have ih2 := ih (k + 1) (by omega) (by simp only [r_fa, hf]; simp [hc])
      simp +decide (disch := omega) only [x10_3, x10_4, x10_7, x10_10, x10_11, x10_14, x10_15, x10_16, x10_17, x10_18, x10_19, x10_22, x10_23, x10_24, x10_25, x10_28, x10_29, x10_30, x10_33, x10_36, x10_37, x10_38, x10_41, x10_44, x10_45, ↓reduceIte, true_and, and_true, if_true, if_false, ne_eq, not_false_eq_true, am_u_at, am_nb0, am_nb1, am_fb0, am_fb1, am_kc_i, am_kc_r, am_kc_l, am_kc_n, am_wsum_n, am_wsum_i, am_wsum_r, am_wsum_l, am_rs_s, am_rs_n, am_S1_1, am_S1_2, am_S1_3, am_S1_4, am_S1_5, am_S1_6, am_S1_7, am_S1_8, am_S1_9, am_S1_10, am_S1_11, am_S1_12, am_S1_13, am_S1_14, am_S1_15, am_S1_16, am_S1_17, am_S1_18, am_S1_19, am_S1_20, am_S1_21, am_S1_22, am_S1_23, am_S1_24, am_S1_25, am_S1_26, am_S1_27, am_S1_28, am_S1_29, am_S1_30, am_S1_31, am_S1_32, am_S1_33, am_S1_34, am_S1_35, am_S1_36, am_S1_37, am_S1_38, am_S1_39, am_S1_40, am_S1_41, am_S1_42, am_S1_43, am_S1_44, am_S1_45, am_S1_46, am_S1_47, am_S1_48, am_S1_49, am_S1_50, am_S1_51, am_S1_52, am_S1_53, am_S1_54, am_S1_55, am_S1_56, am_S1_57, am_S1_58, am_S1_59, am_S1_60, am_S1_61, am_S1_62, am_S1_63, am_S1_64, am_S1_65, am_S1_66, am_S1_67, am_S1_68, am_S1_69, am_S1_70, am_S1_71, am_S1_72, am_S1_73, am_S1_74, am_S1_75, am_S1_76, am_S1_77, am_PT_3_1, am_PT_3_2, am_PT_3_0, am_PT_3_3, am_PT_3_4, am_PT_3_5, am_PT_3_6, am_PT_3_7, am_PT_3_8, am_PT_3_9, am_PT_3_10, am_PT_4_0, am_PT_6_6, am_PT_6_7, am_PT_6_8, am_PT_6_9, am_PT_6_10, am_PT_6_11, am_PT_13_6, am_PT_13_7, am_PT_13_8, am_PT_13_9, am_PT_13_10, am_PT_13_11, am_PT_20_3, am_PT_22_0, am_PT_23_0, am_PT_23_1, am_PT_23_2, am_PT_23_3, am_PT_23_4, am_PT_23_5, am_PT_23_6, am_PT_23_7, am_PT_23_8, am_PT_23_9, am_PT_24_3, am_PT_26_3, am_PT_28_3, am_PT_30_3, am_PT_32_3, am_PT_34_3, am_PT_36_3, am_PT_38_3, am_PT_40_3, am_PT_42_3, am_PT_44_0, am_PT_44_1, am_PT_46_2, am_PT_46_3, am_PT_46_4, am_PT_46_5, am_PT_51_0, am_PT_51_1, am_PT_51_2, am_PT_51_3, am_PT_51_4, am_PT_59_3, am_PT_61_3, am_PT_63_1, am_PT_63_3, am_PT_63_6, am_PT_63_7, am_PT_63_9, am_PT_63_10, am_PT_63_12, am_PT_63_14, am_PT_63_16, am_PT_63_25, am_PT_63_27, am_PT_63_30, am_PT_63_36, am_PT_63_37, n_c0, n_c1, n_c2, n_c3, n_c4, n_c5, n_c6, n_c7, n_c8, n_c9, n_c10, n_c11, n_c12, n_c14, n_c16, n_c18, n_c20, n_c24, n_c30, n_c31, n_c32, n_c36, n_c48, n_c57, n_c60, n_c63, n_c70, n_c75, n_c97, n_c100, n_c101, n_c104, n_c115, n_c116, n_c59, n_c150, n_c199, n_c200, n_c201, n_c216, n_c255, n_c256, n_c999, n_c1296, n_c4095, n_c6480, n_c100000, n_c1000, n_c65536, n_le, n_lt0, n_lt, n_eq, n_cl, n_add, n_sub, n_mul, n_div, n_rem, n_mo, n_in, n_nb0, n_nb1, n_fb0, n_fb1, n_vb0, n_vb1, u2, c1, c2, a4, a5, a6, e11, e.trans (eq_true hc)]
      exact ih2
    · have e0 : r_fa sg law (sg 12 0) = 0 := r_fa_0 (k := k + 1) (by simp only [r_fa]; simp [hc]) _ (by omega)
      rw [e0]
      simp +decide (disch := omega) only [x10_3, x10_4, x10_7, x10_10, x10_11, x10_14, x10_15, x10_16, x10_17, x10_18, x10_19, x10_22, x10_23, x10_24, x10_25, x10_28, x10_29, x10_30, x10_33, x10_36, x10_37, x10_38, x10_41, x10_44, x10_45, ↓reduceIte, true_and, and_true, if_true, if_false, ne_eq, not_false_eq_true, am_u_at, am_nb0, am_nb1, am_fb0, am_fb1, am_kc_i, am_kc_r, am_kc_l, am_kc_n, am_wsum_n, am_wsum_i, am_wsum_r, am_wsum_l, am_rs_s, am_rs_n, am_S1_1, am_S1_2, am_S1_3, am_S1_4, am_S1_5, am_S1_6, am_S1_7, am_S1_8, am_S1_9, am_S1_10, am_S1_11, am_S1_12, am_S1_13, am_S1_14, am_S1_15, am_S1_16, am_S1_17, am_S1_18, am_S1_19, am_S1_20, am_S1_21, am_S1_22, am_S1_23, am_S1_24, am_S1_25, am_S1_26, am_S1_27, am_S1_28, am_S1_29, am_S1_30, am_S1_31, am_S1_32, am_S1_33, am_S1_34, am_S1_35, am_S1_36, am_S1_37, am_S1_38, am_S1_39, am_S1_40, am_S1_41, am_S1_42, am_S1_43, am_S1_44, am_S1_45, am_S1_46, am_S1_47, am_S1_48, am_S1_49, am_S1_50, am_S1_51, am_S1_52, am_S1_53, am_S1_54, am_S1_55, am_S1_56, am_S1_57, am_S1_58, am_S1_59, am_S1_60, am_S1_61, am_S1_62, am_S1_63, am_S1_64, am_S1_65, am_S1_66, am_S1_67, am_S1_68, am_S1_69, am_S1_70, am_S1_71, am_S1_72, am_S1_73, am_S1_74, am_S1_75, am_S1_76, am_S1_77, am_PT_3_1, am_PT_3_2, am_PT_3_0, am_PT_3_3, am_PT_3_4, am_PT_3_5, am_PT_3_6, am_PT_3_7, am_PT_3_8, am_PT_3_9, am_PT_3_10, am_PT_4_0, am_PT_6_6, am_PT_6_7, am_PT_6_8, am_PT_6_9, am_PT_6_10, am_PT_6_11, am_PT_13_6, am_PT_13_7, am_PT_13_8, am_PT_13_9, am_PT_13_10, am_PT_13_11, am_PT_20_3, am_PT_22_0, am_PT_23_0, am_PT_23_1, am_PT_23_2, am_PT_23_3, am_PT_23_4, am_PT_23_5, am_PT_23_6, am_PT_23_7, am_PT_23_8, am_PT_23_9, am_PT_24_3, am_PT_26_3, am_PT_28_3, am_PT_30_3, am_PT_32_3, am_PT_34_3, am_PT_36_3, am_PT_38_3, am_PT_40_3, am_PT_42_3, am_PT_44_0, am_PT_44_1, am_PT_46_2, am_PT_46_3, am_PT_46_4, am_PT_46_5, am_PT_51_0, am_PT_51_1, am_PT_51_2, am_PT_51_3, am_PT_51_4, am_PT_59_3, am_PT_61_3, am_PT_63_1, am_PT_63_3, am_PT_63_6, am_PT_63_7, am_PT_63_9, am_PT_63_10, am_PT_63_12, am_PT_63_14, am_PT_63_16, am_PT_63_25, am_PT_63_27, am_PT_63_30, am_PT_63_36, am_PT_63_37, n_c0, n_c1, n_c2, n_c3, n_c4, n_c5, n_c6, n_c7, n_c8, n_c9, n_c10, n_c11, n_c12, n_c14, n_c16, n_c18, n_c20, n_c24, n_c30, n_c31, n_c32, n_c36, n_c48, n_c57, n_c60, n_c63, n_c70, n_c75, n_c97, n_c100, n_c101, n_c104, n_c115, n_c116, n_c59, n_c150, n_c199, n_c200, n_c201, n_c216, n_c255, n_c256, n_c999, n_c1296, n_c4095, n_c6480, n_c100000, n_c1000, n_c65536, n_le, n_lt0, n_lt, n_eq, n_cl, n_add, n_sub, n_mul, n_div, n_rem, n_mo, n_in, n_nb0, n_nb1, n_fb0, n_fb1, n_vb0, n_vb1, u2, c1, c2, a4, a5, a6, e11, e.trans (eq_false hc)]
theorem r_fa_le {law : Nat} (sg : am_G0) : ∀ n, r_fa sg law n ≤ 1
  | 0 => Nat.le_refl _
  | n + 1 => by simp only [r_fa]; split <;> omega
theorem l9 (rH : r_H I sg h) (rC : r_C I sg) : ∀ m k, k + m = 3 →
    (Ex 9 4 [some (.ref 46), some (.ref h), some (.int (nI (r_bt (fun law => r_fa sg law (sg 12 0)) k))), some (.int (nI k))] [] I L (am_PT h s) (am_S1 Lx) Q ↔ Q (some (.int (nI (r_bt (fun law => r_fa sg law (sg 12 0)) 3)))) I L (am_PT h s) (am_S1 Lx)) := by
  intro m
  induction m with
  | zero =>
    intro k hk
    obtain rfl : k = 3 := by omega
    simp +decide (disch := omega) only [xe9, x9_0, x9_1, x9_2, x9_3, x9_4, x9_5, x9_6, x9_9, x9_10, x9_11, x9_12, x9_15, x9_18, x9_19, x9_20, x9_21, x9_22, x9_23, x9_24, x9_27, x9_30, x9_31, ↓reduceIte, true_and, and_true, if_true, if_false, ne_eq, not_false_eq_true, am_u_at, am_nb0, am_nb1, am_fb0, am_fb1, am_kc_i, am_kc_r, am_kc_l, am_kc_n, am_wsum_n, am_wsum_i, am_wsum_r, am_wsum_l, am_rs_s, am_rs_n, n_c0, n_c1, n_c2, n_c3, n_c4, n_c5, n_c6, n_c7, n_c8, n_c9, n_c10, n_c11, n_c12, n_c14, n_c16, n_c18, n_c20, n_c24, n_c30, n_c31, n_c32, n_c36, n_c48, n_c57, n_c60, n_c63, n_c70, n_c75, n_c97, n_c100, n_c101, n_c104, n_c115, n_c116, n_c59, n_c150, n_c199, n_c200, n_c201, n_c216, n_c255, n_c256, n_c999, n_c1296, n_c4095, n_c6480, n_c100000, n_c1000, n_c65536, n_le, n_lt0, n_lt, n_eq, n_cl, n_add, n_sub, n_mul, n_div, n_rem, n_mo, n_in, n_nb0, n_nb1, n_fb0, n_fb1, n_vb0, n_vb1, Nat.le_refl]
  | succ m ih =>
    intro k hk
    have c1 : ¬ 3 ≤ k := by omega
    have e10 := fun Q => l10 (Q := Q) (L := L) (s := s) (Lx := Lx) rH rC (law := k) (by omega) (sg 12 0) 0 (by omega) rfl
    have hf : ∀ t, (fun law => r_fa sg law (sg 12 0)) t ≤ 1 := fun t => r_fa_le sg _
    have e := r_bt_or hf k
    have ih2 := ih (k + 1) (by omega)
    simp only [r_bt] at ih2
    have c3 : 1 * 2 ^ k < 4294967296 := by
      have : 2 ^ k < 2 ^ 4 := Nat.pow_lt_pow_right (by omega) (by omega)
      omega
    rw [x9_4]
    have h1 := r_fa_le (law := k) sg (sg 12 0)
    by_cases hc : r_fa sg k (sg 12 0) = 1
    · simp only [hc] at ih2
      simp +decide (disch := first | omega | exact c3) only [x9_5, x9_6, x9_9, x9_10, x9_11, x9_12, x9_15, x9_18, x9_19, x9_20, x9_21, x9_22, x9_23, x9_24, x9_27, x9_30, x9_31, xe10, x10_0, x10_1, ↓reduceIte, true_and, and_true, if_true, if_false, ne_eq, not_false_eq_true, am_u_at, am_nb0, am_nb1, am_fb0, am_fb1, am_kc_i, am_kc_r, am_kc_l, am_kc_n, am_wsum_n, am_wsum_i, am_wsum_r, am_wsum_l, am_rs_s, am_rs_n, am_S1_1, am_S1_2, am_S1_3, am_S1_4, am_S1_5, am_S1_6, am_S1_7, am_S1_8, am_S1_9, am_S1_10, am_S1_11, am_S1_12, am_S1_13, am_S1_14, am_S1_15, am_S1_16, am_S1_17, am_S1_18, am_S1_19, am_S1_20, am_S1_21, am_S1_22, am_S1_23, am_S1_24, am_S1_25, am_S1_26, am_S1_27, am_S1_28, am_S1_29, am_S1_30, am_S1_31, am_S1_32, am_S1_33, am_S1_34, am_S1_35, am_S1_36, am_S1_37, am_S1_38, am_S1_39, am_S1_40, am_S1_41, am_S1_42, am_S1_43, am_S1_44, am_S1_45, am_S1_46, am_S1_47, am_S1_48, am_S1_49, am_S1_50, am_S1_51, am_S1_52, am_S1_53, am_S1_54, am_S1_55, am_S1_56, am_S1_57, am_S1_58, am_S1_59, am_S1_60, am_S1_61, am_S1_62, am_S1_63, am_S1_64, am_S1_65, am_S1_66, am_S1_67, am_S1_68, am_S1_69, am_S1_70, am_S1_71, am_S1_72, am_S1_73, am_S1_74, am_S1_75, am_S1_76, am_S1_77, am_PT_3_1, am_PT_3_2, am_PT_3_0, am_PT_3_3, am_PT_3_4, am_PT_3_5, am_PT_3_6, am_PT_3_7, am_PT_3_8, am_PT_3_9, am_PT_3_10, am_PT_4_0, am_PT_6_6, am_PT_6_7, am_PT_6_8, am_PT_6_9, am_PT_6_10, am_PT_6_11, am_PT_13_6, am_PT_13_7, am_PT_13_8, am_PT_13_9, am_PT_13_10, am_PT_13_11, am_PT_20_3, am_PT_22_0, am_PT_23_0, am_PT_23_1, am_PT_23_2, am_PT_23_3, am_PT_23_4, am_PT_23_5, am_PT_23_6, am_PT_23_7, am_PT_23_8, am_PT_23_9, am_PT_24_3, am_PT_26_3, am_PT_28_3, am_PT_30_3, am_PT_32_3, am_PT_34_3, am_PT_36_3, am_PT_38_3, am_PT_40_3, am_PT_42_3, am_PT_44_0, am_PT_44_1, am_PT_46_2, am_PT_46_3, am_PT_46_4, am_PT_46_5, am_PT_51_0, am_PT_51_1, am_PT_51_2, am_PT_51_3, am_PT_51_4, am_PT_59_3, am_PT_61_3, am_PT_63_1, am_PT_63_3, am_PT_63_6, am_PT_63_7, am_PT_63_9, am_PT_63_10, am_PT_63_12, am_PT_63_14, am_PT_63_16, am_PT_63_25, am_PT_63_27, am_PT_63_30, am_PT_63_36, am_PT_63_37, n_c0, n_c1, n_c2, n_c3, n_c4, n_c5, n_c6, n_c7, n_c8, n_c9, n_c10, n_c11, n_c12, n_c14, n_c16, n_c18, n_c20, n_c24, n_c30, n_c31, n_c32, n_c36, n_c48, n_c57, n_c60, n_c63, n_c70, n_c75, n_c97, n_c100, n_c101, n_c104, n_c115, n_c116, n_c59, n_c150, n_c199, n_c200, n_c201, n_c216, n_c255, n_c256, n_c999, n_c1296, n_c4095, n_c6480, n_c100000, n_c1000, n_c65536, n_le, n_lt0, n_lt, n_eq, n_cl, n_add, n_sub, n_mul, n_div, n_rem, n_mo, n_in, n_nb0, n_nb1, n_fb0, n_fb1, n_vb0, n_vb1, c1, e10, hc, n_shl, n_or, e]
      exact ih2
    · have hc0 : r_fa sg k (sg 12 0) = 0 := by omega
      simp only [hc0, Nat.zero_mul, Nat.add_zero] at ih2
      simp +decide (disch := first | omega | exact c3) only [x9_5, x9_6, x9_9, x9_10, x9_11, x9_12, x9_15, x9_18, x9_19, x9_20, x9_21, x9_22, x9_23, x9_24, x9_27, x9_30, x9_31, xe10, x10_0, x10_1, ↓reduceIte, true_and, and_true, if_true, if_false, ne_eq, not_false_eq_true, am_u_at, am_nb0, am_nb1, am_fb0, am_fb1, am_kc_i, am_kc_r, am_kc_l, am_kc_n, am_wsum_n, am_wsum_i, am_wsum_r, am_wsum_l, am_rs_s, am_rs_n, am_S1_1, am_S1_2, am_S1_3, am_S1_4, am_S1_5, am_S1_6, am_S1_7, am_S1_8, am_S1_9, am_S1_10, am_S1_11, am_S1_12, am_S1_13, am_S1_14, am_S1_15, am_S1_16, am_S1_17, am_S1_18, am_S1_19, am_S1_20, am_S1_21, am_S1_22, am_S1_23, am_S1_24, am_S1_25, am_S1_26, am_S1_27, am_S1_28, am_S1_29, am_S1_30, am_S1_31, am_S1_32, am_S1_33, am_S1_34, am_S1_35, am_S1_36, am_S1_37, am_S1_38, am_S1_39, am_S1_40, am_S1_41, am_S1_42, am_S1_43, am_S1_44, am_S1_45, am_S1_46, am_S1_47, am_S1_48, am_S1_49, am_S1_50, am_S1_51, am_S1_52, am_S1_53, am_S1_54, am_S1_55, am_S1_56, am_S1_57, am_S1_58, am_S1_59, am_S1_60, am_S1_61, am_S1_62, am_S1_63, am_S1_64, am_S1_65, am_S1_66, am_S1_67, am_S1_68, am_S1_69, am_S1_70, am_S1_71, am_S1_72, am_S1_73, am_S1_74, am_S1_75, am_S1_76, am_S1_77, am_PT_3_1, am_PT_3_2, am_PT_3_0, am_PT_3_3, am_PT_3_4, am_PT_3_5, am_PT_3_6, am_PT_3_7, am_PT_3_8, am_PT_3_9, am_PT_3_10, am_PT_4_0, am_PT_6_6, am_PT_6_7, am_PT_6_8, am_PT_6_9, am_PT_6_10, am_PT_6_11, am_PT_13_6, am_PT_13_7, am_PT_13_8, am_PT_13_9, am_PT_13_10, am_PT_13_11, am_PT_20_3, am_PT_22_0, am_PT_23_0, am_PT_23_1, am_PT_23_2, am_PT_23_3, am_PT_23_4, am_PT_23_5, am_PT_23_6, am_PT_23_7, am_PT_23_8, am_PT_23_9, am_PT_24_3, am_PT_26_3, am_PT_28_3, am_PT_30_3, am_PT_32_3, am_PT_34_3, am_PT_36_3, am_PT_38_3, am_PT_40_3, am_PT_42_3, am_PT_44_0, am_PT_44_1, am_PT_46_2, am_PT_46_3, am_PT_46_4, am_PT_46_5, am_PT_51_0, am_PT_51_1, am_PT_51_2, am_PT_51_3, am_PT_51_4, am_PT_59_3, am_PT_61_3, am_PT_63_1, am_PT_63_3, am_PT_63_6, am_PT_63_7, am_PT_63_9, am_PT_63_10, am_PT_63_12, am_PT_63_14, am_PT_63_16, am_PT_63_25, am_PT_63_27, am_PT_63_30, am_PT_63_36, am_PT_63_37, n_c0, n_c1, n_c2, n_c3, n_c4, n_c5, n_c6, n_c7, n_c8, n_c9, n_c10, n_c11, n_c12, n_c14, n_c16, n_c18, n_c20, n_c24, n_c30, n_c31, n_c32, n_c36, n_c48, n_c57, n_c60, n_c63, n_c70, n_c75, n_c97, n_c100, n_c101, n_c104, n_c115, n_c116, n_c59, n_c150, n_c199, n_c200, n_c201, n_c216, n_c255, n_c256, n_c999, n_c1296, n_c4095, n_c6480, n_c100000, n_c1000, n_c65536, n_le, n_lt0, n_lt, n_eq, n_cl, n_add, n_sub, n_mul, n_div, n_rem, n_mo, n_in, n_nb0, n_nb1, n_fb0, n_fb1, n_vb0, n_vb1, c1, e10, hc0, n_shl, n_or, e]
      exact ih2
theorem r_lw7 (sg : am_G0) (k : Nat) : r_bt (fun law => r_fa sg law (k + 1)) 3 = r_bt (fun law => r_fa sg law k) 3 &&& (if sg 15 k = r_lw sg 0 (sg 13 k) (sg 14 k) then 7 else 6) &&& (if sg 15 k = r_lw sg 1 (sg 13 k) (sg 14 k) then 7 else 5) &&& (if sg 15 k = r_lw sg 2 (sg 13 k) (sg 14 k) then 7 else 3) := by
  have h0 := r_fa_le (law := 0) sg k
  have h1 := r_fa_le (law := 1) sg k
  have h2 := r_fa_le (law := 2) sg k
  simp only [r_bt, r_fa]
  generalize r_fa sg 0 k = a at *
  generalize r_fa sg 1 k = b at *
  generalize r_fa sg 2 k = c at *
  have ha : a = 0 ∨ a = 1 := by omega
  have hb : b = 0 ∨ b = 1 := by omega
  have hc : c = 0 ∨ c = 1 := by omega
  have em : ∀ p : Prop, p = True ∨ p = False := fun p => (Classical.em p).imp eq_true eq_false
  rcases em (sg 15 k = r_lw sg 0 (sg 13 k) (sg 14 k)) with p | p <;> rcases em (sg 15 k = r_lw sg 1 (sg 13 k) (sg 14 k)) with q | q <;> rcases em (sg 15 k = r_lw sg 2 (sg 13 k) (sg 14 k)) with r | r <;> simp only [p, q, r, and_true, and_false, if_true, if_false] <;> rcases ha with rfl | rfl <;> rcases hb with rfl | rfl <;> rcases hc with rfl | rfl <;> rfl
theorem l149 (rH : r_H I sg h) (rC : r_C I sg) : ∀ m k l3 l4, k + m = sg 12 0 → ((l3 = none ∧ l4 = none) ∨ ∃ x y, l3 = some (.int x) ∧ l4 = some (.int y)) →
    (Ex 149 5 [some (.ref 63), some (.int (nI (r_bt (fun law => r_fa sg law k) 3))), some (.int (nI k)), l3, l4] [] I L (am_PT h s) (am_S1 Lx) Q ↔ Q (some (.int (nI (r_bt (fun law => r_fa sg law (sg 12 0)) 3)))) I L (am_PT h s) (am_S1 Lx)) := by
  obtain ⟨-, -, -, -, u1, -, u2, u3⟩ := id rC
  obtain ⟨hd, hV, g0, g1, g2, g3, ⟨g4, g5, g6, g7⟩, gs, gt, gz⟩ := id rH
  intro m
  induction m with
  | zero =>
    intro k l3 l4 hk hl
    obtain rfl : k = sg 12 0 := by omega
    simp +decide (disch := omega) only [xe149, x149_0, x149_2, x149_3, x149_4, x149_5, x149_6, x149_7, x149_10, x149_13, x149_14, x149_17, x149_18, x149_19, x149_20, x149_21, x149_22, x149_23, x149_24, x149_25, x149_28, x149_29, x149_30, x149_31, x149_32, x149_33, x149_34, x149_36, x149_37, x149_39, x149_40, x149_43, x149_44, x149_45, x149_48, x149_49, x149_50, x149_51, x149_52, x149_53, x149_54, x149_57, x149_59, x149_62, x149_64, x149_65, x149_66, x149_67, x149_69, x149_70, x149_71, x149_74, x149_77, x149_79, x149_82, x149_83, x149_84, x149_85, x149_86, x149_88, x149_89, x149_90, x149_91, x149_92, x149_95, x149_96, x149_99, x149_101, x149_104, x149_105, x149_106, x149_107, x149_110, x149_113, x149_114, ↓reduceIte, true_and, and_true, if_true, if_false, ne_eq, not_false_eq_true, am_u_at, am_nb0, am_nb1, am_fb0, am_fb1, am_kc_i, am_kc_r, am_kc_l, am_kc_n, am_wsum_n, am_wsum_i, am_wsum_r, am_wsum_l, am_rs_s, am_rs_n, am_S1_1, am_S1_2, am_S1_3, am_S1_4, am_S1_5, am_S1_6, am_S1_7, am_S1_8, am_S1_9, am_S1_10, am_S1_11, am_S1_12, am_S1_13, am_S1_14, am_S1_15, am_S1_16, am_S1_17, am_S1_18, am_S1_19, am_S1_20, am_S1_21, am_S1_22, am_S1_23, am_S1_24, am_S1_25, am_S1_26, am_S1_27, am_S1_28, am_S1_29, am_S1_30, am_S1_31, am_S1_32, am_S1_33, am_S1_34, am_S1_35, am_S1_36, am_S1_37, am_S1_38, am_S1_39, am_S1_40, am_S1_41, am_S1_42, am_S1_43, am_S1_44, am_S1_45, am_S1_46, am_S1_47, am_S1_48, am_S1_49, am_S1_50, am_S1_51, am_S1_52, am_S1_53, am_S1_54, am_S1_55, am_S1_56, am_S1_57, am_S1_58, am_S1_59, am_S1_60, am_S1_61, am_S1_62, am_S1_63, am_S1_64, am_S1_65, am_S1_66, am_S1_67, am_S1_68, am_S1_69, am_S1_70, am_S1_71, am_S1_72, am_S1_73, am_S1_74, am_S1_75, am_S1_76, am_S1_77, am_PT_3_1, am_PT_3_2, am_PT_3_0, am_PT_3_3, am_PT_3_4, am_PT_3_5, am_PT_3_6, am_PT_3_7, am_PT_3_8, am_PT_3_9, am_PT_3_10, am_PT_4_0, am_PT_6_6, am_PT_6_7, am_PT_6_8, am_PT_6_9, am_PT_6_10, am_PT_6_11, am_PT_13_6, am_PT_13_7, am_PT_13_8, am_PT_13_9, am_PT_13_10, am_PT_13_11, am_PT_20_3, am_PT_22_0, am_PT_23_0, am_PT_23_1, am_PT_23_2, am_PT_23_3, am_PT_23_4, am_PT_23_5, am_PT_23_6, am_PT_23_7, am_PT_23_8, am_PT_23_9, am_PT_24_3, am_PT_26_3, am_PT_28_3, am_PT_30_3, am_PT_32_3, am_PT_34_3, am_PT_36_3, am_PT_38_3, am_PT_40_3, am_PT_42_3, am_PT_44_0, am_PT_44_1, am_PT_46_2, am_PT_46_3, am_PT_46_4, am_PT_46_5, am_PT_51_0, am_PT_51_1, am_PT_51_2, am_PT_51_3, am_PT_51_4, am_PT_59_3, am_PT_61_3, am_PT_63_1, am_PT_63_3, am_PT_63_6, am_PT_63_7, am_PT_63_9, am_PT_63_10, am_PT_63_12, am_PT_63_14, am_PT_63_16, am_PT_63_25, am_PT_63_27, am_PT_63_30, am_PT_63_36, am_PT_63_37, n_c0, n_c1, n_c2, n_c3, n_c4, n_c5, n_c6, n_c7, n_c8, n_c9, n_c10, n_c11, n_c12, n_c14, n_c16, n_c18, n_c20, n_c24, n_c30, n_c31, n_c32, n_c36, n_c48, n_c57, n_c60, n_c63, n_c70, n_c75, n_c97, n_c100, n_c101, n_c104, n_c115, n_c116, n_c59, n_c150, n_c199, n_c200, n_c201, n_c216, n_c255, n_c256, n_c999, n_c1296, n_c4095, n_c6480, n_c100000, n_c1000, n_c65536, n_le, n_lt0, n_lt, n_eq, n_cl, n_add, n_sub, n_mul, n_div, n_rem, n_mo, n_in, n_nb0, n_nb1, n_fb0, n_fb1, n_vb0, n_vb1, u2, Nat.le_refl]
  | succ m ih =>
    intro k l3 l4 hk hl
    have c1 : ¬ sg 12 0 ≤ k := by omega
    have c2 : 3 * k < 18 := by omega
    have c3 : 3 * k + 1 < 18 := by omega
    have c4 : 3 * k + 2 < 18 := by omega
    obtain ⟨⟨a1, a2, a3⟩, -, -, -, a4, a5, a6⟩ := u3 k (by omega)
    have v0 := hV.1
    have v1 := hV.2.1
    have c5 : 4 * sg 13 k < 16 := by omega
    have c6 : ¬ sg 0 0 = 0 := by omega
    have w := (gt _ a1).2.2.2.2.1
    have o := (hV.2.2.2.2.2 _ a1).1
    have e148 := fun Q => s148 (Q := Q) (L := L) (h := h) (s := s) (Lx := Lx) hV g4 a2 (fun i hi => ⟨(gs i hi).2.2.1, (gs i hi).2.2.2⟩)
    have ih2 := fun x y => ih (k + 1) (some (.int x)) (some (.int y)) (by omega) (Or.inr ⟨x, y, rfl, rfl⟩)
    rw [r_lw7] at ih2
    have q0 : r_lw sg 0 (sg 13 k) (sg 14 k) = sg 3 (sg 13 k) := rfl
    have q1 : r_lw sg 1 (sg 13 k) (sg 14 k) = r_nr sg (sg 14 k) (sg 0 0) := rfl
    have q2 : r_lw sg 2 (sg 13 k) (sg 14 k) = (sg 14 k + 1) % sg 0 0 := by
      unfold r_lw
      rw [if_neg (by omega), if_neg (by omega)]
      by_cases hc : sg 14 k + 1 < sg 0 0
      · rw [if_pos hc, Nat.mod_eq_of_lt hc]
      · have : sg 14 k + 1 = sg 0 0 := by omega
        rw [if_neg hc, this, Nat.mod_self]
    have e := v_nr_eq (a := sg 15 k) (x := r_nr sg (sg 14 k) (sg 0 0)) (by omega) (q1 ▸ r_lw_lt (law := 1) hV a1 a2)
    rw [q0, q1, q2] at ih2
    have md : (sg 14 k + 1) % sg 0 0 < 4 := Nat.lt_of_lt_of_le (Nat.mod_lt _ (by omega)) v0
    rw [x149_5]
    have em : ∀ p : Prop, p = True ∨ p = False := fun p => (Classical.em p).imp eq_true eq_false
    rcases em (sg 15 k = sg 3 (sg 13 k)) with p0 | p0 <;> rcases em (sg 15 k = r_nr sg (sg 14 k) (sg 0 0)) with p1 | p1 <;> rcases em (sg 15 k = (sg 14 k + 1) % sg 0 0) with p2 | p2 <;> simp only [p0, p1, p2, if_true, if_false] at ih2 <;> rcases hl with ⟨rfl, rfl⟩ | ⟨x, y, rfl, rfl⟩ <;> simp +decide (disch := omega) only [x149_6, x149_7, x149_10, x149_13, x149_14, x149_17, x149_18, x149_19, x149_20, x149_21, x149_22, x149_23, x149_24, x149_25, x149_28, x149_29, x149_30, x149_31, x149_32, x149_33, x149_34, x149_36, x149_37, x149_39, x149_40, x149_43, x149_44, x149_45, x149_48, x149_49, x149_50, x149_51, x149_52, x149_53, x149_54, x149_57, x149_59, x149_62, x149_64, x149_65, x149_66, x149_67, x149_69, x149_70, x149_71, x149_74, x149_77, x149_79, x149_82, x149_83, x149_84, x149_85, x149_86, x149_88, x149_89, x149_90, x149_91, x149_92, x149_95, x149_96, x149_99, x149_101, x149_104, x149_105, x149_106, x149_107, x149_110, x149_113, x149_114, ↓reduceIte, true_and, and_true, if_true, if_false, ne_eq, not_false_eq_true, am_u_at, am_nb0, am_nb1, am_fb0, am_fb1, am_kc_i, am_kc_r, am_kc_l, am_kc_n, am_wsum_n, am_wsum_i, am_wsum_r, am_wsum_l, am_rs_s, am_rs_n, am_S1_1, am_S1_2, am_S1_3, am_S1_4, am_S1_5, am_S1_6, am_S1_7, am_S1_8, am_S1_9, am_S1_10, am_S1_11, am_S1_12, am_S1_13, am_S1_14, am_S1_15, am_S1_16, am_S1_17, am_S1_18, am_S1_19, am_S1_20, am_S1_21, am_S1_22, am_S1_23, am_S1_24, am_S1_25, am_S1_26, am_S1_27, am_S1_28, am_S1_29, am_S1_30, am_S1_31, am_S1_32, am_S1_33, am_S1_34, am_S1_35, am_S1_36, am_S1_37, am_S1_38, am_S1_39, am_S1_40, am_S1_41, am_S1_42, am_S1_43, am_S1_44, am_S1_45, am_S1_46, am_S1_47, am_S1_48, am_S1_49, am_S1_50, am_S1_51, am_S1_52, am_S1_53, am_S1_54, am_S1_55, am_S1_56, am_S1_57, am_S1_58, am_S1_59, am_S1_60, am_S1_61, am_S1_62, am_S1_63, am_S1_64, am_S1_65, am_S1_66, am_S1_67, am_S1_68, am_S1_69, am_S1_70, am_S1_71, am_S1_72, am_S1_73, am_S1_74, am_S1_75, am_S1_76, am_S1_77, am_PT_3_1, am_PT_3_2, am_PT_3_0, am_PT_3_3, am_PT_3_4, am_PT_3_5, am_PT_3_6, am_PT_3_7, am_PT_3_8, am_PT_3_9, am_PT_3_10, am_PT_4_0, am_PT_6_6, am_PT_6_7, am_PT_6_8, am_PT_6_9, am_PT_6_10, am_PT_6_11, am_PT_13_6, am_PT_13_7, am_PT_13_8, am_PT_13_9, am_PT_13_10, am_PT_13_11, am_PT_20_3, am_PT_22_0, am_PT_23_0, am_PT_23_1, am_PT_23_2, am_PT_23_3, am_PT_23_4, am_PT_23_5, am_PT_23_6, am_PT_23_7, am_PT_23_8, am_PT_23_9, am_PT_24_3, am_PT_26_3, am_PT_28_3, am_PT_30_3, am_PT_32_3, am_PT_34_3, am_PT_36_3, am_PT_38_3, am_PT_40_3, am_PT_42_3, am_PT_44_0, am_PT_44_1, am_PT_46_2, am_PT_46_3, am_PT_46_4, am_PT_46_5, am_PT_51_0, am_PT_51_1, am_PT_51_2, am_PT_51_3, am_PT_51_4, am_PT_59_3, am_PT_61_3, am_PT_63_1, am_PT_63_3, am_PT_63_6, am_PT_63_7, am_PT_63_9, am_PT_63_10, am_PT_63_12, am_PT_63_14, am_PT_63_16, am_PT_63_25, am_PT_63_27, am_PT_63_30, am_PT_63_36, am_PT_63_37, n_c0, n_c1, n_c2, n_c3, n_c4, n_c5, n_c6, n_c7, n_c8, n_c9, n_c10, n_c11, n_c12, n_c14, n_c16, n_c18, n_c20, n_c24, n_c30, n_c31, n_c32, n_c36, n_c48, n_c57, n_c60, n_c63, n_c70, n_c75, n_c97, n_c100, n_c101, n_c104, n_c115, n_c116, n_c59, n_c150, n_c199, n_c200, n_c201, n_c216, n_c255, n_c256, n_c999, n_c1296, n_c4095, n_c6480, n_c100000, n_c1000, n_c65536, n_le, n_lt0, n_lt, n_eq, n_cl, n_add, n_sub, n_mul, n_div, n_rem, n_mo, n_in, n_nb0, n_nb1, n_fb0, n_fb1, n_vb0, n_vb1, n_and, g4, u2, c1, c2, c3, c4, c5, c6, a4, a5, a6, w, e148, e, p0, p1, p2] <;> exact ih2 _ _
theorem op_fits (R : r_R I L sg h) : r_op 83 149 [] I L h Lx := by
  obtain ⟨rH, rN, rU, rK, rC, rT, rL, rW, rV⟩ := id R
  have P0 : am_PT h (19 - h) 3 1 = h := by rcases rH.1 with rfl | rfl <;> rfl
  have h0 : ¬ h = 0 := by have := rH.1; omega
  simp +decide (disch := omega) only [r_op, xe83, x83_0, x83_1, x83_4, x83_5, x83_8, x83_11, xe9, x9_0, x9_1, x9_2, x9_3, ↓reduceIte, true_and, and_true, if_true, if_false, ne_eq, not_false_eq_true, am_u_at, am_nb0, am_nb1, am_fb0, am_fb1, am_kc_i, am_kc_r, am_kc_l, am_kc_n, am_wsum_n, am_wsum_i, am_wsum_r, am_wsum_l, am_rs_s, am_rs_n, am_S1_1, am_S1_2, am_S1_3, am_S1_4, am_S1_5, am_S1_6, am_S1_7, am_S1_8, am_S1_9, am_S1_10, am_S1_11, am_S1_12, am_S1_13, am_S1_14, am_S1_15, am_S1_16, am_S1_17, am_S1_18, am_S1_19, am_S1_20, am_S1_21, am_S1_22, am_S1_23, am_S1_24, am_S1_25, am_S1_26, am_S1_27, am_S1_28, am_S1_29, am_S1_30, am_S1_31, am_S1_32, am_S1_33, am_S1_34, am_S1_35, am_S1_36, am_S1_37, am_S1_38, am_S1_39, am_S1_40, am_S1_41, am_S1_42, am_S1_43, am_S1_44, am_S1_45, am_S1_46, am_S1_47, am_S1_48, am_S1_49, am_S1_50, am_S1_51, am_S1_52, am_S1_53, am_S1_54, am_S1_55, am_S1_56, am_S1_57, am_S1_58, am_S1_59, am_S1_60, am_S1_61, am_S1_62, am_S1_63, am_S1_64, am_S1_65, am_S1_66, am_S1_67, am_S1_68, am_S1_69, am_S1_70, am_S1_71, am_S1_72, am_S1_73, am_S1_74, am_S1_75, am_S1_76, am_S1_77, am_PT_3_1, am_PT_3_2, am_PT_3_0, am_PT_3_3, am_PT_3_4, am_PT_3_5, am_PT_3_6, am_PT_3_7, am_PT_3_8, am_PT_3_9, am_PT_3_10, am_PT_4_0, am_PT_6_6, am_PT_6_7, am_PT_6_8, am_PT_6_9, am_PT_6_10, am_PT_6_11, am_PT_13_6, am_PT_13_7, am_PT_13_8, am_PT_13_9, am_PT_13_10, am_PT_13_11, am_PT_20_3, am_PT_22_0, am_PT_23_0, am_PT_23_1, am_PT_23_2, am_PT_23_3, am_PT_23_4, am_PT_23_5, am_PT_23_6, am_PT_23_7, am_PT_23_8, am_PT_23_9, am_PT_24_3, am_PT_26_3, am_PT_28_3, am_PT_30_3, am_PT_32_3, am_PT_34_3, am_PT_36_3, am_PT_38_3, am_PT_40_3, am_PT_42_3, am_PT_44_0, am_PT_44_1, am_PT_46_2, am_PT_46_3, am_PT_46_4, am_PT_46_5, am_PT_51_0, am_PT_51_1, am_PT_51_2, am_PT_51_3, am_PT_51_4, am_PT_59_3, am_PT_61_3, am_PT_63_1, am_PT_63_3, am_PT_63_6, am_PT_63_7, am_PT_63_9, am_PT_63_10, am_PT_63_12, am_PT_63_14, am_PT_63_16, am_PT_63_25, am_PT_63_27, am_PT_63_30, am_PT_63_36, am_PT_63_37, n_c0, n_c1, n_c2, n_c3, n_c4, n_c5, n_c6, n_c7, n_c8, n_c9, n_c10, n_c11, n_c12, n_c14, n_c16, n_c18, n_c20, n_c24, n_c30, n_c31, n_c32, n_c36, n_c48, n_c57, n_c60, n_c63, n_c70, n_c75, n_c97, n_c100, n_c101, n_c104, n_c115, n_c116, n_c59, n_c150, n_c199, n_c200, n_c201, n_c216, n_c255, n_c256, n_c999, n_c1296, n_c4095, n_c6480, n_c100000, n_c1000, n_c65536, P0, h0]
  have e9 := fun Q => l9 (Q := Q) (L := L) (s := 19 - h) (Lx := Lx) rH rC 3 0 rfl
  simp only [r_bt] at e9
  rw [e9]
  simp +decide (disch := omega) only [xe83, x83_0, x83_1, x83_4, x83_5, x83_8, x83_11, x149_0, x149_2, x149_3, x149_4, xe149, ↓reduceIte, true_and, and_true, if_true, if_false, ne_eq, not_false_eq_true, am_u_at, am_nb0, am_nb1, am_fb0, am_fb1, am_kc_i, am_kc_r, am_kc_l, am_kc_n, am_wsum_n, am_wsum_i, am_wsum_r, am_wsum_l, am_rs_s, am_rs_n, am_S1_1, am_S1_2, am_S1_3, am_S1_4, am_S1_5, am_S1_6, am_S1_7, am_S1_8, am_S1_9, am_S1_10, am_S1_11, am_S1_12, am_S1_13, am_S1_14, am_S1_15, am_S1_16, am_S1_17, am_S1_18, am_S1_19, am_S1_20, am_S1_21, am_S1_22, am_S1_23, am_S1_24, am_S1_25, am_S1_26, am_S1_27, am_S1_28, am_S1_29, am_S1_30, am_S1_31, am_S1_32, am_S1_33, am_S1_34, am_S1_35, am_S1_36, am_S1_37, am_S1_38, am_S1_39, am_S1_40, am_S1_41, am_S1_42, am_S1_43, am_S1_44, am_S1_45, am_S1_46, am_S1_47, am_S1_48, am_S1_49, am_S1_50, am_S1_51, am_S1_52, am_S1_53, am_S1_54, am_S1_55, am_S1_56, am_S1_57, am_S1_58, am_S1_59, am_S1_60, am_S1_61, am_S1_62, am_S1_63, am_S1_64, am_S1_65, am_S1_66, am_S1_67, am_S1_68, am_S1_69, am_S1_70, am_S1_71, am_S1_72, am_S1_73, am_S1_74, am_S1_75, am_S1_76, am_S1_77, am_PT_3_1, am_PT_3_2, am_PT_3_0, am_PT_3_3, am_PT_3_4, am_PT_3_5, am_PT_3_6, am_PT_3_7, am_PT_3_8, am_PT_3_9, am_PT_3_10, am_PT_4_0, am_PT_6_6, am_PT_6_7, am_PT_6_8, am_PT_6_9, am_PT_6_10, am_PT_6_11, am_PT_13_6, am_PT_13_7, am_PT_13_8, am_PT_13_9, am_PT_13_10, am_PT_13_11, am_PT_20_3, am_PT_22_0, am_PT_23_0, am_PT_23_1, am_PT_23_2, am_PT_23_3, am_PT_23_4, am_PT_23_5, am_PT_23_6, am_PT_23_7, am_PT_23_8, am_PT_23_9, am_PT_24_3, am_PT_26_3, am_PT_28_3, am_PT_30_3, am_PT_32_3, am_PT_34_3, am_PT_36_3, am_PT_38_3, am_PT_40_3, am_PT_42_3, am_PT_44_0, am_PT_44_1, am_PT_46_2, am_PT_46_3, am_PT_46_4, am_PT_46_5, am_PT_51_0, am_PT_51_1, am_PT_51_2, am_PT_51_3, am_PT_51_4, am_PT_59_3, am_PT_61_3, am_PT_63_1, am_PT_63_3, am_PT_63_6, am_PT_63_7, am_PT_63_9, am_PT_63_10, am_PT_63_12, am_PT_63_14, am_PT_63_16, am_PT_63_25, am_PT_63_27, am_PT_63_30, am_PT_63_36, am_PT_63_37, n_c0, n_c1, n_c2, n_c3, n_c4, n_c5, n_c6, n_c7, n_c8, n_c9, n_c10, n_c11, n_c12, n_c14, n_c16, n_c18, n_c20, n_c24, n_c30, n_c31, n_c32, n_c36, n_c48, n_c57, n_c60, n_c63, n_c70, n_c75, n_c97, n_c100, n_c101, n_c104, n_c115, n_c116, n_c59, n_c150, n_c199, n_c200, n_c201, n_c216, n_c255, n_c256, n_c999, n_c1296, n_c4095, n_c6480, n_c100000, n_c1000, n_c65536]
  have e149 := fun Q => l149 (Q := Q) (L := L) (s := 19 - h) (Lx := Lx) rH rC (sg 12 0) 0 none none (by omega) (Or.inl ⟨rfl, rfl⟩)
  have e7 : r_bt (fun law => r_fa sg law 0) 3 = 7 := rfl
  rw [e7] at e149
  rw [e149]
  exact ⟨⟨_, rfl, rfl⟩, rfl, rfl, sg, h, R, rfl⟩
end FI
