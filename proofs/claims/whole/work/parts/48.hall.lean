/-! hall -/
def g_new (g : am_G0) : am_G0 := fun r k => if r < 7 then g r k else if r = 7 then (if k = 1 then 4 else if 3 ≤ k then g 3 (k - 3) else 0) else 0
theorem g_new_lo {g : am_G0} {r : Nat} (h : r < 7) : g_new g r = g r := by
  funext k; exact if_pos h
theorem g_new_7 {g : am_G0} {t : Nat} : g_new g 7 (3 + t) = g 3 t := by
  show (if 7 < 7 then _ else if 7 = 7 then (if 3 + t = 1 then 4 else if 3 ≤ 3 + t then g 3 (3 + t - 3) else 0) else 0) = _
  rw [if_neg (by omega), if_pos rfl, if_neg (by omega), if_pos (by omega)]
  congr 1; omega
theorem g_new_VH {g : am_G0} (h : r_VH g) : r_VH (g_new g) := r_VH_c h fun r hr => g_new_lo hr
theorem g_new_held {g : am_G0} (h : r_VH g) : ∀ n, n ≤ g 0 1 → r_held (g_new g) 7 n = 0
  | 0, _ => rfl
  | n + 1, hn => by
    have := (h.2.2.2.2.2 n (by omega)).1
    have v0 := h.1
    simp only [r_held, g_new_held h n (by omega), g_new_7]
    rw [if_neg (by omega)]
theorem g_new_VM {g : am_G0} (h : r_VH g) : r_VM (g_new g) 7 := by
  refine ⟨Nat.zero_le _, Or.inr rfl, Nat.two_pow_pos _, fun t ht => ?_, ?_⟩
  · have ht2 : t < g 0 1 := ht
    have q := (h.2.2.2.2.2 t ht2).1
    have v0 := h.1
    rw [g_new_7]
    refine ⟨Or.inl q, fun _ => ?_, fun _ => by omega⟩
    rw [g_new_lo (by omega)]
  · have e : g_new g 0 1 = g 0 1 := rfl
    rw [e, g_new_held h _ (Nat.le_refl _)]; exact Nat.zero_le _
section HA
variable {I : am_I} {L : am_L} {sg : am_G0} {h Lx : Nat}
theorem r_bad {sh : Nat} {I2 : am_I} (hd : h = 6 ∨ h = 13) (hsh : sh = 19 - h) (R : r_R I L sg h) (hc : ∀ c, ¬ c = 4 → ¬ (sh ≤ c ∧ c < sh + 7) → ¬ c = 63 → ¬ c = 73 → ¬ c = 74 → I2 c = I c) (h4 : I2 4 1 = I 4 1) (f1 : I2 (sh + 1) 4 = I (sh + 1) 4) (f2 : I2 (sh + 2) 4 = I (sh + 2) 4) (h63 : ∀ k, (k < 18 ∨ 30 ≤ k) → I2 63 k = I 63 k) : r_R I2 L sg h := by
  obtain ⟨rH, rN, rU, rK, rC, rT, rL, rW, rV⟩ := R
  refine ⟨?_, r_N_c rN (hc _ (by omega) (by omega) (by omega) (by omega) (by omega)) (hc _ (by omega) (by omega) (by omega) (by omega) (by omega)) (hc _ (by omega) (by omega) (by omega) (by omega) (by omega)) rfl rfl rfl, r_U_c rU (fun a _ _ => hc _ (by omega) (by omega) (by omega) (by omega) (by omega)) (h63 8 (by omega)) (hc _ (by omega) (by omega) (by omega) (by omega) (by omega)) rfl (fun _ _ _ => rfl) rfl rfl, r_K_c rK (fun a _ => hc _ (by omega) (by omega) (by omega) (by omega) (by omega)) rfl rfl rfl rfl rfl, r_C_c rC (fun a _ _ => hc _ (by omega) (by omega) (by omega) (by omega) (by omega)) ⟨h63 11 (by omega), h63 13 (by omega)⟩ (hc _ (by omega) (by omega) (by omega) (by omega) (by omega)) (hc _ (by omega) (by omega) (by omega) (by omega) (by omega)) (fun _ _ _ => rfl) rfl, r_T_c rT h4 (hc _ (by omega) (by omega) (by omega) (by omega) (by omega)) (h63 17 (by omega)) (hc _ (by omega) (by omega) (by omega) (by omega) (by omega)) rfl rfl, rL, r_W_c rW (hc _ (by omega) (by omega) (by omega) (by omega) (by omega)) (by rw [hc 51 (by omega) (by omega) (by omega) (by omega) (by omega)]) rfl (fun _ _ => rfl), r_V_c rV ⟨h63 31 (by omega), h63 32 (by omega)⟩ (hc _ (by omega) (by omega) (by omega) (by omega) (by omega)) (fun _ _ => rfl)⟩
  obtain ⟨q1, q2, q3, q4, q5, q6, ⟨q7, q8, q9, q10⟩, q11, q12, q13, q14, q15, q16⟩ := rH
  have e0 := hc h (by omega) (by omega) (by omega) (by omega) (by omega)
  have e1 := hc (h + 1) (by omega) (by omega) (by omega) (by omega) (by omega)
  have e2 := hc (h + 2) (by omega) (by omega) (by omega) (by omega) (by omega)
  have e3 := hc (h + 3) (by omega) (by omega) (by omega) (by omega) (by omega)
  have e4 := hc (h + 4) (by omega) (by omega) (by omega) (by omega) (by omega)
  have e5 := hc (h + 5) (by omega) (by omega) (by omega) (by omega) (by omega)
  have e6 := hc (h + 6) (by omega) (by omega) (by omega) (by omega) (by omega)
  have e64 := hc 64 (by omega) (by omega) (by omega) (by omega) (by omega)
  have e65 := hc 65 (by omega) (by omega) (by omega) (by omega) (by omega)
  refine ⟨q1, q2, by rw [e0]; exact q3, by rw [e0]; exact q4, by rw [e0]; exact q5, by rw [e0]; exact q6, ⟨by rw [h63 0 (by omega)]; exact q7, by rw [h63 2 (by omega)]; exact q8, by rw [h63 4 (by omega)]; exact q9, by rw [h63 5 (by omega)]; exact q10⟩, by rw [e1, e2, e64]; exact q11, by rw [e3, e4, e5, e6, e65]; exact q12, ?_⟩
  rcases hd with rfl | rfl
  · subst hsh
    exact ⟨by rw [e1]; exact q13, by rw [e2]; exact q14, f1.trans q15, f2.trans q16⟩
  · subst hsh
    exact ⟨f1.trans q13, f2.trans q14, by rw [e1]; exact q15, by rw [e2]; exact q16⟩
set_option maxHeartbeats 4000000 in
theorem op_hall (R : r_R I L sg h) : r_op 60 113 [] I L h Lx := by
  obtain ⟨rH, rN, rU, rK, rC, rT, rL, rW, rV⟩ := id R
  obtain ⟨hd, hV, g0, g1, g2, g3, ⟨g4, g5, g6, g7⟩, gs, gt, gz⟩ := id rH
  obtain ⟨t1, t2, t3, t4⟩ := id rT
  have hs : 19 - h = 6 ∨ 19 - h = 13 := by omega
  have hs0 : ¬ 19 - h = 0 := by omega
  have hh0 : ¬ h = 0 := by omega
  have hw : ∀ i, i < sg 16 0 → sg 17 i < 256 := fun i hi => (t4 i hi).1
  have h5 : ∀ i, i < sg 16 0 → I 5 i = nI (sg 17 i) := fun i hi => (t4 i hi).2.1
  have h72 : ∀ i, i < sg 16 0 → I 72 i = nI (sg 17 i) := fun i hi => (t4 i hi).2.2
  unfold r_op
  simp +decide (disch := omega) only [xe60, x60_0, x60_1, x60_4, x60_5, x60_8, ↓reduceIte, true_and, and_true, if_true, if_false, ne_eq, not_false_eq_true, am_u_at, am_nb0, am_nb1, am_fb0, am_fb1, am_kc_i, am_kc_r, am_kc_l, am_kc_n, am_wsum_n, am_wsum_i, am_wsum_r, am_wsum_l, am_rs_s, am_rs_n, am_S1_1, am_S1_2, am_S1_3, am_S1_4, am_S1_5, am_S1_6, am_S1_7, am_S1_8, am_S1_9, am_S1_10, am_S1_11, am_S1_12, am_S1_13, am_S1_14, am_S1_15, am_S1_16, am_S1_17, am_S1_18, am_S1_19, am_S1_20, am_S1_21, am_S1_22, am_S1_23, am_S1_24, am_S1_25, am_S1_26, am_S1_27, am_S1_28, am_S1_29, am_S1_30, am_S1_31, am_S1_32, am_S1_33, am_S1_34, am_S1_35, am_S1_36, am_S1_37, am_S1_38, am_S1_39, am_S1_40, am_S1_41, am_S1_42, am_S1_43, am_S1_44, am_S1_45, am_S1_46, am_S1_47, am_S1_48, am_S1_49, am_S1_50, am_S1_51, am_S1_52, am_S1_53, am_S1_54, am_S1_55, am_S1_56, am_S1_57, am_S1_58, am_S1_59, am_S1_60, am_S1_61, am_S1_62, am_S1_63, am_S1_64, am_S1_65, am_S1_66, am_S1_67, am_S1_68, am_S1_69, am_S1_70, am_S1_71, am_S1_72, am_S1_73, am_S1_74, am_S1_75, am_S1_76, am_S1_77, am_PT_3_1, am_PT_3_2, am_PT_3_0, am_PT_3_3, am_PT_3_4, am_PT_3_5, am_PT_3_6, am_PT_3_7, am_PT_3_8, am_PT_3_9, am_PT_3_10, am_PT_4_0, am_PT_6_6, am_PT_6_7, am_PT_6_8, am_PT_6_9, am_PT_6_10, am_PT_6_11, am_PT_13_6, am_PT_13_7, am_PT_13_8, am_PT_13_9, am_PT_13_10, am_PT_13_11, am_PT_20_3, am_PT_22_0, am_PT_23_0, am_PT_23_1, am_PT_23_2, am_PT_23_3, am_PT_23_4, am_PT_23_5, am_PT_23_6, am_PT_23_7, am_PT_23_8, am_PT_23_9, am_PT_24_3, am_PT_26_3, am_PT_28_3, am_PT_30_3, am_PT_32_3, am_PT_34_3, am_PT_36_3, am_PT_38_3, am_PT_40_3, am_PT_42_3, am_PT_44_0, am_PT_44_1, am_PT_46_2, am_PT_46_3, am_PT_46_4, am_PT_46_5, am_PT_51_0, am_PT_51_1, am_PT_51_2, am_PT_51_3, am_PT_51_4, am_PT_59_3, am_PT_61_3, am_PT_63_1, am_PT_63_3, am_PT_63_6, am_PT_63_7, am_PT_63_9, am_PT_63_10, am_PT_63_12, am_PT_63_14, am_PT_63_16, am_PT_63_25, am_PT_63_27, am_PT_63_30, am_PT_63_36, am_PT_63_37, n_c0, n_c1, n_c2, n_c3, n_c4, n_c5, n_c6, n_c7, n_c8, n_c9, n_c10, n_c11, n_c12, n_c14, n_c16, n_c18, n_c20, n_c24, n_c30, n_c31, n_c32, n_c36, n_c48, n_c57, n_c60, n_c63, n_c70, n_c75, n_c97, n_c100, n_c101, n_c104, n_c115, n_c116, n_c59, n_c150, n_c199, n_c200, n_c201, n_c216, n_c255, n_c256, n_c999, n_c1296, n_c4095, n_c6480, n_c100000, n_c1000, n_c65536, hs0]
  have model : ∀ (J : am_I) (P : am_P) (Z : Option Value → am_I → am_L → am_P → am_S → Prop) (h' s' : Nat) (Bad : Nat → Prop) (Done : Nat → am_G0 → Prop) (f : Nat), P = am_PT h' s' → J 63 = I 63 → J 72 = I 72 → p_run (sg 17) (sg 16 0) f 0 g_0 0 Bad Done → (∀ I' p, m_f2 J I' → Bad p → Z (some (.int (-nI 10 - nI p))) I' L P (am_S1 Lx)) → (∀ I' I'' k g, p_g g → m_f2 J I' → m_hl I' g → Done k g → (∀ c, ¬ c = 63 → ¬ c = 64 → ¬ c = 65 → ¬ c = 66 → ¬ c = 69 → I'' c = I' c) → (∀ k, ¬ (k = 0 ∨ k = 2 ∨ k = 4 ∨ k = 5 ∨ k = 31 ∨ k = 8 ∨ k = 11 ∨ k = 13 ∨ k = 17) → I'' 63 k = I' 63 k) → (I'' 63 0 = nI (g 0 0) ∧ I'' 63 2 = nI (g 0 1) ∧ I'' 63 4 = nI (g 0 2) ∧ I'' 63 5 = nI (g 0 3)) → (I'' 63 31 = nI 0 ∧ I'' 63 8 = nI 0 ∧ I'' 63 11 = nI 0 ∧ I'' 63 13 = nI 0 ∧ I'' 63 17 = nI 0) → (∀ j, j < 8 → I'' 64 j = I' 73 j) → (∀ j, j < 16 → I'' 65 j = I' 74 j) → (I'' 66 0 = nI 0 ∧ I'' 66 1 = nI 4 ∧ I'' 66 6 = nI 0) → (∀ t, t < g 0 1 → I'' 66 (2 + t) = nI (g 3 t)) → (I'' 69 0 = nI 0 ∧ I'' 69 1 = nI 0) → Z (some (.int (nI k))) I'' L P (am_S1 Lx)) → Ev 113 [.ref 63] J L P (am_S1 Lx) Z := by
    intro J P Z h' s' Bad Done f hP e63 e72 H hB hD
    subst hP
    have j17 : J 63 17 = nI (sg 16 0) := by rw [e63]; exact t3
    simp +decide (disch := omega) only [xe113, x113_0, x113_1, x113_2, x113_5, x113_6, x113_7, x113_10, x113_11, x113_12, x113_15, x113_16, x113_17, x113_20, x113_21, x113_22, x113_25, x113_26, x113_27, x113_30, x113_31, x113_32, x113_35, x113_36, ↓reduceIte, true_and, and_true, if_true, if_false, ne_eq, not_false_eq_true, am_u_at, am_nb0, am_nb1, am_fb0, am_fb1, am_kc_i, am_kc_r, am_kc_l, am_kc_n, am_wsum_n, am_wsum_i, am_wsum_r, am_wsum_l, am_rs_s, am_rs_n, am_S1_1, am_S1_2, am_S1_3, am_S1_4, am_S1_5, am_S1_6, am_S1_7, am_S1_8, am_S1_9, am_S1_10, am_S1_11, am_S1_12, am_S1_13, am_S1_14, am_S1_15, am_S1_16, am_S1_17, am_S1_18, am_S1_19, am_S1_20, am_S1_21, am_S1_22, am_S1_23, am_S1_24, am_S1_25, am_S1_26, am_S1_27, am_S1_28, am_S1_29, am_S1_30, am_S1_31, am_S1_32, am_S1_33, am_S1_34, am_S1_35, am_S1_36, am_S1_37, am_S1_38, am_S1_39, am_S1_40, am_S1_41, am_S1_42, am_S1_43, am_S1_44, am_S1_45, am_S1_46, am_S1_47, am_S1_48, am_S1_49, am_S1_50, am_S1_51, am_S1_52, am_S1_53, am_S1_54, am_S1_55, am_S1_56, am_S1_57, am_S1_58, am_S1_59, am_S1_60, am_S1_61, am_S1_62, am_S1_63, am_S1_64, am_S1_65, am_S1_66, am_S1_67, am_S1_68, am_S1_69, am_S1_70, am_S1_71, am_S1_72, am_S1_73, am_S1_74, am_S1_75, am_S1_76, am_S1_77, am_PT_3_1, am_PT_3_2, am_PT_3_0, am_PT_3_3, am_PT_3_4, am_PT_3_5, am_PT_3_6, am_PT_3_7, am_PT_3_8, am_PT_3_9, am_PT_3_10, am_PT_4_0, am_PT_6_6, am_PT_6_7, am_PT_6_8, am_PT_6_9, am_PT_6_10, am_PT_6_11, am_PT_13_6, am_PT_13_7, am_PT_13_8, am_PT_13_9, am_PT_13_10, am_PT_13_11, am_PT_20_3, am_PT_22_0, am_PT_23_0, am_PT_23_1, am_PT_23_2, am_PT_23_3, am_PT_23_4, am_PT_23_5, am_PT_23_6, am_PT_23_7, am_PT_23_8, am_PT_23_9, am_PT_24_3, am_PT_26_3, am_PT_28_3, am_PT_30_3, am_PT_32_3, am_PT_34_3, am_PT_36_3, am_PT_38_3, am_PT_40_3, am_PT_42_3, am_PT_44_0, am_PT_44_1, am_PT_46_2, am_PT_46_3, am_PT_46_4, am_PT_46_5, am_PT_51_0, am_PT_51_1, am_PT_51_2, am_PT_51_3, am_PT_51_4, am_PT_59_3, am_PT_61_3, am_PT_63_1, am_PT_63_3, am_PT_63_6, am_PT_63_7, am_PT_63_9, am_PT_63_10, am_PT_63_12, am_PT_63_14, am_PT_63_16, am_PT_63_25, am_PT_63_27, am_PT_63_30, am_PT_63_36, am_PT_63_37, n_c0, n_c1, n_c2, n_c3, n_c4, n_c5, n_c6, n_c7, n_c8, n_c9, n_c10, n_c11, n_c12, n_c14, n_c16, n_c18, n_c20, n_c24, n_c30, n_c31, n_c32, n_c36, n_c48, n_c57, n_c60, n_c63, n_c70, n_c75, n_c97, n_c100, n_c101, n_c104, n_c115, n_c116, n_c59, n_c150, n_c199, n_c200, n_c201, n_c216, n_c255, n_c256, n_c999, n_c1296, n_c4095, n_c6480, n_c100000, n_c1000, n_c65536, n_fb0]
    refine s108 (b := 0) (w := sg 17) t1 hw ?_ (fun i hi => ?_) ?_ (Nat.zero_le _) fun M fr hla => ?_
    · simp +decide only [am_u_at, if_true, if_false]; exact j17
    · simp +decide (disch := omega) only [am_u_ne]; rw [e72]; exact h72 i hi
    · simp +decide only [am_u_at, if_true, if_false]
    simp only [am_rs_n]
    have fu : ∀ c, ¬ c = 63 → M c = J c := fun c hc => by rw [fr.1 c hc]; simp only [am_u_ne hc]
    refine l113 (I0 := J) (Bad := Bad) (Done := Done) (w := sg 17) (n := sg 16 0) t1 hw j17 (fun i hi => by rw [e72]; exact h72 i hi) (fun I' p hdd hbad => ?_) (fun I' b g k hg hal hdone => ?_) f 0 g_0 0 M (Nat.zero_le _) g_0_ok ⟨⟨fun c h1 _ _ => fu c h1, fun k hk => ?_⟩, hla, ?_, ?_, ?_⟩ H
    · have z := hdd.2.1
      have y := hdd.2.2
      simp +decide (disch := omega) only [x113_70, x113_71, x113_74, x113_77, x113_79, x113_80, x113_83, x113_84, ↓reduceIte, true_and, and_true, if_true, if_false, ne_eq, not_false_eq_true, am_u_at, am_nb0, am_nb1, am_fb0, am_fb1, am_kc_i, am_kc_r, am_kc_l, am_kc_n, am_wsum_n, am_wsum_i, am_wsum_r, am_wsum_l, am_rs_s, am_rs_n, am_S1_1, am_S1_2, am_S1_3, am_S1_4, am_S1_5, am_S1_6, am_S1_7, am_S1_8, am_S1_9, am_S1_10, am_S1_11, am_S1_12, am_S1_13, am_S1_14, am_S1_15, am_S1_16, am_S1_17, am_S1_18, am_S1_19, am_S1_20, am_S1_21, am_S1_22, am_S1_23, am_S1_24, am_S1_25, am_S1_26, am_S1_27, am_S1_28, am_S1_29, am_S1_30, am_S1_31, am_S1_32, am_S1_33, am_S1_34, am_S1_35, am_S1_36, am_S1_37, am_S1_38, am_S1_39, am_S1_40, am_S1_41, am_S1_42, am_S1_43, am_S1_44, am_S1_45, am_S1_46, am_S1_47, am_S1_48, am_S1_49, am_S1_50, am_S1_51, am_S1_52, am_S1_53, am_S1_54, am_S1_55, am_S1_56, am_S1_57, am_S1_58, am_S1_59, am_S1_60, am_S1_61, am_S1_62, am_S1_63, am_S1_64, am_S1_65, am_S1_66, am_S1_67, am_S1_68, am_S1_69, am_S1_70, am_S1_71, am_S1_72, am_S1_73, am_S1_74, am_S1_75, am_S1_76, am_S1_77, am_PT_3_1, am_PT_3_2, am_PT_3_0, am_PT_3_3, am_PT_3_4, am_PT_3_5, am_PT_3_6, am_PT_3_7, am_PT_3_8, am_PT_3_9, am_PT_3_10, am_PT_4_0, am_PT_6_6, am_PT_6_7, am_PT_6_8, am_PT_6_9, am_PT_6_10, am_PT_6_11, am_PT_13_6, am_PT_13_7, am_PT_13_8, am_PT_13_9, am_PT_13_10, am_PT_13_11, am_PT_20_3, am_PT_22_0, am_PT_23_0, am_PT_23_1, am_PT_23_2, am_PT_23_3, am_PT_23_4, am_PT_23_5, am_PT_23_6, am_PT_23_7, am_PT_23_8, am_PT_23_9, am_PT_24_3, am_PT_26_3, am_PT_28_3, am_PT_30_3, am_PT_32_3, am_PT_34_3, am_PT_36_3, am_PT_38_3, am_PT_40_3, am_PT_42_3, am_PT_44_0, am_PT_44_1, am_PT_46_2, am_PT_46_3, am_PT_46_4, am_PT_46_5, am_PT_51_0, am_PT_51_1, am_PT_51_2, am_PT_51_3, am_PT_51_4, am_PT_59_3, am_PT_61_3, am_PT_63_1, am_PT_63_3, am_PT_63_6, am_PT_63_7, am_PT_63_9, am_PT_63_10, am_PT_63_12, am_PT_63_14, am_PT_63_16, am_PT_63_25, am_PT_63_27, am_PT_63_30, am_PT_63_36, am_PT_63_37, n_c0, n_c1, n_c2, n_c3, n_c4, n_c5, n_c6, n_c7, n_c8, n_c9, n_c10, n_c11, n_c12, n_c14, n_c16, n_c18, n_c20, n_c24, n_c30, n_c31, n_c32, n_c36, n_c48, n_c57, n_c60, n_c63, n_c70, n_c75, n_c97, n_c100, n_c101, n_c104, n_c115, n_c116, n_c59, n_c150, n_c199, n_c200, n_c201, n_c216, n_c255, n_c256, n_c999, n_c1296, n_c4095, n_c6480, n_c100000, n_c1000, n_c65536, n_le, n_lt0, n_lt, n_eq, n_cl, n_add, n_sub, n_mul, n_div, n_rem, n_mo, n_in, n_nb0, n_nb1, n_fb0, n_fb1, n_vb0, n_vb1, z, y]
      exact hB I' p hdd.1 hbad
    · obtain ⟨b1, b2, b3, b4, b5⟩ := hal
      simp +decide (disch := omega) only [x113_70, x113_71, x113_74, x113_77, x113_79, x113_80, x113_83, x113_84, x113_85, x113_86, ↓reduceIte, true_and, and_true, if_true, if_false, ne_eq, not_false_eq_true, am_u_at, am_nb0, am_nb1, am_fb0, am_fb1, am_kc_i, am_kc_r, am_kc_l, am_kc_n, am_wsum_n, am_wsum_i, am_wsum_r, am_wsum_l, am_rs_s, am_rs_n, am_S1_1, am_S1_2, am_S1_3, am_S1_4, am_S1_5, am_S1_6, am_S1_7, am_S1_8, am_S1_9, am_S1_10, am_S1_11, am_S1_12, am_S1_13, am_S1_14, am_S1_15, am_S1_16, am_S1_17, am_S1_18, am_S1_19, am_S1_20, am_S1_21, am_S1_22, am_S1_23, am_S1_24, am_S1_25, am_S1_26, am_S1_27, am_S1_28, am_S1_29, am_S1_30, am_S1_31, am_S1_32, am_S1_33, am_S1_34, am_S1_35, am_S1_36, am_S1_37, am_S1_38, am_S1_39, am_S1_40, am_S1_41, am_S1_42, am_S1_43, am_S1_44, am_S1_45, am_S1_46, am_S1_47, am_S1_48, am_S1_49, am_S1_50, am_S1_51, am_S1_52, am_S1_53, am_S1_54, am_S1_55, am_S1_56, am_S1_57, am_S1_58, am_S1_59, am_S1_60, am_S1_61, am_S1_62, am_S1_63, am_S1_64, am_S1_65, am_S1_66, am_S1_67, am_S1_68, am_S1_69, am_S1_70, am_S1_71, am_S1_72, am_S1_73, am_S1_74, am_S1_75, am_S1_76, am_S1_77, am_PT_3_1, am_PT_3_2, am_PT_3_0, am_PT_3_3, am_PT_3_4, am_PT_3_5, am_PT_3_6, am_PT_3_7, am_PT_3_8, am_PT_3_9, am_PT_3_10, am_PT_4_0, am_PT_6_6, am_PT_6_7, am_PT_6_8, am_PT_6_9, am_PT_6_10, am_PT_6_11, am_PT_13_6, am_PT_13_7, am_PT_13_8, am_PT_13_9, am_PT_13_10, am_PT_13_11, am_PT_20_3, am_PT_22_0, am_PT_23_0, am_PT_23_1, am_PT_23_2, am_PT_23_3, am_PT_23_4, am_PT_23_5, am_PT_23_6, am_PT_23_7, am_PT_23_8, am_PT_23_9, am_PT_24_3, am_PT_26_3, am_PT_28_3, am_PT_30_3, am_PT_32_3, am_PT_34_3, am_PT_36_3, am_PT_38_3, am_PT_40_3, am_PT_42_3, am_PT_44_0, am_PT_44_1, am_PT_46_2, am_PT_46_3, am_PT_46_4, am_PT_46_5, am_PT_51_0, am_PT_51_1, am_PT_51_2, am_PT_51_3, am_PT_51_4, am_PT_59_3, am_PT_61_3, am_PT_63_1, am_PT_63_3, am_PT_63_6, am_PT_63_7, am_PT_63_9, am_PT_63_10, am_PT_63_12, am_PT_63_14, am_PT_63_16, am_PT_63_25, am_PT_63_27, am_PT_63_30, am_PT_63_36, am_PT_63_37, n_c0, n_c1, n_c2, n_c3, n_c4, n_c5, n_c6, n_c7, n_c8, n_c9, n_c10, n_c11, n_c12, n_c14, n_c16, n_c18, n_c20, n_c24, n_c30, n_c31, n_c32, n_c36, n_c48, n_c57, n_c60, n_c63, n_c70, n_c75, n_c97, n_c100, n_c101, n_c104, n_c115, n_c116, n_c59, n_c150, n_c199, n_c200, n_c201, n_c216, n_c255, n_c256, n_c999, n_c1296, n_c4095, n_c6480, n_c100000, n_c1000, n_c65536, n_le, n_lt0, n_lt, n_eq, n_cl, n_add, n_sub, n_mul, n_div, n_rem, n_mo, n_in, n_nb0, n_nb1, n_fb0, n_fb1, n_vb0, n_vb1, b3]
      refine s114 hg b5 fun I'' w1 w2 w3 w4 w5 w6 w7 w8 w9 => ?_
      have e23 : I'' 63 23 = nI k := by rw [w2 23 (by omega)]; exact b4
      simp +decide (disch := omega) only [x113_89, x113_90, x113_93, ↓reduceIte, true_and, and_true, if_true, if_false, ne_eq, not_false_eq_true, am_u_at, am_nb0, am_nb1, am_fb0, am_fb1, am_kc_i, am_kc_r, am_kc_l, am_kc_n, am_wsum_n, am_wsum_i, am_wsum_r, am_wsum_l, am_rs_s, am_rs_n, am_S1_1, am_S1_2, am_S1_3, am_S1_4, am_S1_5, am_S1_6, am_S1_7, am_S1_8, am_S1_9, am_S1_10, am_S1_11, am_S1_12, am_S1_13, am_S1_14, am_S1_15, am_S1_16, am_S1_17, am_S1_18, am_S1_19, am_S1_20, am_S1_21, am_S1_22, am_S1_23, am_S1_24, am_S1_25, am_S1_26, am_S1_27, am_S1_28, am_S1_29, am_S1_30, am_S1_31, am_S1_32, am_S1_33, am_S1_34, am_S1_35, am_S1_36, am_S1_37, am_S1_38, am_S1_39, am_S1_40, am_S1_41, am_S1_42, am_S1_43, am_S1_44, am_S1_45, am_S1_46, am_S1_47, am_S1_48, am_S1_49, am_S1_50, am_S1_51, am_S1_52, am_S1_53, am_S1_54, am_S1_55, am_S1_56, am_S1_57, am_S1_58, am_S1_59, am_S1_60, am_S1_61, am_S1_62, am_S1_63, am_S1_64, am_S1_65, am_S1_66, am_S1_67, am_S1_68, am_S1_69, am_S1_70, am_S1_71, am_S1_72, am_S1_73, am_S1_74, am_S1_75, am_S1_76, am_S1_77, am_PT_3_1, am_PT_3_2, am_PT_3_0, am_PT_3_3, am_PT_3_4, am_PT_3_5, am_PT_3_6, am_PT_3_7, am_PT_3_8, am_PT_3_9, am_PT_3_10, am_PT_4_0, am_PT_6_6, am_PT_6_7, am_PT_6_8, am_PT_6_9, am_PT_6_10, am_PT_6_11, am_PT_13_6, am_PT_13_7, am_PT_13_8, am_PT_13_9, am_PT_13_10, am_PT_13_11, am_PT_20_3, am_PT_22_0, am_PT_23_0, am_PT_23_1, am_PT_23_2, am_PT_23_3, am_PT_23_4, am_PT_23_5, am_PT_23_6, am_PT_23_7, am_PT_23_8, am_PT_23_9, am_PT_24_3, am_PT_26_3, am_PT_28_3, am_PT_30_3, am_PT_32_3, am_PT_34_3, am_PT_36_3, am_PT_38_3, am_PT_40_3, am_PT_42_3, am_PT_44_0, am_PT_44_1, am_PT_46_2, am_PT_46_3, am_PT_46_4, am_PT_46_5, am_PT_51_0, am_PT_51_1, am_PT_51_2, am_PT_51_3, am_PT_51_4, am_PT_59_3, am_PT_61_3, am_PT_63_1, am_PT_63_3, am_PT_63_6, am_PT_63_7, am_PT_63_9, am_PT_63_10, am_PT_63_12, am_PT_63_14, am_PT_63_16, am_PT_63_25, am_PT_63_27, am_PT_63_30, am_PT_63_36, am_PT_63_37, n_c0, n_c1, n_c2, n_c3, n_c4, n_c5, n_c6, n_c7, n_c8, n_c9, n_c10, n_c11, n_c12, n_c14, n_c16, n_c18, n_c20, n_c24, n_c30, n_c31, n_c32, n_c36, n_c48, n_c57, n_c60, n_c63, n_c70, n_c75, n_c97, n_c100, n_c101, n_c104, n_c115, n_c116, n_c59, n_c150, n_c199, n_c200, n_c201, n_c216, n_c255, n_c256, n_c999, n_c1296, n_c4095, n_c6480, n_c100000, n_c1000, n_c65536, n_le, n_lt0, n_lt, n_eq, n_cl, n_add, n_sub, n_mul, n_div, n_rem, n_mo, n_in, n_nb0, n_nb1, n_fb0, n_fb1, n_vb0, n_vb1, e23]
      exact hD I' I'' k g hg b1 b5 hdone w1 w2 w3 w4 w5 w6 w7 w8 w9
    · have z1 : ¬ k = 18 := by omega
      have z2 : ¬ k = 22 := by omega
      have z3 : ¬ k = 23 := by omega
      have z4 : ¬ k = 24 := by omega
      have z5 : ¬ k = 26 := by omega
      have z6 : ¬ k = 28 := by omega
      have z7 : ¬ k = 29 := by omega
      rw [fr.2 k (by omega)]; simp only [am_u_at, if_true, z1, z2, z3, z4, z5, z6, z7, if_false]
    · rw [fr.2 22 (by omega)]; simp +decide only [am_u_at, if_true, if_false]
    · rw [fr.2 23 (by omega)]; simp +decide only [am_u_at, if_true, if_false]
    · refine ⟨?_, ?_, ?_, ?_, fun i hi => absurd hi (by show ¬ i < 0; omega), fun t ht => absurd ht (by show ¬ t < 0; omega)⟩
      · rw [fr.2 24 (by omega)]; simp +decide only [am_u_at, if_true, if_false]
      · rw [fr.2 26 (by omega)]; simp +decide only [am_u_at, if_true, if_false]
      · rw [fr.2 28 (by omega)]; simp +decide only [am_u_at, if_true, if_false, g_0]
      · rw [fr.2 29 (by omega)]; simp +decide only [am_u_at, if_true, if_false, g_0]
  rcases p_run_tot (w := sg 17) (n := sg 16 0) hw (sg 16 0 + 1) 0 g_0 0 (by omega) (by omega) g_0_ok with ⟨p, hp, run⟩ | ⟨k, g, hg, run⟩
  · refine s32 (Bad := fun q => q = p) (Done := fun _ _ => False) hs t1 hw t2 h5 (fun I' q x hq hdd hqp => ?_) (fun _ _ _ _ _ _ _ _ hf => absurd hf (fun q => q)) (run _ _ rfl)
    obtain rfl : q = p := hqp
    have y := hdd.2.2
    have c0 : ¬ q < 0 := by omega
    simp +decide (disch := omega) only [x60_11, x60_12, x60_13, x60_16, x60_19, x60_22, x60_24, x60_25, x60_28, x60_31, x60_32, ↓reduceIte, true_and, and_true, if_true, if_false, ne_eq, not_false_eq_true, am_u_at, am_nb0, am_nb1, am_fb0, am_fb1, am_kc_i, am_kc_r, am_kc_l, am_kc_n, am_wsum_n, am_wsum_i, am_wsum_r, am_wsum_l, am_rs_s, am_rs_n, am_S1_1, am_S1_2, am_S1_3, am_S1_4, am_S1_5, am_S1_6, am_S1_7, am_S1_8, am_S1_9, am_S1_10, am_S1_11, am_S1_12, am_S1_13, am_S1_14, am_S1_15, am_S1_16, am_S1_17, am_S1_18, am_S1_19, am_S1_20, am_S1_21, am_S1_22, am_S1_23, am_S1_24, am_S1_25, am_S1_26, am_S1_27, am_S1_28, am_S1_29, am_S1_30, am_S1_31, am_S1_32, am_S1_33, am_S1_34, am_S1_35, am_S1_36, am_S1_37, am_S1_38, am_S1_39, am_S1_40, am_S1_41, am_S1_42, am_S1_43, am_S1_44, am_S1_45, am_S1_46, am_S1_47, am_S1_48, am_S1_49, am_S1_50, am_S1_51, am_S1_52, am_S1_53, am_S1_54, am_S1_55, am_S1_56, am_S1_57, am_S1_58, am_S1_59, am_S1_60, am_S1_61, am_S1_62, am_S1_63, am_S1_64, am_S1_65, am_S1_66, am_S1_67, am_S1_68, am_S1_69, am_S1_70, am_S1_71, am_S1_72, am_S1_73, am_S1_74, am_S1_75, am_S1_76, am_S1_77, am_PT_3_1, am_PT_3_2, am_PT_3_0, am_PT_3_3, am_PT_3_4, am_PT_3_5, am_PT_3_6, am_PT_3_7, am_PT_3_8, am_PT_3_9, am_PT_3_10, am_PT_4_0, am_PT_6_6, am_PT_6_7, am_PT_6_8, am_PT_6_9, am_PT_6_10, am_PT_6_11, am_PT_13_6, am_PT_13_7, am_PT_13_8, am_PT_13_9, am_PT_13_10, am_PT_13_11, am_PT_20_3, am_PT_22_0, am_PT_23_0, am_PT_23_1, am_PT_23_2, am_PT_23_3, am_PT_23_4, am_PT_23_5, am_PT_23_6, am_PT_23_7, am_PT_23_8, am_PT_23_9, am_PT_24_3, am_PT_26_3, am_PT_28_3, am_PT_30_3, am_PT_32_3, am_PT_34_3, am_PT_36_3, am_PT_38_3, am_PT_40_3, am_PT_42_3, am_PT_44_0, am_PT_44_1, am_PT_46_2, am_PT_46_3, am_PT_46_4, am_PT_46_5, am_PT_51_0, am_PT_51_1, am_PT_51_2, am_PT_51_3, am_PT_51_4, am_PT_59_3, am_PT_61_3, am_PT_63_1, am_PT_63_3, am_PT_63_6, am_PT_63_7, am_PT_63_9, am_PT_63_10, am_PT_63_12, am_PT_63_14, am_PT_63_16, am_PT_63_25, am_PT_63_27, am_PT_63_30, am_PT_63_36, am_PT_63_37, n_c0, n_c1, n_c2, n_c3, n_c4, n_c5, n_c6, n_c7, n_c8, n_c9, n_c10, n_c11, n_c12, n_c14, n_c16, n_c18, n_c20, n_c24, n_c30, n_c31, n_c32, n_c36, n_c48, n_c57, n_c60, n_c63, n_c70, n_c75, n_c97, n_c100, n_c101, n_c104, n_c115, n_c116, n_c59, n_c150, n_c199, n_c200, n_c201, n_c216, n_c255, n_c256, n_c999, n_c1296, n_c4095, n_c6480, n_c100000, n_c1000, n_c65536, n_le, n_lt0, n_lt, n_eq, n_cl, n_add, n_sub, n_mul, n_div, n_rem, n_mo, n_in, n_nb0, n_nb1, n_fb0, n_fb1, n_vb0, n_vb1, y, c0]
    refine model I' _ _ h (19 - h) (fun r => r = q) (fun _ _ => False) _ rfl (hdd.1.1 63 (by omega) (by omega)) (hdd.1.1 72 (by omega) (by omega)) (run _ _ rfl) (fun I2 r hf hr => ?_) (fun _ _ _ _ _ _ _ hf => absurd hf (fun q => q))
    obtain rfl : r = q := hr
    refine ⟨⟨_, rfl, rfl⟩, rfl, ?_, sg, h, ?_, rfl⟩
    · rw [hf.1 1 (by omega) (by omega) (by omega), hdd.1.1 1 (by omega) (by omega)]
    · refine r_bad hd rfl R (fun c k1 k2 k3 k4 k5 => ?_) ?_ ?_ ?_ (fun k hk => ?_)
      · rw [hf.1 c k3 k4 k5]; exact hdd.1.1 c k1 k2
      · rw [hf.1 4 (by omega) (by omega) (by omega), hdd.2.1]; exact t2.symm
      · rw [hf.1 _ (by omega) (by omega) (by omega)]; exact hdd.1.2.1
      · rw [hf.1 _ (by omega) (by omega) (by omega)]; exact hdd.1.2.2
      · rw [hf.2 k hk, hdd.1.1 63 (by omega) (by omega)]
  · refine s32 (Bad := fun _ => False) (Done := fun k' g' => k' = k ∧ g' = g) hs t1 hw t2 h5 (fun _ _ _ _ _ hf => absurd hf (fun q => q)) (fun I' k' g' hk' hfr h41 h42 hl hkg => ?_) (run _ _ ⟨rfl, rfl⟩)
    obtain ⟨rfl, rfl⟩ := hkg
    simp +decide (disch := omega) only [x60_11, x60_12, x60_13, x60_16, x60_19, x60_22, x60_24, x60_25, x60_28, x60_31, x60_32, x60_33, x60_34, x60_37, x60_38, x60_39, x60_40, x60_43, x60_46, x60_47, x60_48, x60_51, x60_52, ↓reduceIte, true_and, and_true, if_true, if_false, ne_eq, not_false_eq_true, am_u_at, am_nb0, am_nb1, am_fb0, am_fb1, am_kc_i, am_kc_r, am_kc_l, am_kc_n, am_wsum_n, am_wsum_i, am_wsum_r, am_wsum_l, am_rs_s, am_rs_n, am_S1_1, am_S1_2, am_S1_3, am_S1_4, am_S1_5, am_S1_6, am_S1_7, am_S1_8, am_S1_9, am_S1_10, am_S1_11, am_S1_12, am_S1_13, am_S1_14, am_S1_15, am_S1_16, am_S1_17, am_S1_18, am_S1_19, am_S1_20, am_S1_21, am_S1_22, am_S1_23, am_S1_24, am_S1_25, am_S1_26, am_S1_27, am_S1_28, am_S1_29, am_S1_30, am_S1_31, am_S1_32, am_S1_33, am_S1_34, am_S1_35, am_S1_36, am_S1_37, am_S1_38, am_S1_39, am_S1_40, am_S1_41, am_S1_42, am_S1_43, am_S1_44, am_S1_45, am_S1_46, am_S1_47, am_S1_48, am_S1_49, am_S1_50, am_S1_51, am_S1_52, am_S1_53, am_S1_54, am_S1_55, am_S1_56, am_S1_57, am_S1_58, am_S1_59, am_S1_60, am_S1_61, am_S1_62, am_S1_63, am_S1_64, am_S1_65, am_S1_66, am_S1_67, am_S1_68, am_S1_69, am_S1_70, am_S1_71, am_S1_72, am_S1_73, am_S1_74, am_S1_75, am_S1_76, am_S1_77, am_PT_3_1, am_PT_3_2, am_PT_3_0, am_PT_3_3, am_PT_3_4, am_PT_3_5, am_PT_3_6, am_PT_3_7, am_PT_3_8, am_PT_3_9, am_PT_3_10, am_PT_4_0, am_PT_6_6, am_PT_6_7, am_PT_6_8, am_PT_6_9, am_PT_6_10, am_PT_6_11, am_PT_13_6, am_PT_13_7, am_PT_13_8, am_PT_13_9, am_PT_13_10, am_PT_13_11, am_PT_20_3, am_PT_22_0, am_PT_23_0, am_PT_23_1, am_PT_23_2, am_PT_23_3, am_PT_23_4, am_PT_23_5, am_PT_23_6, am_PT_23_7, am_PT_23_8, am_PT_23_9, am_PT_24_3, am_PT_26_3, am_PT_28_3, am_PT_30_3, am_PT_32_3, am_PT_34_3, am_PT_36_3, am_PT_38_3, am_PT_40_3, am_PT_42_3, am_PT_44_0, am_PT_44_1, am_PT_46_2, am_PT_46_3, am_PT_46_4, am_PT_46_5, am_PT_51_0, am_PT_51_1, am_PT_51_2, am_PT_51_3, am_PT_51_4, am_PT_59_3, am_PT_61_3, am_PT_63_1, am_PT_63_3, am_PT_63_6, am_PT_63_7, am_PT_63_9, am_PT_63_10, am_PT_63_12, am_PT_63_14, am_PT_63_16, am_PT_63_25, am_PT_63_27, am_PT_63_30, am_PT_63_36, am_PT_63_37, n_c0, n_c1, n_c2, n_c3, n_c4, n_c5, n_c6, n_c7, n_c8, n_c9, n_c10, n_c11, n_c12, n_c14, n_c16, n_c18, n_c20, n_c24, n_c30, n_c31, n_c32, n_c36, n_c48, n_c57, n_c60, n_c63, n_c70, n_c75, n_c97, n_c100, n_c101, n_c104, n_c115, n_c116, n_c59, n_c150, n_c199, n_c200, n_c201, n_c216, n_c255, n_c256, n_c999, n_c1296, n_c4095, n_c6480, n_c100000, n_c1000, n_c65536, n_le, n_lt0, n_lt, n_eq, n_cl, n_add, n_sub, n_mul, n_div, n_rem, n_mo, n_in, n_nb0, n_nb1, n_fb0, n_fb1, n_vb0, n_vb1, h42, n_m1z, hs0, hh0, am_PT_swap]
    refine s61 hs fun I3 d1 d2 d3 d4 d5 d6 d7 d8 => ?_
    simp +decide (disch := omega) only [x60_55, x60_56, ↓reduceIte, true_and, and_true, if_true, if_false, ne_eq, not_false_eq_true, am_u_at, am_nb0, am_nb1, am_fb0, am_fb1, am_kc_i, am_kc_r, am_kc_l, am_kc_n, am_wsum_n, am_wsum_i, am_wsum_r, am_wsum_l, am_rs_s, am_rs_n, n_c0, n_c1, n_c2, n_c3, n_c4, n_c5, n_c6, n_c7, n_c8, n_c9, n_c10, n_c11, n_c12, n_c14, n_c16, n_c18, n_c20, n_c24, n_c30, n_c31, n_c32, n_c36, n_c48, n_c57, n_c60, n_c63, n_c70, n_c75, n_c97, n_c100, n_c101, n_c104, n_c115, n_c116, n_c59, n_c150, n_c199, n_c200, n_c201, n_c216, n_c255, n_c256, n_c999, n_c1296, n_c4095, n_c6480, n_c100000, n_c1000, n_c65536]
    refine model I3 _ _ (19 - h) h (fun _ => False) (fun k2 g2 => k2 = k' ∧ g2 = g') _ rfl ?_ ?_ (run _ _ ⟨rfl, rfl⟩) (fun _ _ _ hf => absurd hf (fun q => q)) (fun I4 I5 k2 g2 hg2 hf hl2 hkg w1 w2 w3 w4 w5 w6 w7 w8 w9 => ?_)
    · rw [d1 63 (by omega) (by omega) (by omega) (by omega) (by omega) (by omega) (by omega)]; exact hfr.1 63 (by omega) (by omega)
    · rw [d1 72 (by omega) (by omega) (by omega) (by omega) (by omega) (by omega) (by omega)]; exact hfr.1 72 (by omega) (by omega)
    obtain ⟨rfl, rfl⟩ := hkg
    have k5 : ∀ c, ¬ c = 63 → ¬ c = 64 → ¬ c = 65 → ¬ c = 66 → ¬ c = 69 → ¬ c = 73 → ¬ c = 74 → I5 c = I3 c := fun c h1 h2 h3 h4 h5 h6 h7 => (w1 c h1 h2 h3 h4 h5).trans (hf.1 c h1 h6 h7)
    have k3 : ∀ c, ¬ c = 4 → ¬ c = 20 → ¬ c = 21 → ¬ c = 22 → ¬ c = 45 → ¬ c = 46 → ¬ c = 51 → ¬ c = 63 → ¬ c = 64 → ¬ c = 65 → ¬ c = 66 → ¬ c = 69 → ¬ c = 73 → ¬ c = 74 → I5 c = I' c := fun c h1 h2 h3 h4 h5 h6 h7 p1 p2 p3 p4 p5 p6 p7 => (k5 c p1 p2 p3 p4 p5 p6 p7).trans (d1 c h1 h2 h3 h4 h5 h6 h7)
    have ks : ∀ j, j < 7 → I5 (19 - h + j) = I' (19 - h + j) := fun j hj => k3 _ (by omega) (by omega) (by omega) (by omega) (by omega) (by omega) (by omega) (by omega) (by omega) (by omega) (by omega) (by omega) (by omega) (by omega)
    have ks0 := ks 0 (by omega)
    rw [Nat.add_zero] at ks0
    obtain ⟨l0, l1, l2, l3, l4, l5, l6, l7⟩ := hl
    obtain ⟨e0, e1, e2, e3, e4, e5⟩ := hl2
    obtain ⟨vH, vB⟩ := id hg2
    obtain ⟨v0', v1', v2', v3', v4', v5'⟩ := id vH
    refine ⟨⟨_, rfl, rfl⟩, rfl, ?_, g_new g2, 19 - h, ⟨?_, ⟨g_new_VM vH, ?_, ?_⟩, ?_, ?_, ?_, ?_, rL, ?_, ?_⟩, ?_⟩
    · rw [k3 1 (by omega) (by omega) (by omega) (by omega) (by omega) (by omega) (by omega) (by omega) (by omega) (by omega) (by omega) (by omega) (by omega) (by omega)]; rw [hfr.1 1 (by omega) (by omega)]
    · refine ⟨hs, g_new_VH vH, by rw [ks0]; exact l0, by rw [ks0]; exact l1, by rw [ks0]; exact l2, by rw [ks0]; exact l3, w3, fun i hi => ?_, fun t ht => ?_, ?_⟩
      · have hi2 : i < g2 0 0 := hi
        rw [ks 1 (by omega), ks 2 (by omega), w5 _ (by omega), w5 _ (by omega)]
        exact ⟨(l6 i hi2).1, (l6 i hi2).2, (e4 i hi2).1, (e4 i hi2).2⟩
      · have ht2 : t < g2 0 1 := ht
        rw [ks 3 (by omega), ks 4 (by omega), ks 5 (by omega), ks 6 (by omega), w6 _ (by omega), w6 _ (by omega), w6 _ (by omega), w6 _ (by omega)]
        exact ⟨(l7 t ht2).1, (l7 t ht2).2.1, (l7 t ht2).2.2.1, (l7 t ht2).2.2.2, (e5 t ht2).1, (e5 t ht2).2.1, (e5 t ht2).2.2.1, (e5 t ht2).2.2.2⟩
      · have kz : ∀ c, 6 ≤ c → c < 20 → I5 c = I' c := fun c h1 h2 => k3 c (by omega) (by omega) (by omega) (by omega) (by omega) (by omega) (by omega) (by omega) (by omega) (by omega) (by omega) (by omega) (by omega) (by omega)
        rw [kz 7 (by omega) (by omega), kz 8 (by omega) (by omega), kz 14 (by omega) (by omega), kz 15 (by omega) (by omega)]
        rcases hd with rfl | rfl
        · exact ⟨by rw [hfr.1 7 (by omega) (by omega)]; exact gz.1, by rw [hfr.1 8 (by omega) (by omega)]; exact gz.2.1, hfr.2.1.trans gz.2.2.1, hfr.2.2.trans gz.2.2.2⟩
        · exact ⟨hfr.2.1.trans gz.1, hfr.2.2.trans gz.2.1, by rw [hfr.1 14 (by omega) (by omega)]; exact gz.2.2.1, by rw [hfr.1 15 (by omega) (by omega)]; exact gz.2.2.2⟩
    · rw [r_CM, k5 20 (by omega) (by omega) (by omega) (by omega) (by omega) (by omega) (by omega), k5 (20 + 1) (by omega) (by omega) (by omega) (by omega) (by omega) (by omega) (by omega)]
      refine ⟨d3.1, d3.2.1, d3.2.2, fun t ht => ?_⟩
      have ht2 : t < g2 0 1 := ht
      rw [g_new_7]
      exact (d4 t (by omega)).trans (l7 t ht2).1
    · refine ⟨w7.1, w7.2.1, w7.2.2, fun t ht => ?_⟩
      have ht2 : t < g2 0 1 := ht
      rw [g_new_7, Nat.zero_add]
      exact w8 t ht2
    · obtain ⟨-, -, -, nx, u4, u5, -⟩ := id rU
      have e22 := k5 22 (by omega) (by omega) (by omega) (by omega) (by omega) (by omega) (by omega)
      refine ⟨Nat.zero_le _, by rw [e22]; exact d5.1, w4.2.1, nx, u4, ?_, fun i hi => absurd hi (by show ¬ i < 0; omega)⟩
      rw [e22, d5.2, hfr.1 22 (by omega) (by omega)]; exact u5
    · intro i hi
      have e45 := k5 45 (by omega) (by omega) (by omega) (by omega) (by omega) (by omega) (by omega)
      refine ⟨Nat.zero_le _, ?_, ?_, fun q => absurd q (by show ¬ 0 = 1; omega)⟩
      · rw [e45]
        match i, hi with
        | 0, _ => exact d6.1
        | 1, _ => exact d6.2
      · match i, hi with
        | 0, _ => exact w9.1
        | 1, _ => exact w9.2
    · have e46 := k5 46 (by omega) (by omega) (by omega) (by omega) (by omega) (by omega) (by omega)
      exact ⟨Nat.zero_le _, by rw [e46]; exact d7.1, w4.2.2.1, fun i hi => absurd hi (by show ¬ i < 0; omega), Nat.zero_le _, by rw [e46]; exact d7.2, w4.2.2.2.1, fun i hi => absurd hi (by show ¬ i < 0; omega)⟩
    · have e4' := k5 4 (by omega) (by omega) (by omega) (by omega) (by omega) (by omega) (by omega)
      exact ⟨Nat.zero_le _, by rw [e4']; exact d2, w4.2.2.2.2, fun i hi => absurd hi (by show ¬ i < 0; omega)⟩
    · obtain ⟨u0, u1, u2, u3, kb, -, -, f, hf2⟩ := id rW
      have e2' : I5 2 = I 2 := by
        rw [k3 2 (by omega) (by omega) (by omega) (by omega) (by omega) (by omega) (by omega) (by omega) (by omega) (by omega) (by omega) (by omega) (by omega) (by omega), hfr.1 2 (by omega) (by omega)]
      rw [r_W, e2', k5 51 (by omega) (by omega) (by omega) (by omega) (by omega) (by omega) (by omega)]
      refine ⟨u0, u1, u2, u3, 0, by omega, d8, f, fun s hs6 => ⟨(hf2 s hs6).1, (hf2 s hs6).2.1, fun n _ hb => ?_⟩⟩
      rw [Nat.zero_testBit] at hb
      exact absurd hb (by decide)
    · refine ⟨Or.inl w4.1, fun q => ?_⟩
      rw [w4.1] at q
      exact absurd q (by decide)
    · have e : 19 - (19 - h) = h := by omega
      rw [e]
end HA
