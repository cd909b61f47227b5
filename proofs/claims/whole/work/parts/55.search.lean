/-! search -/
def wt_mi (sg : am_G0) (I0 : am_I) (L0 : am_L) (F0 : Nat → Nat → Nat) (n mi : Nat) (I : am_I) (L : am_L) (F : Nat → Nat → Nat) (dn : Nat → Nat) : Prop := (∀ c, ¬ (53 ≤ c ∧ c ≤ 56) → I c = I0 c) ∧ (∀ c, ¬ c = 52 → L c = L0 c) ∧ wt_inv I L F n dn ∧ (∀ s n', ¬ n' = n → F s n' = F0 s n') ∧ (∀ s, dn s ≤ 1) ∧ (∀ s, s < 6480 → ¬ dn s = 0 → F s n ≤ mi) ∧ (∀ s, s < 6480 → dn s = 0 → F s n < 256 → mi ≤ F s n) ∧ (∀ s, s < 6480 → F s n < 256 → ∃ k, r_P1 sg n k s (F s n)) ∧ (∀ s, s < 6480 → r_F1 sg n s → F s n = 0) ∧ ∀ s', s' < 6480 → ¬ dn s' = 0 → ∀ s w, s < 6480 → r_E1 sg s s' w → F s' n + w < 256 → F s n ≤ F s' n + w
theorem wt_mi_step {sg : am_G0} {I0 : am_I} {L0 : am_L} {F0 F F' : Nat → Nat → Nat} {n mi st : Nat} {I I' : am_I} {L L' : am_L} {dn : Nat → Nat} (hM : wt_mi sg I0 L0 F0 n mi I L F dn) (hst : st < 6480) (hdn : dn st = 0) (hF : F st n = mi) (hmi : mi < 256) (f1 : ∀ c, ¬ (53 ≤ c ∧ c ≤ 56) → I' c = I c) (f2 : ∀ c, ¬ c = 52 → L' c = L c) (f3 : wt_inv I' L' F' n (fun y => if y = st then 1 else dn y)) (f4 : wt_rl sg F F' n st mi) (f5 : ∀ x w, x < 6480 → r_E1 sg x st w → mi + w < 256 → F' x n ≤ mi + w) : wt_mi sg I0 L0 F0 n mi I' L' F' (fun y => if y = st then 1 else dn y) := by
  obtain ⟨a1, a2, a3, a4, a5, a6, a7, a8, a9, a10⟩ := hM
  obtain ⟨r1, r2⟩ := f4
  have est : F' st n = mi := by
    obtain ⟨q1, q2⟩ := r2 st
    rcases q2 with q2 | ⟨-, w, -, q2, -⟩ <;> omega
  have eold : ∀ y, y < 6480 → ¬ dn y = 0 → F' y n = F y n := by
    intro y hy hd
    have := a6 y hy hd
    obtain ⟨q1, q2⟩ := r2 y
    rcases q2 with q2 | ⟨-, w, -, q2, -⟩ <;> omega
  refine ⟨fun c hc => (f1 c hc).trans (a1 c hc), fun c hc => (f2 c hc).trans (a2 c hc), f3, fun y n' hn' => (r1 y n' hn').trans (a4 y n' hn'), fun y => ?_, fun y hy hd => ?_, fun y hy hd hb => ?_, fun y hy hb => ?_, fun y hy hf => ?_, fun y hy hd x w hx hE hb => ?_⟩
  · show (if y = st then 1 else dn y) ≤ 1
    split
    · omega
    · exact a5 y
  · by_cases q : y = st
    · rw [q, est]; exact Nat.le_refl _
    · have hd2 : ¬ dn y = 0 := by
        intro z; apply hd; show (if y = st then 1 else dn y) = 0; rw [if_neg q]; exact z
      exact Nat.le_trans (r2 y).1 (a6 y hy hd2)
  · have hd1 : (if y = st then 1 else dn y) = 0 := hd
    by_cases q : y = st
    · rw [if_pos q] at hd1; exact absurd hd1 (by omega)
    · rw [if_neg q] at hd1
      rcases (r2 y).2 with z | ⟨-, w, -, z, -⟩
      · rw [z] at hb ⊢; exact a7 y hy hd1 hb
      · omega
  · rcases (r2 y).2 with z | ⟨-, w, hE, z, -⟩
    · rw [z] at hb ⊢; exact a8 y hy hb
    · obtain ⟨k, hk⟩ := a8 st hst (by omega)
      refine ⟨k + 1, st, w, F st n, hE, hk, ?_⟩
      omega
  · have := a9 y hy hf
    have := (r2 y).1
    omega
  · by_cases q : y = st
    · subst q
      rw [est] at hb ⊢
      exact f5 x w hx hE hb
    · have hd2 : ¬ dn y = 0 := by
        intro z; apply hd; show (if y = st then 1 else dn y) = 0; rw [if_neg q]; exact z
      rw [eold y hy hd2] at hb ⊢
      exact Nat.le_trans (r2 x).1 (a10 y hy hd2 x w hx hE hb)
theorem r_sum_all {f : Nat → Nat} (hf : ∀ t, f t ≤ 1) : ∀ n, n ≤ r_sum f n → ∀ t, t < n → f t = 1
  | 0, _, t, ht => absurd ht (by omega)
  | n + 1, h, t, ht => by
    have h1 := r_sum_le hf n
    have h2 := hf n
    have h3 : r_sum f (n + 1) = r_sum f n + f n := rfl
    by_cases q : t = n
    · rw [q]; omega
    · exact r_sum_all hf n (by omega) t (by omega)
theorem wt_min {sg : am_G0} (hV : r_VH sg) {n : Nat} {F : Nat → Nat → Nat} {dn : Nat → Nat} (h0 : ∀ s, s < 6480 → r_F1 sg n s → F s n = 0) (hd : ∀ s, s < 6480 → F s n < 256 → ¬ dn s = 0) (h7 : ∀ s', s' < 6480 → ¬ dn s' = 0 → ∀ s w, s < 6480 → r_E1 sg s s' w → F s' n + w < 256 → F s n ≤ F s' n + w) : ∀ k s c, s < 6480 → r_P1 sg n k s c → c < 256 → F s n ≤ c
  | 0, s, c, hs, hP, hc => by
    obtain ⟨h1, h2⟩ := hP
    rw [h0 s hs h1]; exact Nat.zero_le _
  | k + 1, s, c, hs, hP, hc => by
    obtain ⟨s', w, c', hE, hP', he⟩ := hP
    have v0 := hV.1
    have hs' : s' < 6480 := by
      have := hE.1
      omega
    have ih := wt_min hV h0 hd h7 k s' c' hs' hP' (by omega)
    have := h7 s' hs' (hd s' hs' (by omega)) s w hs hE (by omega)
    omega
section SR
variable {I : am_I} {L : am_L} {Q : Option Value → am_I → am_L → am_P → am_S → Prop} {h s n Lx : Nat} {sg : am_G0} {I0 : am_I} {L0 : am_L} {F0 F : Nat → Nat → Nat}
theorem l50c (rH : r_H I0 sg h) (hU : ∀ t, t < 4 → I0 2 t = nI (6 ^ t)) (hn : n < 5) (h6 : I0 51 6 = nI n) {mi : Nat} (hmi : mi < 256) (H : ∀ (I' : am_I) (L' : am_L) (F' : Nat → Nat → Nat) (dn : Nat → Nat) (i : Int32) (l5 : Option Value), wt_mi sg I0 L0 F0 n mi I' L' F' dn → (∀ y, y < 6480 → dn y = 0 → ¬ F' y n = mi) → Ex 50 101 [some (.ref 51), some (.ref h), some (.int (nI n)), some (.int (nI mi)), some (.int i), l5] [] I' L' (am_PT h s) (am_S1 Lx) Q) : ∀ m i (I : am_I) (L : am_L) (F : Nat → Nat → Nat) (dn : Nat → Nat) (l5 : Option Value), i + m = 6480 → wt_mi sg I0 L0 F0 n mi I L F dn → i ≤ r_sum dn 6480 → Ex 50 55 [some (.ref 51), some (.ref h), some (.int (nI n)), some (.int (nI mi)), some (.int (nI i)), l5] [] I L (am_PT h s) (am_S1 Lx) Q := by
  obtain ⟨hd, hV, -⟩ := id rH
  have P1 : (am_S1 Lx).1 h = (2, 0) := by rcases hd with rfl | rfl <;> rfl
  have hh0 : ¬ h = 0 := by omega
  have m9 : -nI 9 < nI 0 := by decide
  intro m
  induction m with
  | zero =>
    intro i I L F dn l5 hi hM hs
    obtain rfl : i = 6480 := by omega
    have all := r_sum_all hM.2.2.2.2.1 6480 hs
    rw [x50_55]
    simp +decide (disch := omega) only [x50_57, x50_60, ↓reduceIte, true_and, and_true, if_true, if_false, ne_eq, not_false_eq_true, am_u_at, am_nb0, am_nb1, am_fb0, am_fb1, am_kc_i, am_kc_r, am_kc_l, am_kc_n, am_wsum_n, am_wsum_i, am_wsum_r, am_wsum_l, am_rs_s, am_rs_n, am_S1_1, am_S1_2, am_S1_3, am_S1_4, am_S1_5, am_S1_6, am_S1_7, am_S1_8, am_S1_9, am_S1_10, am_S1_11, am_S1_12, am_S1_13, am_S1_14, am_S1_15, am_S1_16, am_S1_17, am_S1_18, am_S1_19, am_S1_20, am_S1_21, am_S1_22, am_S1_23, am_S1_24, am_S1_25, am_S1_26, am_S1_27, am_S1_28, am_S1_29, am_S1_30, am_S1_31, am_S1_32, am_S1_33, am_S1_34, am_S1_35, am_S1_36, am_S1_37, am_S1_38, am_S1_39, am_S1_40, am_S1_41, am_S1_42, am_S1_43, am_S1_44, am_S1_45, am_S1_46, am_S1_47, am_S1_48, am_S1_49, am_S1_50, am_S1_51, am_S1_52, am_S1_53, am_S1_54, am_S1_55, am_S1_56, am_S1_57, am_S1_58, am_S1_59, am_S1_60, am_S1_61, am_S1_62, am_S1_63, am_S1_64, am_S1_65, am_S1_66, am_S1_67, am_S1_68, am_S1_69, am_S1_70, am_S1_71, am_S1_72, am_S1_73, am_S1_74, am_S1_75, am_S1_76, am_S1_77, am_PT_3_1, am_PT_3_2, am_PT_3_0, am_PT_3_3, am_PT_3_4, am_PT_3_5, am_PT_3_6, am_PT_3_7, am_PT_3_8, am_PT_3_9, am_PT_3_10, am_PT_4_0, am_PT_6_6, am_PT_6_7, am_PT_6_8, am_PT_6_9, am_PT_6_10, am_PT_6_11, am_PT_13_6, am_PT_13_7, am_PT_13_8, am_PT_13_9, am_PT_13_10, am_PT_13_11, am_PT_20_3, am_PT_22_0, am_PT_23_0, am_PT_23_1, am_PT_23_2, am_PT_23_3, am_PT_23_4, am_PT_23_5, am_PT_23_6, am_PT_23_7, am_PT_23_8, am_PT_23_9, am_PT_24_3, am_PT_26_3, am_PT_28_3, am_PT_30_3, am_PT_32_3, am_PT_34_3, am_PT_36_3, am_PT_38_3, am_PT_40_3, am_PT_42_3, am_PT_44_0, am_PT_44_1, am_PT_46_2, am_PT_46_3, am_PT_46_4, am_PT_46_5, am_PT_51_0, am_PT_51_1, am_PT_51_2, am_PT_51_3, am_PT_51_4, am_PT_59_3, am_PT_61_3, am_PT_63_1, am_PT_63_3, am_PT_63_6, am_PT_63_7, am_PT_63_9, am_PT_63_10, am_PT_63_12, am_PT_63_14, am_PT_63_16, am_PT_63_25, am_PT_63_27, am_PT_63_30, am_PT_63_36, am_PT_63_37, n_c0, n_c1, n_c2, n_c3, n_c4, n_c5, n_c6, n_c7, n_c8, n_c9, n_c10, n_c11, n_c12, n_c14, n_c16, n_c18, n_c20, n_c24, n_c30, n_c31, n_c32, n_c36, n_c48, n_c57, n_c60, n_c63, n_c70, n_c75, n_c97, n_c100, n_c101, n_c104, n_c115, n_c116, n_c59, n_c150, n_c199, n_c200, n_c201, n_c216, n_c255, n_c256, n_c999, n_c1296, n_c4095, n_c6480, n_c100000, n_c1000, n_c65536, n_le, n_lt0, n_lt, n_eq, n_cl, n_add, n_sub, n_mul, n_div, n_rem, n_mo, n_in, n_nb0, n_nb1, n_fb0, n_fb1, n_vb0, n_vb1]
    exact H I L F dn _ l5 hM fun y hy hd0 => absurd (all y hy) (by omega)
  | succ m ih =>
    intro i I L F dn l5 hi hM hs
    have hM2 := hM
    obtain ⟨a1, a2, ⟨a3, a3', lst, b3⟩, a4, a5, a6, -⟩ := hM
    have c1 : ¬ 6480 ≤ i := by omega
    obtain ⟨b4, b5, b6⟩ := b3 mi hmi
    rw [x50_55]
    match hl : lst mi, b4 with
    | [], b4 =>
      have e : I 53 mi = -nI 9 := b4
      simp +decide (disch := omega) only [x50_57, x50_60, x50_63, x50_64, x50_67, x50_68, x50_69, ↓reduceIte, true_and, and_true, if_true, if_false, ne_eq, not_false_eq_true, am_u_at, am_nb0, am_nb1, am_fb0, am_fb1, am_kc_i, am_kc_r, am_kc_l, am_kc_n, am_wsum_n, am_wsum_i, am_wsum_r, am_wsum_l, am_rs_s, am_rs_n, am_S1_1, am_S1_2, am_S1_3, am_S1_4, am_S1_5, am_S1_6, am_S1_7, am_S1_8, am_S1_9, am_S1_10, am_S1_11, am_S1_12, am_S1_13, am_S1_14, am_S1_15, am_S1_16, am_S1_17, am_S1_18, am_S1_19, am_S1_20, am_S1_21, am_S1_22, am_S1_23, am_S1_24, am_S1_25, am_S1_26, am_S1_27, am_S1_28, am_S1_29, am_S1_30, am_S1_31, am_S1_32, am_S1_33, am_S1_34, am_S1_35, am_S1_36, am_S1_37, am_S1_38, am_S1_39, am_S1_40, am_S1_41, am_S1_42, am_S1_43, am_S1_44, am_S1_45, am_S1_46, am_S1_47, am_S1_48, am_S1_49, am_S1_50, am_S1_51, am_S1_52, am_S1_53, am_S1_54, am_S1_55, am_S1_56, am_S1_57, am_S1_58, am_S1_59, am_S1_60, am_S1_61, am_S1_62, am_S1_63, am_S1_64, am_S1_65, am_S1_66, am_S1_67, am_S1_68, am_S1_69, am_S1_70, am_S1_71, am_S1_72, am_S1_73, am_S1_74, am_S1_75, am_S1_76, am_S1_77, am_PT_3_1, am_PT_3_2, am_PT_3_0, am_PT_3_3, am_PT_3_4, am_PT_3_5, am_PT_3_6, am_PT_3_7, am_PT_3_8, am_PT_3_9, am_PT_3_10, am_PT_4_0, am_PT_6_6, am_PT_6_7, am_PT_6_8, am_PT_6_9, am_PT_6_10, am_PT_6_11, am_PT_13_6, am_PT_13_7, am_PT_13_8, am_PT_13_9, am_PT_13_10, am_PT_13_11, am_PT_20_3, am_PT_22_0, am_PT_23_0, am_PT_23_1, am_PT_23_2, am_PT_23_3, am_PT_23_4, am_PT_23_5, am_PT_23_6, am_PT_23_7, am_PT_23_8, am_PT_23_9, am_PT_24_3, am_PT_26_3, am_PT_28_3, am_PT_30_3, am_PT_32_3, am_PT_34_3, am_PT_36_3, am_PT_38_3, am_PT_40_3, am_PT_42_3, am_PT_44_0, am_PT_44_1, am_PT_46_2, am_PT_46_3, am_PT_46_4, am_PT_46_5, am_PT_51_0, am_PT_51_1, am_PT_51_2, am_PT_51_3, am_PT_51_4, am_PT_59_3, am_PT_61_3, am_PT_63_1, am_PT_63_3, am_PT_63_6, am_PT_63_7, am_PT_63_9, am_PT_63_10, am_PT_63_12, am_PT_63_14, am_PT_63_16, am_PT_63_25, am_PT_63_27, am_PT_63_30, am_PT_63_36, am_PT_63_37, n_c0, n_c1, n_c2, n_c3, n_c4, n_c5, n_c6, n_c7, n_c8, n_c9, n_c10, n_c11, n_c12, n_c14, n_c16, n_c18, n_c20, n_c24, n_c30, n_c31, n_c32, n_c36, n_c48, n_c57, n_c60, n_c63, n_c70, n_c75, n_c97, n_c100, n_c101, n_c104, n_c115, n_c116, n_c59, n_c150, n_c199, n_c200, n_c201, n_c216, n_c255, n_c256, n_c999, n_c1296, n_c4095, n_c6480, n_c100000, n_c1000, n_c65536, n_le, n_lt0, n_lt, n_eq, n_cl, n_add, n_sub, n_mul, n_div, n_rem, n_mo, n_in, n_nb0, n_nb1, n_fb0, n_fb1, n_vb0, n_vb1, c1, hmi, e, m9]
      refine H I L F dn _ l5 hM2 fun y hy hd0 hF => ?_
      have := (b6 y).mpr ⟨hy, hF, hd0⟩
      rw [hl] at this
      exact absurd this List.not_mem_nil
    | st :: l, b4 =>
      have e : I 53 mi = nI st := b4.1
      have mst : st ∈ lst mi := by rw [hl]; exact List.mem_cons_self
      obtain ⟨t1, t2, t3⟩ := (b6 st).mp mst
      have t2' : F st n = mi := t2
      have c2 : ¬ st < 0 := by omega
      have k5 : am_kc (some (Value.int (nI i))) = some (Value.int (nI i)) := am_kc_i
      simp +decide (disch := omega) only [x50_57, x50_60, x50_63, x50_64, x50_67, x50_68, x50_69, x50_72, x50_73, x50_76, x50_77, x50_78, x50_80, x50_81, x50_83, x50_84, ↓reduceIte, true_and, and_true, if_true, if_false, ne_eq, not_false_eq_true, am_u_at, am_nb0, am_nb1, am_fb0, am_fb1, am_kc_i, am_kc_r, am_kc_l, am_kc_n, am_wsum_n, am_wsum_i, am_wsum_r, am_wsum_l, am_rs_s, am_rs_n, am_S1_1, am_S1_2, am_S1_3, am_S1_4, am_S1_5, am_S1_6, am_S1_7, am_S1_8, am_S1_9, am_S1_10, am_S1_11, am_S1_12, am_S1_13, am_S1_14, am_S1_15, am_S1_16, am_S1_17, am_S1_18, am_S1_19, am_S1_20, am_S1_21, am_S1_22, am_S1_23, am_S1_24, am_S1_25, am_S1_26, am_S1_27, am_S1_28, am_S1_29, am_S1_30, am_S1_31, am_S1_32, am_S1_33, am_S1_34, am_S1_35, am_S1_36, am_S1_37, am_S1_38, am_S1_39, am_S1_40, am_S1_41, am_S1_42, am_S1_43, am_S1_44, am_S1_45, am_S1_46, am_S1_47, am_S1_48, am_S1_49, am_S1_50, am_S1_51, am_S1_52, am_S1_53, am_S1_54, am_S1_55, am_S1_56, am_S1_57, am_S1_58, am_S1_59, am_S1_60, am_S1_61, am_S1_62, am_S1_63, am_S1_64, am_S1_65, am_S1_66, am_S1_67, am_S1_68, am_S1_69, am_S1_70, am_S1_71, am_S1_72, am_S1_73, am_S1_74, am_S1_75, am_S1_76, am_S1_77, am_PT_3_1, am_PT_3_2, am_PT_3_0, am_PT_3_3, am_PT_3_4, am_PT_3_5, am_PT_3_6, am_PT_3_7, am_PT_3_8, am_PT_3_9, am_PT_3_10, am_PT_4_0, am_PT_6_6, am_PT_6_7, am_PT_6_8, am_PT_6_9, am_PT_6_10, am_PT_6_11, am_PT_13_6, am_PT_13_7, am_PT_13_8, am_PT_13_9, am_PT_13_10, am_PT_13_11, am_PT_20_3, am_PT_22_0, am_PT_23_0, am_PT_23_1, am_PT_23_2, am_PT_23_3, am_PT_23_4, am_PT_23_5, am_PT_23_6, am_PT_23_7, am_PT_23_8, am_PT_23_9, am_PT_24_3, am_PT_26_3, am_PT_28_3, am_PT_30_3, am_PT_32_3, am_PT_34_3, am_PT_36_3, am_PT_38_3, am_PT_40_3, am_PT_42_3, am_PT_44_0, am_PT_44_1, am_PT_46_2, am_PT_46_3, am_PT_46_4, am_PT_46_5, am_PT_51_0, am_PT_51_1, am_PT_51_2, am_PT_51_3, am_PT_51_4, am_PT_59_3, am_PT_61_3, am_PT_63_1, am_PT_63_3, am_PT_63_6, am_PT_63_7, am_PT_63_9, am_PT_63_10, am_PT_63_12, am_PT_63_14, am_PT_63_16, am_PT_63_25, am_PT_63_27, am_PT_63_30, am_PT_63_36, am_PT_63_37, n_c0, n_c1, n_c2, n_c3, n_c4, n_c5, n_c6, n_c7, n_c8, n_c9, n_c10, n_c11, n_c12, n_c14, n_c16, n_c18, n_c20, n_c24, n_c30, n_c31, n_c32, n_c36, n_c48, n_c57, n_c60, n_c63, n_c70, n_c75, n_c97, n_c100, n_c101, n_c104, n_c115, n_c116, n_c59, n_c150, n_c199, n_c200, n_c201, n_c216, n_c255, n_c256, n_c999, n_c1296, n_c4095, n_c6480, n_c100000, n_c1000, n_c65536, n_le, n_lt0, n_lt, n_eq, n_cl, n_add, n_sub, n_mul, n_div, n_rem, n_mo, n_in, n_nb0, n_nb1, n_fb0, n_fb1, n_vb0, n_vb1, c1, hmi, e, c2]
      refine s56 t1 hmi b3 mst fun I1 ls f1 w1 => ?_
      simp +decide (disch := omega) only [x50_87, x50_88, x50_89, x50_91, x50_92, ↓reduceIte, true_and, and_true, if_true, if_false, ne_eq, not_false_eq_true, am_u_at, am_nb0, am_nb1, am_fb0, am_fb1, am_kc_i, am_kc_r, am_kc_l, am_kc_n, am_wsum_n, am_wsum_i, am_wsum_r, am_wsum_l, am_rs_s, am_rs_n, am_S1_1, am_S1_2, am_S1_3, am_S1_4, am_S1_5, am_S1_6, am_S1_7, am_S1_8, am_S1_9, am_S1_10, am_S1_11, am_S1_12, am_S1_13, am_S1_14, am_S1_15, am_S1_16, am_S1_17, am_S1_18, am_S1_19, am_S1_20, am_S1_21, am_S1_22, am_S1_23, am_S1_24, am_S1_25, am_S1_26, am_S1_27, am_S1_28, am_S1_29, am_S1_30, am_S1_31, am_S1_32, am_S1_33, am_S1_34, am_S1_35, am_S1_36, am_S1_37, am_S1_38, am_S1_39, am_S1_40, am_S1_41, am_S1_42, am_S1_43, am_S1_44, am_S1_45, am_S1_46, am_S1_47, am_S1_48, am_S1_49, am_S1_50, am_S1_51, am_S1_52, am_S1_53, am_S1_54, am_S1_55, am_S1_56, am_S1_57, am_S1_58, am_S1_59, am_S1_60, am_S1_61, am_S1_62, am_S1_63, am_S1_64, am_S1_65, am_S1_66, am_S1_67, am_S1_68, am_S1_69, am_S1_70, am_S1_71, am_S1_72, am_S1_73, am_S1_74, am_S1_75, am_S1_76, am_S1_77, am_PT_3_1, am_PT_3_2, am_PT_3_0, am_PT_3_3, am_PT_3_4, am_PT_3_5, am_PT_3_6, am_PT_3_7, am_PT_3_8, am_PT_3_9, am_PT_3_10, am_PT_4_0, am_PT_6_6, am_PT_6_7, am_PT_6_8, am_PT_6_9, am_PT_6_10, am_PT_6_11, am_PT_13_6, am_PT_13_7, am_PT_13_8, am_PT_13_9, am_PT_13_10, am_PT_13_11, am_PT_20_3, am_PT_22_0, am_PT_23_0, am_PT_23_1, am_PT_23_2, am_PT_23_3, am_PT_23_4, am_PT_23_5, am_PT_23_6, am_PT_23_7, am_PT_23_8, am_PT_23_9, am_PT_24_3, am_PT_26_3, am_PT_28_3, am_PT_30_3, am_PT_32_3, am_PT_34_3, am_PT_36_3, am_PT_38_3, am_PT_40_3, am_PT_42_3, am_PT_44_0, am_PT_44_1, am_PT_46_2, am_PT_46_3, am_PT_46_4, am_PT_46_5, am_PT_51_0, am_PT_51_1, am_PT_51_2, am_PT_51_3, am_PT_51_4, am_PT_59_3, am_PT_61_3, am_PT_63_1, am_PT_63_3, am_PT_63_6, am_PT_63_7, am_PT_63_9, am_PT_63_10, am_PT_63_12, am_PT_63_14, am_PT_63_16, am_PT_63_25, am_PT_63_27, am_PT_63_30, am_PT_63_36, am_PT_63_37, n_c0, n_c1, n_c2, n_c3, n_c4, n_c5, n_c6, n_c7, n_c8, n_c9, n_c10, n_c11, n_c12, n_c14, n_c16, n_c18, n_c20, n_c24, n_c30, n_c31, n_c32, n_c36, n_c48, n_c57, n_c60, n_c63, n_c70, n_c75, n_c97, n_c100, n_c101, n_c104, n_c115, n_c116, n_c59, n_c150, n_c199, n_c200, n_c201, n_c216, n_c255, n_c256, n_c999, n_c1296, n_c4095, n_c6480, n_c100000, n_c1000, n_c65536, hh0]
      have inv1 : wt_inv I1 L F n (fun y => if y = st then 1 else dn y) := by
        refine ⟨a3, a3', ls, fun k hk => ⟨(w1 k hk).1, (w1 k hk).2.1, fun y => ?_⟩⟩
        rw [(w1 k hk).2.2 y, (b3 k hk).2.2 y]
        show (y < 6480 ∧ F y n = k ∧ dn y = 0) ∧ ¬ y = st ↔ y < 6480 ∧ F y n = k ∧ (if y = st then 1 else dn y) = 0
        by_cases q : y = st
        · rw [if_pos q]; exact ⟨fun z => absurd q z.2, fun z => absurd z.2.2 (by omega)⟩
        · rw [if_neg q]; exact ⟨fun z => z.1, fun z => ⟨z, q⟩⟩
      have fr1 : ∀ c, ¬ (53 ≤ c ∧ c ≤ 56) → I1 c = I c := fun c hc => f1 c (by omega) (by omega) (by omega)
      have rH1 : r_H I1 sg h := r_H_c rH (fun c p1 p2 => by rw [fr1 c (by omega), a1 c (by omega)]) (fun k _ => by rw [fr1 63 (by omega), a1 63 (by omega)]) (by rw [fr1 64 (by omega), a1 64 (by omega)]) (by rw [fr1 65 (by omega), a1 65 (by omega)]) (fun _ _ => rfl)
      refine s52 (I0 := I1) (L0 := L) (F0 := F) (sg := sg) (n := n) (dn := fun y => if y = st then 1 else dn y) rH1 (fun t ht => by rw [fr1 2 (by omega), a1 2 (by omega)]; exact hU t ht) hn (by rw [fr1 51 (by omega), a1 51 (by omega)]; exact h6) hmi t1 (fun y hy hdy => ?_) ⟨fun _ _ => rfl, fun _ _ => rfl, inv1, fun _ _ _ => rfl, fun _ => ⟨Nat.le_refl _, Or.inl rfl⟩⟩ fun I2 L2 F2 k1 k2 => ?_
      · by_cases q : y = st
        · rw [q, t2']; exact Nat.le_refl _
        · refine a6 y hy fun z => hdy ?_
          show (if y = st then 1 else dn y) = 0
          rw [if_neg q]; exact z
      · simp only [am_rs_n, x50_95, x50_98]
        have M2 : wt_mi sg I0 L0 F0 n mi I2 L2 F2 (fun y => if y = st then 1 else dn y) := wt_mi_step hM2 t1 t3 t2' hmi (fun c hc => (k1.1 c hc).trans (fr1 c hc)) k1.2.1 k1.2.2.1 k1.2.2.2 k2
        have e1 : nI i + 1 = nI (i + 1) := by
          show nI i + nI 1 = _
          rw [n_add]
        rw [e1]
        refine ih (i + 1) I2 L2 F2 _ _ (by omega) M2 ?_
        have := r_sum_one (f := fun y => if y = st then 1 else dn y) (g := dn) (j := st) (d := 1) 6480 t1 (fun t ht => if_neg ht) (by show (if st = st then 1 else dn st) = dn st + 1; rw [if_pos rfl, t3])
        omega
theorem l50d (rH : r_H I0 sg h) (hU : ∀ t, t < 4 → I0 2 t = nI (6 ^ t)) (hn : n < 5) (h6 : I0 51 6 = nI n) (H : ∀ (I' : am_I) (L' : am_L) (F' : Nat → Nat → Nat) (dn : Nat → Nat), wt_mi sg I0 L0 F0 n 256 I' L' F' dn → Q none I' L' (am_PT h s) (am_S1 Lx)) : ∀ m mi (I : am_I) (L : am_L) (F : Nat → Nat → Nat) (dn : Nat → Nat) (l4 l5 : Option Value), mi + m = 256 → wt_mi sg I0 L0 F0 n mi I L F dn → Ex 50 45 [some (.ref 51), some (.ref h), some (.int (nI n)), some (.int (nI mi)), l4, l5] [] I L (am_PT h s) (am_S1 Lx) Q := by
  intro m
  induction m with
  | zero =>
    intro mi I L F dn l4 l5 hmi hM
    obtain rfl : mi = 256 := by omega
    rw [x50_45]
    simp +decide (disch := omega) only [x50_46, x50_49, x50_107, ↓reduceIte, true_and, and_true, if_true, if_false, ne_eq, not_false_eq_true, am_u_at, am_nb0, am_nb1, am_fb0, am_fb1, am_kc_i, am_kc_r, am_kc_l, am_kc_n, am_wsum_n, am_wsum_i, am_wsum_r, am_wsum_l, am_rs_s, am_rs_n, am_S1_1, am_S1_2, am_S1_3, am_S1_4, am_S1_5, am_S1_6, am_S1_7, am_S1_8, am_S1_9, am_S1_10, am_S1_11, am_S1_12, am_S1_13, am_S1_14, am_S1_15, am_S1_16, am_S1_17, am_S1_18, am_S1_19, am_S1_20, am_S1_21, am_S1_22, am_S1_23, am_S1_24, am_S1_25, am_S1_26, am_S1_27, am_S1_28, am_S1_29, am_S1_30, am_S1_31, am_S1_32, am_S1_33, am_S1_34, am_S1_35, am_S1_36, am_S1_37, am_S1_38, am_S1_39, am_S1_40, am_S1_41, am_S1_42, am_S1_43, am_S1_44, am_S1_45, am_S1_46, am_S1_47, am_S1_48, am_S1_49, am_S1_50, am_S1_51, am_S1_52, am_S1_53, am_S1_54, am_S1_55, am_S1_56, am_S1_57, am_S1_58, am_S1_59, am_S1_60, am_S1_61, am_S1_62, am_S1_63, am_S1_64, am_S1_65, am_S1_66, am_S1_67, am_S1_68, am_S1_69, am_S1_70, am_S1_71, am_S1_72, am_S1_73, am_S1_74, am_S1_75, am_S1_76, am_S1_77, am_PT_3_1, am_PT_3_2, am_PT_3_0, am_PT_3_3, am_PT_3_4, am_PT_3_5, am_PT_3_6, am_PT_3_7, am_PT_3_8, am_PT_3_9, am_PT_3_10, am_PT_4_0, am_PT_6_6, am_PT_6_7, am_PT_6_8, am_PT_6_9, am_PT_6_10, am_PT_6_11, am_PT_13_6, am_PT_13_7, am_PT_13_8, am_PT_13_9, am_PT_13_10, am_PT_13_11, am_PT_20_3, am_PT_22_0, am_PT_23_0, am_PT_23_1, am_PT_23_2, am_PT_23_3, am_PT_23_4, am_PT_23_5, am_PT_23_6, am_PT_23_7, am_PT_23_8, am_PT_23_9, am_PT_24_3, am_PT_26_3, am_PT_28_3, am_PT_30_3, am_PT_32_3, am_PT_34_3, am_PT_36_3, am_PT_38_3, am_PT_40_3, am_PT_42_3, am_PT_44_0, am_PT_44_1, am_PT_46_2, am_PT_46_3, am_PT_46_4, am_PT_46_5, am_PT_51_0, am_PT_51_1, am_PT_51_2, am_PT_51_3, am_PT_51_4, am_PT_59_3, am_PT_61_3, am_PT_63_1, am_PT_63_3, am_PT_63_6, am_PT_63_7, am_PT_63_9, am_PT_63_10, am_PT_63_12, am_PT_63_14, am_PT_63_16, am_PT_63_25, am_PT_63_27, am_PT_63_30, am_PT_63_36, am_PT_63_37, n_c0, n_c1, n_c2, n_c3, n_c4, n_c5, n_c6, n_c7, n_c8, n_c9, n_c10, n_c11, n_c12, n_c14, n_c16, n_c18, n_c20, n_c24, n_c30, n_c31, n_c32, n_c36, n_c48, n_c57, n_c60, n_c63, n_c70, n_c75, n_c97, n_c100, n_c101, n_c104, n_c115, n_c116, n_c59, n_c150, n_c199, n_c200, n_c201, n_c216, n_c255, n_c256, n_c999, n_c1296, n_c4095, n_c6480, n_c100000, n_c1000, n_c65536, n_le, n_lt0, n_lt, n_eq, n_cl, n_add, n_sub, n_mul, n_div, n_rem, n_mo, n_in, n_nb0, n_nb1, n_fb0, n_fb1, n_vb0, n_vb1]
    exact H I L F dn hM
  | succ m ih =>
    intro mi I L F dn l4 l5 hmi hM
    have c1 : ¬ 256 ≤ mi := by omega
    rw [x50_45]
    simp +decide (disch := omega) only [x50_46, x50_49, x50_52, x50_53, ↓reduceIte, true_and, and_true, if_true, if_false, ne_eq, not_false_eq_true, am_u_at, am_nb0, am_nb1, am_fb0, am_fb1, am_kc_i, am_kc_r, am_kc_l, am_kc_n, am_wsum_n, am_wsum_i, am_wsum_r, am_wsum_l, am_rs_s, am_rs_n, am_S1_1, am_S1_2, am_S1_3, am_S1_4, am_S1_5, am_S1_6, am_S1_7, am_S1_8, am_S1_9, am_S1_10, am_S1_11, am_S1_12, am_S1_13, am_S1_14, am_S1_15, am_S1_16, am_S1_17, am_S1_18, am_S1_19, am_S1_20, am_S1_21, am_S1_22, am_S1_23, am_S1_24, am_S1_25, am_S1_26, am_S1_27, am_S1_28, am_S1_29, am_S1_30, am_S1_31, am_S1_32, am_S1_33, am_S1_34, am_S1_35, am_S1_36, am_S1_37, am_S1_38, am_S1_39, am_S1_40, am_S1_41, am_S1_42, am_S1_43, am_S1_44, am_S1_45, am_S1_46, am_S1_47, am_S1_48, am_S1_49, am_S1_50, am_S1_51, am_S1_52, am_S1_53, am_S1_54, am_S1_55, am_S1_56, am_S1_57, am_S1_58, am_S1_59, am_S1_60, am_S1_61, am_S1_62, am_S1_63, am_S1_64, am_S1_65, am_S1_66, am_S1_67, am_S1_68, am_S1_69, am_S1_70, am_S1_71, am_S1_72, am_S1_73, am_S1_74, am_S1_75, am_S1_76, am_S1_77, am_PT_3_1, am_PT_3_2, am_PT_3_0, am_PT_3_3, am_PT_3_4, am_PT_3_5, am_PT_3_6, am_PT_3_7, am_PT_3_8, am_PT_3_9, am_PT_3_10, am_PT_4_0, am_PT_6_6, am_PT_6_7, am_PT_6_8, am_PT_6_9, am_PT_6_10, am_PT_6_11, am_PT_13_6, am_PT_13_7, am_PT_13_8, am_PT_13_9, am_PT_13_10, am_PT_13_11, am_PT_20_3, am_PT_22_0, am_PT_23_0, am_PT_23_1, am_PT_23_2, am_PT_23_3, am_PT_23_4, am_PT_23_5, am_PT_23_6, am_PT_23_7, am_PT_23_8, am_PT_23_9, am_PT_24_3, am_PT_26_3, am_PT_28_3, am_PT_30_3, am_PT_32_3, am_PT_34_3, am_PT_36_3, am_PT_38_3, am_PT_40_3, am_PT_42_3, am_PT_44_0, am_PT_44_1, am_PT_46_2, am_PT_46_3, am_PT_46_4, am_PT_46_5, am_PT_51_0, am_PT_51_1, am_PT_51_2, am_PT_51_3, am_PT_51_4, am_PT_59_3, am_PT_61_3, am_PT_63_1, am_PT_63_3, am_PT_63_6, am_PT_63_7, am_PT_63_9, am_PT_63_10, am_PT_63_12, am_PT_63_14, am_PT_63_16, am_PT_63_25, am_PT_63_27, am_PT_63_30, am_PT_63_36, am_PT_63_37, n_c0, n_c1, n_c2, n_c3, n_c4, n_c5, n_c6, n_c7, n_c8, n_c9, n_c10, n_c11, n_c12, n_c14, n_c16, n_c18, n_c20, n_c24, n_c30, n_c31, n_c32, n_c36, n_c48, n_c57, n_c60, n_c63, n_c70, n_c75, n_c97, n_c100, n_c101, n_c104, n_c115, n_c116, n_c59, n_c150, n_c199, n_c200, n_c201, n_c216, n_c255, n_c256, n_c999, n_c1296, n_c4095, n_c6480, n_c100000, n_c1000, n_c65536, n_le, n_lt0, n_lt, n_eq, n_cl, n_add, n_sub, n_mul, n_div, n_rem, n_mo, n_in, n_nb0, n_nb1, n_fb0, n_fb1, n_vb0, n_vb1, c1]
    refine l50c rH hU hn h6 (show mi < 256 by omega) (fun I2 L2 F2 dn2 i l5' hM2 hE => ?_) 6480 0 I L F dn l5 (by omega) hM (Nat.zero_le _)
    simp +decide (disch := omega) only [x50_101, x50_104, ↓reduceIte, true_and, and_true, if_true, if_false, ne_eq, not_false_eq_true, am_u_at, am_nb0, am_nb1, am_fb0, am_fb1, am_kc_i, am_kc_r, am_kc_l, am_kc_n, am_wsum_n, am_wsum_i, am_wsum_r, am_wsum_l, am_rs_s, am_rs_n, n_c0, n_c1, n_c2, n_c3, n_c4, n_c5, n_c6, n_c7, n_c8, n_c9, n_c10, n_c11, n_c12, n_c14, n_c16, n_c18, n_c20, n_c24, n_c30, n_c31, n_c32, n_c36, n_c48, n_c57, n_c60, n_c63, n_c70, n_c75, n_c97, n_c100, n_c101, n_c104, n_c115, n_c116, n_c59, n_c150, n_c199, n_c200, n_c201, n_c216, n_c255, n_c256, n_c999, n_c1296, n_c4095, n_c6480, n_c100000, n_c1000, n_c65536, n_add]
    obtain ⟨a1, a2, a3, a4, a5, a6, a7, a8, a9, a10⟩ := hM2
    refine ih (mi + 1) I2 L2 F2 dn2 _ _ (by omega) ⟨a1, a2, a3, a4, a5, fun y hy hd => Nat.le_succ_of_le (a6 y hy hd), fun y hy hd hb => ?_, a8, a9, a10⟩
    have := a7 y hy hd hb
    have := hE y hy hd
    omega
theorem s50 (rH : r_H I sg h) (hU : ∀ t, t < 4 → I 2 t = nI (6 ^ t)) (hn : n < 5) (hF : wt_tb L F) (H : ∀ (I' : am_I) (L' : am_L) (F' : Nat → Nat → Nat), (∀ c, ¬ (53 ≤ c ∧ c ≤ 56) → ¬ c = 51 → I' c = I c) → (∀ k, ¬ k = 6 → I' 51 k = I 51 k) → (∀ c, ¬ c = 52 → L' c = L c) → wt_tb L' F' → (∀ s n', ¬ n' = n → F' s n' = F s n') → (∀ s, s < 6480 → r_least (fun c => c < 256 ∧ ∃ k, r_P1 sg n k s c) 4095 (F' s n)) → Q none I' L' (am_PT h s) (am_S1 Lx)) : Ev 50 [.ref 51, .ref h, .int (nI n)] I L (am_PT h s) (am_S1 Lx) Q := by
  obtain ⟨hd, hV, -⟩ := id rH
  have P1 : (am_S1 Lx).1 h = (2, 0) := by rcases hd with rfl | rfl <;> rfl
  have hh0 : ¬ h = 0 := by omega
  simp +decide (disch := omega) only [xe50, x50_0, x50_1, x50_2, x50_5, x50_6, x50_9, x50_11, ↓reduceIte, true_and, and_true, if_true, if_false, ne_eq, not_false_eq_true, am_u_at, am_nb0, am_nb1, am_fb0, am_fb1, am_kc_i, am_kc_r, am_kc_l, am_kc_n, am_wsum_n, am_wsum_i, am_wsum_r, am_wsum_l, am_rs_s, am_rs_n, am_S1_1, am_S1_2, am_S1_3, am_S1_4, am_S1_5, am_S1_6, am_S1_7, am_S1_8, am_S1_9, am_S1_10, am_S1_11, am_S1_12, am_S1_13, am_S1_14, am_S1_15, am_S1_16, am_S1_17, am_S1_18, am_S1_19, am_S1_20, am_S1_21, am_S1_22, am_S1_23, am_S1_24, am_S1_25, am_S1_26, am_S1_27, am_S1_28, am_S1_29, am_S1_30, am_S1_31, am_S1_32, am_S1_33, am_S1_34, am_S1_35, am_S1_36, am_S1_37, am_S1_38, am_S1_39, am_S1_40, am_S1_41, am_S1_42, am_S1_43, am_S1_44, am_S1_45, am_S1_46, am_S1_47, am_S1_48, am_S1_49, am_S1_50, am_S1_51, am_S1_52, am_S1_53, am_S1_54, am_S1_55, am_S1_56, am_S1_57, am_S1_58, am_S1_59, am_S1_60, am_S1_61, am_S1_62, am_S1_63, am_S1_64, am_S1_65, am_S1_66, am_S1_67, am_S1_68, am_S1_69, am_S1_70, am_S1_71, am_S1_72, am_S1_73, am_S1_74, am_S1_75, am_S1_76, am_S1_77, am_PT_3_1, am_PT_3_2, am_PT_3_0, am_PT_3_3, am_PT_3_4, am_PT_3_5, am_PT_3_6, am_PT_3_7, am_PT_3_8, am_PT_3_9, am_PT_3_10, am_PT_4_0, am_PT_6_6, am_PT_6_7, am_PT_6_8, am_PT_6_9, am_PT_6_10, am_PT_6_11, am_PT_13_6, am_PT_13_7, am_PT_13_8, am_PT_13_9, am_PT_13_10, am_PT_13_11, am_PT_20_3, am_PT_22_0, am_PT_23_0, am_PT_23_1, am_PT_23_2, am_PT_23_3, am_PT_23_4, am_PT_23_5, am_PT_23_6, am_PT_23_7, am_PT_23_8, am_PT_23_9, am_PT_24_3, am_PT_26_3, am_PT_28_3, am_PT_30_3, am_PT_32_3, am_PT_34_3, am_PT_36_3, am_PT_38_3, am_PT_40_3, am_PT_42_3, am_PT_44_0, am_PT_44_1, am_PT_46_2, am_PT_46_3, am_PT_46_4, am_PT_46_5, am_PT_51_0, am_PT_51_1, am_PT_51_2, am_PT_51_3, am_PT_51_4, am_PT_59_3, am_PT_61_3, am_PT_63_1, am_PT_63_3, am_PT_63_6, am_PT_63_7, am_PT_63_9, am_PT_63_10, am_PT_63_12, am_PT_63_14, am_PT_63_16, am_PT_63_25, am_PT_63_27, am_PT_63_30, am_PT_63_36, am_PT_63_37, n_c0, n_c1, n_c2, n_c3, n_c4, n_c5, n_c6, n_c7, n_c8, n_c9, n_c10, n_c11, n_c12, n_c14, n_c16, n_c18, n_c20, n_c24, n_c30, n_c31, n_c32, n_c36, n_c48, n_c57, n_c60, n_c63, n_c70, n_c75, n_c97, n_c100, n_c101, n_c104, n_c115, n_c116, n_c59, n_c150, n_c199, n_c200, n_c201, n_c216, n_c255, n_c256, n_c999, n_c1296, n_c4095, n_c6480, n_c100000, n_c1000, n_c65536]
  rw [s158 (S := am_S1 Lx) (a := 53) (n := 256) rfl (by omega) (by omega)]
  simp +decide (disch := omega) only [x50_14, x50_15, ↓reduceIte, true_and, and_true, if_true, if_false, ne_eq, not_false_eq_true, am_u_at, am_nb0, am_nb1, am_fb0, am_fb1, am_kc_i, am_kc_r, am_kc_l, am_kc_n, am_wsum_n, am_wsum_i, am_wsum_r, am_wsum_l, am_rs_s, am_rs_n, am_S1_1, am_S1_2, am_S1_3, am_S1_4, am_S1_5, am_S1_6, am_S1_7, am_S1_8, am_S1_9, am_S1_10, am_S1_11, am_S1_12, am_S1_13, am_S1_14, am_S1_15, am_S1_16, am_S1_17, am_S1_18, am_S1_19, am_S1_20, am_S1_21, am_S1_22, am_S1_23, am_S1_24, am_S1_25, am_S1_26, am_S1_27, am_S1_28, am_S1_29, am_S1_30, am_S1_31, am_S1_32, am_S1_33, am_S1_34, am_S1_35, am_S1_36, am_S1_37, am_S1_38, am_S1_39, am_S1_40, am_S1_41, am_S1_42, am_S1_43, am_S1_44, am_S1_45, am_S1_46, am_S1_47, am_S1_48, am_S1_49, am_S1_50, am_S1_51, am_S1_52, am_S1_53, am_S1_54, am_S1_55, am_S1_56, am_S1_57, am_S1_58, am_S1_59, am_S1_60, am_S1_61, am_S1_62, am_S1_63, am_S1_64, am_S1_65, am_S1_66, am_S1_67, am_S1_68, am_S1_69, am_S1_70, am_S1_71, am_S1_72, am_S1_73, am_S1_74, am_S1_75, am_S1_76, am_S1_77, am_PT_3_1, am_PT_3_2, am_PT_3_0, am_PT_3_3, am_PT_3_4, am_PT_3_5, am_PT_3_6, am_PT_3_7, am_PT_3_8, am_PT_3_9, am_PT_3_10, am_PT_4_0, am_PT_6_6, am_PT_6_7, am_PT_6_8, am_PT_6_9, am_PT_6_10, am_PT_6_11, am_PT_13_6, am_PT_13_7, am_PT_13_8, am_PT_13_9, am_PT_13_10, am_PT_13_11, am_PT_20_3, am_PT_22_0, am_PT_23_0, am_PT_23_1, am_PT_23_2, am_PT_23_3, am_PT_23_4, am_PT_23_5, am_PT_23_6, am_PT_23_7, am_PT_23_8, am_PT_23_9, am_PT_24_3, am_PT_26_3, am_PT_28_3, am_PT_30_3, am_PT_32_3, am_PT_34_3, am_PT_36_3, am_PT_38_3, am_PT_40_3, am_PT_42_3, am_PT_44_0, am_PT_44_1, am_PT_46_2, am_PT_46_3, am_PT_46_4, am_PT_46_5, am_PT_51_0, am_PT_51_1, am_PT_51_2, am_PT_51_3, am_PT_51_4, am_PT_59_3, am_PT_61_3, am_PT_63_1, am_PT_63_3, am_PT_63_6, am_PT_63_7, am_PT_63_9, am_PT_63_10, am_PT_63_12, am_PT_63_14, am_PT_63_16, am_PT_63_25, am_PT_63_27, am_PT_63_30, am_PT_63_36, am_PT_63_37, n_c0, n_c1, n_c2, n_c3, n_c4, n_c5, n_c6, n_c7, n_c8, n_c9, n_c10, n_c11, n_c12, n_c14, n_c16, n_c18, n_c20, n_c24, n_c30, n_c31, n_c32, n_c36, n_c48, n_c57, n_c60, n_c63, n_c70, n_c75, n_c97, n_c100, n_c101, n_c104, n_c115, n_c116, n_c59, n_c150, n_c199, n_c200, n_c201, n_c216, n_c255, n_c256, n_c999, n_c1296, n_c4095, n_c6480, n_c100000, n_c1000, n_c65536]
  refine l50a (F0 := F) (L0 := L) hn (fun L1 F1 f1 f2 f3 f4 => ?_) 6480 0 L F (by omega) (fun _ _ => rfl) hF (fun y hy => absurd hy (by omega)) (fun _ _ _ => rfl)
  simp +decide (disch := omega) only [x50_38, x50_39, x50_40, ↓reduceIte, true_and, and_true, if_true, if_false, ne_eq, not_false_eq_true, am_u_at, am_nb0, am_nb1, am_fb0, am_fb1, am_kc_i, am_kc_r, am_kc_l, am_kc_n, am_wsum_n, am_wsum_i, am_wsum_r, am_wsum_l, am_rs_s, am_rs_n, am_S1_1, am_S1_2, am_S1_3, am_S1_4, am_S1_5, am_S1_6, am_S1_7, am_S1_8, am_S1_9, am_S1_10, am_S1_11, am_S1_12, am_S1_13, am_S1_14, am_S1_15, am_S1_16, am_S1_17, am_S1_18, am_S1_19, am_S1_20, am_S1_21, am_S1_22, am_S1_23, am_S1_24, am_S1_25, am_S1_26, am_S1_27, am_S1_28, am_S1_29, am_S1_30, am_S1_31, am_S1_32, am_S1_33, am_S1_34, am_S1_35, am_S1_36, am_S1_37, am_S1_38, am_S1_39, am_S1_40, am_S1_41, am_S1_42, am_S1_43, am_S1_44, am_S1_45, am_S1_46, am_S1_47, am_S1_48, am_S1_49, am_S1_50, am_S1_51, am_S1_52, am_S1_53, am_S1_54, am_S1_55, am_S1_56, am_S1_57, am_S1_58, am_S1_59, am_S1_60, am_S1_61, am_S1_62, am_S1_63, am_S1_64, am_S1_65, am_S1_66, am_S1_67, am_S1_68, am_S1_69, am_S1_70, am_S1_71, am_S1_72, am_S1_73, am_S1_74, am_S1_75, am_S1_76, am_S1_77, am_PT_3_1, am_PT_3_2, am_PT_3_0, am_PT_3_3, am_PT_3_4, am_PT_3_5, am_PT_3_6, am_PT_3_7, am_PT_3_8, am_PT_3_9, am_PT_3_10, am_PT_4_0, am_PT_6_6, am_PT_6_7, am_PT_6_8, am_PT_6_9, am_PT_6_10, am_PT_6_11, am_PT_13_6, am_PT_13_7, am_PT_13_8, am_PT_13_9, am_PT_13_10, am_PT_13_11, am_PT_20_3, am_PT_22_0, am_PT_23_0, am_PT_23_1, am_PT_23_2, am_PT_23_3, am_PT_23_4, am_PT_23_5, am_PT_23_6, am_PT_23_7, am_PT_23_8, am_PT_23_9, am_PT_24_3, am_PT_26_3, am_PT_28_3, am_PT_30_3, am_PT_32_3, am_PT_34_3, am_PT_36_3, am_PT_38_3, am_PT_40_3, am_PT_42_3, am_PT_44_0, am_PT_44_1, am_PT_46_2, am_PT_46_3, am_PT_46_4, am_PT_46_5, am_PT_51_0, am_PT_51_1, am_PT_51_2, am_PT_51_3, am_PT_51_4, am_PT_59_3, am_PT_61_3, am_PT_63_1, am_PT_63_3, am_PT_63_6, am_PT_63_7, am_PT_63_9, am_PT_63_10, am_PT_63_12, am_PT_63_14, am_PT_63_16, am_PT_63_25, am_PT_63_27, am_PT_63_30, am_PT_63_36, am_PT_63_37, n_c0, n_c1, n_c2, n_c3, n_c4, n_c5, n_c6, n_c7, n_c8, n_c9, n_c10, n_c11, n_c12, n_c14, n_c16, n_c18, n_c20, n_c24, n_c30, n_c31, n_c32, n_c36, n_c48, n_c57, n_c60, n_c63, n_c70, n_c75, n_c97, n_c100, n_c101, n_c104, n_c115, n_c116, n_c59, n_c150, n_c199, n_c200, n_c201, n_c216, n_c255, n_c256, n_c999, n_c1296, n_c4095, n_c6480, n_c100000, n_c1000, n_c65536, hh0]
  let J : am_I := am_row (am_u I 51 6 (nI n)) 53 (fun j => if j < 256 then -nI 9 else am_u I 51 6 (nI n) 53 j)
  show Ev 51 [.ref 51, .ref h] J L1 (am_PT h s) (am_S1 Lx) _
  have jc : ∀ c, ¬ c = 51 → ¬ c = 53 → J c = I c := fun c h1 h2 => by
    show am_row (am_u I 51 6 (nI n)) 53 _ c = I c
    rw [am_row_ne h2, am_u_ne h1]
  have j6 : J 51 6 = nI n := by
    show am_row (am_u I 51 6 (nI n)) 53 _ 51 6 = nI n
    rw [am_row_ne (by omega)]; simp only [am_u_at, if_true]
  have j51 : ∀ k, ¬ k = 6 → J 51 k = I 51 k := fun k hk => by
    show am_row (am_u I 51 6 (nI n)) 53 _ 51 k = I 51 k
    rw [am_row_ne (by omega), am_u_at, if_pos rfl, if_neg hk]
  have j53 : ∀ k, k < 256 → J 53 k = -nI 9 := fun k hk => by
    show am_row (am_u I 51 6 (nI n)) 53 _ 53 k = -nI 9
    rw [am_row_at, if_pos rfl, if_pos hk]
  have jU : ∀ t, t < 4 → J 2 t = nI (6 ^ t) := fun t ht => by rw [jc 2 (by omega) (by omega)]; exact hU t ht
  have rHJ : r_H J sg h := r_H_c rH (fun c p1 p2 => jc c (by omega) (by omega)) (fun k _ => by rw [jc 63 (by omega) (by omega)]) (jc 64 (by omega) (by omega)) (jc 65 (by omega) (by omega)) (fun _ _ => rfl)
  have inv0 : wt_inv J L1 F1 n (fun _ => 0) := by
    refine ⟨f2, fun y hy => Or.inl (f3 y hy), fun _ => [], fun m hm => ⟨j53 m hm, List.nodup_nil, fun y => ⟨fun q => absurd q List.not_mem_nil, fun q => ?_⟩⟩⟩
    have h1 := f3 y q.1
    have h2 : F1 y n = m := q.2.1
    omega
  simp only [xe51]
  simp +decide (disch := omega) only [x51_0, x51_1, ↓reduceIte, true_and, and_true, if_true, if_false, ne_eq, not_false_eq_true, am_u_at, am_nb0, am_nb1, am_fb0, am_fb1, am_kc_i, am_kc_r, am_kc_l, am_kc_n, am_wsum_n, am_wsum_i, am_wsum_r, am_wsum_l, am_rs_s, am_rs_n, n_c0, n_c1, n_c2, n_c3, n_c4, n_c5, n_c6, n_c7, n_c8, n_c9, n_c10, n_c11, n_c12, n_c14, n_c16, n_c18, n_c20, n_c24, n_c30, n_c31, n_c32, n_c36, n_c48, n_c57, n_c60, n_c63, n_c70, n_c75, n_c97, n_c100, n_c101, n_c104, n_c115, n_c116, n_c59, n_c150, n_c199, n_c200, n_c201, n_c216, n_c255, n_c256, n_c999, n_c1296, n_c4095, n_c6480, n_c100000, n_c1000, n_c65536]
  refine l51a (F0 := F1) (L0 := L1) rHJ jU hn j6 (fun I2 L2 F2 p1 p2 p3 p4 p5 => ?_) (2 ^ sg 0 1) 0 J L1 F1 none none (by omega) (Or.inl ⟨rfl, rfl⟩) (fun _ _ => rfl) (fun _ _ => rfl) inv0 ⟨fun _ _ _ => rfl, fun _ => Or.inl rfl⟩ (fun r a hr => absurd hr (by omega))
  simp +decide (disch := omega) only [x50_43, x50_44, ↓reduceIte, true_and, and_true, if_true, if_false, ne_eq, not_false_eq_true, am_u_at, am_nb0, am_nb1, am_fb0, am_fb1, am_kc_i, am_kc_r, am_kc_l, am_kc_n, am_wsum_n, am_wsum_i, am_wsum_r, am_wsum_l, am_rs_s, am_rs_n, am_S1_1, am_S1_2, am_S1_3, am_S1_4, am_S1_5, am_S1_6, am_S1_7, am_S1_8, am_S1_9, am_S1_10, am_S1_11, am_S1_12, am_S1_13, am_S1_14, am_S1_15, am_S1_16, am_S1_17, am_S1_18, am_S1_19, am_S1_20, am_S1_21, am_S1_22, am_S1_23, am_S1_24, am_S1_25, am_S1_26, am_S1_27, am_S1_28, am_S1_29, am_S1_30, am_S1_31, am_S1_32, am_S1_33, am_S1_34, am_S1_35, am_S1_36, am_S1_37, am_S1_38, am_S1_39, am_S1_40, am_S1_41, am_S1_42, am_S1_43, am_S1_44, am_S1_45, am_S1_46, am_S1_47, am_S1_48, am_S1_49, am_S1_50, am_S1_51, am_S1_52, am_S1_53, am_S1_54, am_S1_55, am_S1_56, am_S1_57, am_S1_58, am_S1_59, am_S1_60, am_S1_61, am_S1_62, am_S1_63, am_S1_64, am_S1_65, am_S1_66, am_S1_67, am_S1_68, am_S1_69, am_S1_70, am_S1_71, am_S1_72, am_S1_73, am_S1_74, am_S1_75, am_S1_76, am_S1_77, am_PT_3_1, am_PT_3_2, am_PT_3_0, am_PT_3_3, am_PT_3_4, am_PT_3_5, am_PT_3_6, am_PT_3_7, am_PT_3_8, am_PT_3_9, am_PT_3_10, am_PT_4_0, am_PT_6_6, am_PT_6_7, am_PT_6_8, am_PT_6_9, am_PT_6_10, am_PT_6_11, am_PT_13_6, am_PT_13_7, am_PT_13_8, am_PT_13_9, am_PT_13_10, am_PT_13_11, am_PT_20_3, am_PT_22_0, am_PT_23_0, am_PT_23_1, am_PT_23_2, am_PT_23_3, am_PT_23_4, am_PT_23_5, am_PT_23_6, am_PT_23_7, am_PT_23_8, am_PT_23_9, am_PT_24_3, am_PT_26_3, am_PT_28_3, am_PT_30_3, am_PT_32_3, am_PT_34_3, am_PT_36_3, am_PT_38_3, am_PT_40_3, am_PT_42_3, am_PT_44_0, am_PT_44_1, am_PT_46_2, am_PT_46_3, am_PT_46_4, am_PT_46_5, am_PT_51_0, am_PT_51_1, am_PT_51_2, am_PT_51_3, am_PT_51_4, am_PT_59_3, am_PT_61_3, am_PT_63_1, am_PT_63_3, am_PT_63_6, am_PT_63_7, am_PT_63_9, am_PT_63_10, am_PT_63_12, am_PT_63_14, am_PT_63_16, am_PT_63_25, am_PT_63_27, am_PT_63_30, am_PT_63_36, am_PT_63_37, n_c0, n_c1, n_c2, n_c3, n_c4, n_c5, n_c6, n_c7, n_c8, n_c9, n_c10, n_c11, n_c12, n_c14, n_c16, n_c18, n_c20, n_c24, n_c30, n_c31, n_c32, n_c36, n_c48, n_c57, n_c60, n_c63, n_c70, n_c75, n_c97, n_c100, n_c101, n_c104, n_c115, n_c116, n_c59, n_c150, n_c199, n_c200, n_c201, n_c216, n_c255, n_c256, n_c999, n_c1296, n_c4095, n_c6480, n_c100000, n_c1000, n_c65536]
  have v2 : ∀ y, y < 6480 → F2 y n < 256 → F2 y n = 0 ∧ r_F1 sg n y := by
    intro y hy hb
    rcases p4.2 y with q | q
    · have := f3 y hy; omega
    · exact q
  refine l50d (F0 := F) (L0 := L) rHJ jU hn j6 (fun I3 L3 F3 dn hM => ?_) 256 0 I2 L2 F2 (fun _ => 0) none none (by omega) ⟨p1, fun c hc => (p2 c hc).trans (f1 c hc), p3, fun y n' hn' => (p4.1 y n' hn').trans (f4 y n' hn'), fun _ => Nat.zero_le _, fun y _ q => absurd rfl q, fun _ _ _ _ => Nat.zero_le _, fun y hy hb => ?_, fun y _ hf => p5 y hf, fun y _ q => absurd rfl q⟩
  · obtain ⟨a1, a2, ⟨a3, a3', -⟩, a4, a5, a6, a7, a8, a9, a10⟩ := hM
    refine H I3 L3 F3 (fun c h1 h2 => (a1 c h1).trans (jc c h2 (by omega))) (fun k hk => by rw [a1 51 (by omega)]; exact j51 k hk) a2 a3 a4 fun y hy => ?_
    have dall : ∀ y, y < 6480 → F3 y n < 256 → ¬ dn y = 0 := fun y hy hb q => by
      have := a7 y hy q hb
      omega
    have mn := wt_min hV a9 dall a10
    rcases a3' y hy with q | q
    · right
      refine ⟨q, fun c hc => ?_⟩
      obtain ⟨c1, k, hk⟩ := hc
      have := mn k y c hy hk c1
      omega
    · left
      exact ⟨⟨q, a8 y hy q⟩, fun c hc => mn _ y c hy hc.2.choose_spec hc.1⟩
  · obtain ⟨q1, q2⟩ := v2 y hy hb
    exact ⟨0, q2, q1⟩
end SR
