/-! the nearest seat -/
def r_nr (sg : am_G0) (s : Nat) : Nat → Nat
  | 0 => 100
  | k + 1 => if ¬ k = s ∧ (r_nr sg s k = 100 ∨ r_way sg s k < r_way sg s (r_nr sg s k)) then k else r_nr sg s k
theorem r_nr_lt {sg : am_G0} {s : Nat} : ∀ k, k ≤ 4 → r_nr sg s k = 100 ∨ r_nr sg s k < k
  | 0, _ => Or.inl rfl
  | k + 1, h => by
    have := r_nr_lt (sg := sg) (s := s) k (by omega)
    simp only [r_nr]; split <;> omega
def v_nr (v : Nat) : Int32 := if v = 100 then -nI 9 else nI v
section NE
variable {I : am_I} {L : am_L} {Q : Option Value → am_I → am_L → am_P → am_S → Prop} {h s n Lx s0 : Nat} {sg : am_G0}
theorem l17 (hd : h = 6 ∨ h = 13) (hV : r_VH sg) (hn : I h 0 = nI (sg 0 0)) (hs : s0 < sg 0 0) (e16 : ∀ b, b < sg 0 0 → ∀ Q, Ev 16 [.ref h, .int (nI s0), .int (nI b)] I L (am_PT h s) (am_S1 Lx) Q ↔ Q (some (.int (nI (r_way sg s0 b)))) I L (am_PT h s) (am_S1 Lx)) : ∀ m k, k + m = sg 0 0 →
    (Ex 17 5 [some (.ref h), some (.int (nI s0)), some (.int (v_nr (r_nr sg s0 k))), some (.int (nI k))] [] I L (am_PT h s) (am_S1 Lx) Q ↔ Q (some (.int (v_nr (r_nr sg s0 (sg 0 0))))) I L (am_PT h s) (am_S1 Lx)) := by
  have P1 : (am_S1 Lx).1 h = (2, 0) := by rcases hd with rfl | rfl <;> rfl
  have v0 := hV.1
  intro m
  induction m with
  | zero =>
    intro k hk
    obtain rfl : k = sg 0 0 := by omega
    simp +decide (disch := omega) only [xe17, x17_0, x17_2, x17_3, x17_4, x17_5, x17_6, x17_7, x17_10, x17_13, x17_14, x17_15, x17_18, x17_19, x17_21, x17_24, x17_25, x17_26, x17_27, x17_30, x17_31, x17_32, x17_33, x17_36, x17_39, x17_40, x17_41, x17_44, x17_47, x17_48, ↓reduceIte, true_and, and_true, if_true, if_false, ne_eq, not_false_eq_true, am_u_at, am_nb0, am_nb1, am_fb0, am_fb1, am_kc_i, am_kc_r, am_kc_l, am_kc_n, am_wsum_n, am_wsum_i, am_wsum_r, am_wsum_l, am_rs_s, am_rs_n, n_c0, n_c1, n_c2, n_c3, n_c4, n_c5, n_c6, n_c7, n_c8, n_c9, n_c10, n_c11, n_c12, n_c14, n_c16, n_c18, n_c20, n_c24, n_c30, n_c31, n_c32, n_c36, n_c48, n_c57, n_c60, n_c63, n_c70, n_c75, n_c97, n_c100, n_c101, n_c104, n_c115, n_c116, n_c59, n_c150, n_c199, n_c200, n_c201, n_c216, n_c255, n_c256, n_c999, n_c1296, n_c4095, n_c6480, n_c100000, n_c1000, n_c65536, n_le, n_lt0, n_lt, n_eq, n_cl, n_add, n_sub, n_mul, n_div, n_rem, n_mo, n_in, n_nb0, n_nb1, n_fb0, n_fb1, n_vb0, n_vb1, P1, hn, Nat.le_refl]
  | succ m ih =>
    intro k hk
    have c1 : ¬ sg 0 0 ≤ k := by omega
    have ih2 := ih (k + 1) (by omega)
    simp only [r_nr] at ih2
    by_cases c2 : k = s0
    · rw [if_neg (fun q => q.1 c2)] at ih2
      subst c2
      rw [x17_5]
      simp +decide (disch := omega) only [x17_6, x17_7, x17_10, x17_13, x17_14, x17_15, x17_18, x17_19, x17_21, x17_24, x17_25, x17_26, x17_27, x17_30, x17_31, x17_32, x17_33, x17_36, x17_39, x17_40, x17_41, x17_44, x17_47, x17_48, ↓reduceIte, true_and, and_true, if_true, if_false, ne_eq, not_false_eq_true, am_u_at, am_nb0, am_nb1, am_fb0, am_fb1, am_kc_i, am_kc_r, am_kc_l, am_kc_n, am_wsum_n, am_wsum_i, am_wsum_r, am_wsum_l, am_rs_s, am_rs_n, n_c0, n_c1, n_c2, n_c3, n_c4, n_c5, n_c6, n_c7, n_c8, n_c9, n_c10, n_c11, n_c12, n_c14, n_c16, n_c18, n_c20, n_c24, n_c30, n_c31, n_c32, n_c36, n_c48, n_c57, n_c60, n_c63, n_c70, n_c75, n_c97, n_c100, n_c101, n_c104, n_c115, n_c116, n_c59, n_c150, n_c199, n_c200, n_c201, n_c216, n_c255, n_c256, n_c999, n_c1296, n_c4095, n_c6480, n_c100000, n_c1000, n_c65536, n_le, n_lt0, n_lt, n_eq, n_cl, n_add, n_sub, n_mul, n_div, n_rem, n_mo, n_in, n_nb0, n_nb1, n_fb0, n_fb1, n_vb0, n_vb1, P1, hn, c1]
      exact ih2
    by_cases c3 : r_nr sg s0 k = 100
    · rw [if_pos ⟨c2, Or.inl c3⟩, v_nr, if_neg (by omega)] at ih2
      rw [c3, v_nr, if_pos rfl]
      rw [x17_5]
      simp +decide (disch := omega) only [x17_6, x17_7, x17_10, x17_13, x17_14, x17_15, x17_18, x17_19, x17_21, x17_24, x17_25, x17_26, x17_27, x17_30, x17_31, x17_32, x17_33, x17_36, x17_39, x17_40, x17_41, x17_44, x17_47, x17_48, ↓reduceIte, true_and, and_true, if_true, if_false, ne_eq, not_false_eq_true, am_u_at, am_nb0, am_nb1, am_fb0, am_fb1, am_kc_i, am_kc_r, am_kc_l, am_kc_n, am_wsum_n, am_wsum_i, am_wsum_r, am_wsum_l, am_rs_s, am_rs_n, n_c0, n_c1, n_c2, n_c3, n_c4, n_c5, n_c6, n_c7, n_c8, n_c9, n_c10, n_c11, n_c12, n_c14, n_c16, n_c18, n_c20, n_c24, n_c30, n_c31, n_c32, n_c36, n_c48, n_c57, n_c60, n_c63, n_c70, n_c75, n_c97, n_c100, n_c101, n_c104, n_c115, n_c116, n_c59, n_c150, n_c199, n_c200, n_c201, n_c216, n_c255, n_c256, n_c999, n_c1296, n_c4095, n_c6480, n_c100000, n_c1000, n_c65536, n_le, n_lt0, n_lt, n_eq, n_cl, n_add, n_sub, n_mul, n_div, n_rem, n_mo, n_in, n_nb0, n_nb1, n_fb0, n_fb1, n_vb0, n_vb1, P1, hn, c1, c2]
      exact ih2
    have c4 : r_nr sg s0 k < k := (r_nr_lt k (by omega)).resolve_left c3
    have c5 : ¬ nI (r_nr sg s0 k) = -nI 9 := by
      have : r_nr sg s0 k < 4 := by omega
      generalize r_nr sg s0 k = z at this
      revert this; revert z; decide
    have w1 := r_way_lt hV s0 k
    have w2 := r_way_lt hV s0 (r_nr sg s0 k)
    have ek := e16 k (by omega)
    have er := e16 (r_nr sg s0 k) (by omega)
    by_cases c6 : r_way sg s0 k < r_way sg s0 (r_nr sg s0 k)
    · have c7 : ¬ r_way sg s0 (r_nr sg s0 k) ≤ r_way sg s0 k := by omega
      rw [if_pos ⟨c2, Or.inr c6⟩, v_nr, if_neg (by omega)] at ih2
      rw [v_nr, if_neg c3]
      rw [x17_5]
      simp +decide (disch := omega) only [x17_6, x17_7, x17_10, x17_13, x17_14, x17_15, x17_18, x17_19, x17_21, x17_24, x17_25, x17_26, x17_27, x17_30, x17_31, x17_32, x17_33, x17_36, x17_39, x17_40, x17_41, x17_44, x17_47, x17_48, ↓reduceIte, true_and, and_true, if_true, if_false, ne_eq, not_false_eq_true, am_u_at, am_nb0, am_nb1, am_fb0, am_fb1, am_kc_i, am_kc_r, am_kc_l, am_kc_n, am_wsum_n, am_wsum_i, am_wsum_r, am_wsum_l, am_rs_s, am_rs_n, n_c0, n_c1, n_c2, n_c3, n_c4, n_c5, n_c6, n_c7, n_c8, n_c9, n_c10, n_c11, n_c12, n_c14, n_c16, n_c18, n_c20, n_c24, n_c30, n_c31, n_c32, n_c36, n_c48, n_c57, n_c60, n_c63, n_c70, n_c75, n_c97, n_c100, n_c101, n_c104, n_c115, n_c116, n_c59, n_c150, n_c199, n_c200, n_c201, n_c216, n_c255, n_c256, n_c999, n_c1296, n_c4095, n_c6480, n_c100000, n_c1000, n_c65536, n_le, n_lt0, n_lt, n_eq, n_cl, n_add, n_sub, n_mul, n_div, n_rem, n_mo, n_in, n_nb0, n_nb1, n_fb0, n_fb1, n_vb0, n_vb1, P1, hn, c1, c2, c5, ek, er, c7]
      exact ih2
    · have c7 : r_way sg s0 (r_nr sg s0 k) ≤ r_way sg s0 k := by omega
      rw [if_neg (fun q => q.2.elim c3 c6), v_nr, if_neg c3] at ih2
      rw [v_nr, if_neg c3]
      rw [x17_5]
      simp +decide (disch := omega) only [x17_6, x17_7, x17_10, x17_13, x17_14, x17_15, x17_18, x17_19, x17_21, x17_24, x17_25, x17_26, x17_27, x17_30, x17_31, x17_32, x17_33, x17_36, x17_39, x17_40, x17_41, x17_44, x17_47, x17_48, ↓reduceIte, true_and, and_true, if_true, if_false, ne_eq, not_false_eq_true, am_u_at, am_nb0, am_nb1, am_fb0, am_fb1, am_kc_i, am_kc_r, am_kc_l, am_kc_n, am_wsum_n, am_wsum_i, am_wsum_r, am_wsum_l, am_rs_s, am_rs_n, n_c0, n_c1, n_c2, n_c3, n_c4, n_c5, n_c6, n_c7, n_c8, n_c9, n_c10, n_c11, n_c12, n_c14, n_c16, n_c18, n_c20, n_c24, n_c30, n_c31, n_c32, n_c36, n_c48, n_c57, n_c60, n_c63, n_c70, n_c75, n_c97, n_c100, n_c101, n_c104, n_c115, n_c116, n_c59, n_c150, n_c199, n_c200, n_c201, n_c216, n_c255, n_c256, n_c999, n_c1296, n_c4095, n_c6480, n_c100000, n_c1000, n_c65536, n_le, n_lt0, n_lt, n_eq, n_cl, n_add, n_sub, n_mul, n_div, n_rem, n_mo, n_in, n_nb0, n_nb1, n_fb0, n_fb1, n_vb0, n_vb1, P1, hn, c1, c2, c5, ek, er, c7]
      exact ih2
theorem s17 (hd : h = 6 ∨ h = 13) (hV : r_VH sg) (hn : I h 0 = nI (sg 0 0)) (hs : s0 < sg 0 0) (hc : ∀ i, i < sg 0 0 → I (h + 1) i = nI (sg 1 i) ∧ I (h + 2) i = nI (sg 2 i)) (hz : I 7 4 = 0 ∧ I 8 4 = 0 ∧ I 14 4 = 0 ∧ I 15 4 = 0) : Ev 17 [.ref h, .int (nI s0)] I L (am_PT h s) (am_S1 Lx) Q ↔ Q (some (.int (v_nr (r_nr sg s0 (sg 0 0))))) I L (am_PT h s) (am_S1 Lx) := by
  simp only [xe17, x17_0, x17_2, x17_3, x17_4, ↓reduceIte, true_and, and_true, if_true, if_false, ne_eq, not_false_eq_true, am_u_at, am_nb0, am_nb1, am_fb0, am_fb1, am_kc_i, am_kc_r, am_kc_l, am_kc_n, am_wsum_n, am_wsum_i, am_wsum_r, am_wsum_l, am_rs_s, am_rs_n, n_c0, n_c1, n_c2, n_c3, n_c4, n_c5, n_c6, n_c7, n_c8, n_c9, n_c10, n_c11, n_c12, n_c14, n_c16, n_c18, n_c20, n_c24, n_c30, n_c31, n_c32, n_c36, n_c48, n_c57, n_c60, n_c63, n_c70, n_c75, n_c97, n_c100, n_c101, n_c104, n_c115, n_c116, n_c59, n_c150, n_c199, n_c200, n_c201, n_c216, n_c255, n_c256, n_c999, n_c1296, n_c4095, n_c6480, n_c100000, n_c1000, n_c65536]
  exact l17 hd hV hn hs (fun b hb Q => s16 hd hV hc hz (Or.inl hs) (Or.inl hb)) (sg 0 0) 0 (by omega)
end NE
