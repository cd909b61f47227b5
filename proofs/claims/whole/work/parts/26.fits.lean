/-! which laws fit -/
def r_lw (sg : am_G0) (law t f : Nat) : Nat := if law = 0 then sg 3 t else if law = 1 then r_nr sg f (sg 0 0) else if f + 1 < sg 0 0 then f + 1 else 0
section FI
variable {I : am_I} {L : am_L} {Q : Option Value → am_I → am_L → am_P → am_S → Prop} {h s n Lx : Nat} {sg : am_G0}
theorem s11 {law t f : Nat} (rH : r_H I sg h) (hl : law < 3) (ht : t < sg 0 1) (hf : f < sg 0 0) : Ev 11 [.ref h, .int (nI law), .int (nI t), .int (nI f)] I L (am_PT h s) (am_S1 Lx) Q ↔ Q (some (.int (v_nr (r_lw sg law t f)))) I L (am_PT h s) (am_S1 Lx) := by
  obtain ⟨hd, hV, g0, g1, g2, g3, ⟨g4, g5, g6, g7⟩, gs, gt, gz⟩ := id rH
  have P1 : (am_S1 Lx).1 h = (2, 0) := by rcases hd with rfl | rfl <;> rfl
  have PX3 : am_PT h s h 8 = h + 3 ∧ (am_S1 Lx).1 (h + 3) = (20, 4) ∧ ¬ h + 3 = 0 := by rcases hd with rfl | rfl <;> exact ⟨rfl, rfl, by omega⟩
  have h0 : ¬ h = 0 := by omega
  have v0 := hV.1
  have v1 := hV.2.1
  have t4 : t < 4 := by omega
  have w := (gt t ht).1
  have o := (hV.2.2.2.2.2 t ht).1
  match law, hl with
  | 0, _ =>
    have e : v_nr (r_lw sg 0 t f) = nI (sg 3 t) := by
      unfold r_lw v_nr
      rw [if_pos rfl, if_neg (by omega)]
    rw [e]
    simp +decide (disch := omega) only [xe11, x11_0, x11_1, x11_28, x11_29, x11_32, x11_33, x11_34, x11_35, x11_36, x11_37, x11_40, x11_41, x11_42, x11_43, x11_44, x11_45, x11_48, x11_51, x11_52, x11_53, x11_54, x11_57, x11_58, ↓reduceIte, true_and, and_true, if_true, if_false, ne_eq, not_false_eq_true, am_u_at, am_nb0, am_nb1, am_fb0, am_fb1, am_kc_i, am_kc_r, am_kc_l, am_kc_n, am_wsum_n, am_wsum_i, am_wsum_r, am_wsum_l, am_rs_s, am_rs_n, n_c0, n_c1, n_c2, n_c3, n_c4, n_c5, n_c6, n_c7, n_c8, n_c9, n_c10, n_c11, n_c12, n_c14, n_c16, n_c18, n_c20, n_c24, n_c30, n_c31, n_c32, n_c36, n_c48, n_c57, n_c60, n_c63, n_c70, n_c75, n_c97, n_c100, n_c101, n_c104, n_c115, n_c116, n_c59, n_c150, n_c199, n_c200, n_c201, n_c216, n_c255, n_c256, n_c999, n_c1296, n_c4095, n_c6480, n_c100000, n_c1000, n_c65536, n_le, n_lt0, n_lt, n_eq, n_cl, n_add, n_sub, n_mul, n_div, n_rem, n_mo, n_in, n_nb0, n_nb1, n_fb0, n_fb1, n_vb0, n_vb1, P1, PX3.1, PX3.2.1, PX3.2.2, t4, w]
  | 1, _ =>
    have e : v_nr (r_lw sg 1 t f) = v_nr (r_nr sg f (sg 0 0)) := by
      unfold r_lw
      rw [if_neg (by omega), if_pos rfl]
    rw [e]
    simp +decide (disch := omega) only [xe11, x11_0, x11_1, x11_28, x11_29, x11_32, x11_33, x11_34, x11_35, x11_36, x11_37, x11_40, x11_41, x11_42, x11_43, x11_44, x11_45, x11_48, x11_51, x11_52, x11_53, x11_54, x11_57, x11_58, ↓reduceIte, true_and, and_true, if_true, if_false, ne_eq, not_false_eq_true, am_u_at, am_nb0, am_nb1, am_fb0, am_fb1, am_kc_i, am_kc_r, am_kc_l, am_kc_n, am_wsum_n, am_wsum_i, am_wsum_r, am_wsum_l, am_rs_s, am_rs_n, n_c0, n_c1, n_c2, n_c3, n_c4, n_c5, n_c6, n_c7, n_c8, n_c9, n_c10, n_c11, n_c12, n_c14, n_c16, n_c18, n_c20, n_c24, n_c30, n_c31, n_c32, n_c36, n_c48, n_c57, n_c60, n_c63, n_c70, n_c75, n_c97, n_c100, n_c101, n_c104, n_c115, n_c116, n_c59, n_c150, n_c199, n_c200, n_c201, n_c216, n_c255, n_c256, n_c999, n_c1296, n_c4095, n_c6480, n_c100000, n_c1000, n_c65536, n_le, n_lt0, n_lt, n_eq, n_cl, n_add, n_sub, n_mul, n_div, n_rem, n_mo, n_in, n_nb0, n_nb1, n_fb0, n_fb1, n_vb0, n_vb1, P1]
    rw [s17 hd hV g0 hf (fun i hi => ⟨(gs i hi).1, (gs i hi).2.1⟩) gz]
    simp +decide (disch := omega) only [xe11, x11_0, x11_1, x11_28, x11_29, x11_32, x11_33, x11_34, x11_35, x11_36, x11_37, x11_40, x11_41, x11_42, x11_43, x11_44, x11_45, x11_48, x11_51, x11_52, x11_53, x11_54, x11_57, x11_58, ↓reduceIte, true_and, and_true, if_true, if_false, ne_eq, not_false_eq_true, am_u_at, am_nb0, am_nb1, am_fb0, am_fb1, am_kc_i, am_kc_r, am_kc_l, am_kc_n, am_wsum_n, am_wsum_i, am_wsum_r, am_wsum_l, am_rs_s, am_rs_n, n_c0, n_c1, n_c2, n_c3, n_c4, n_c5, n_c6, n_c7, n_c8, n_c9, n_c10, n_c11, n_c12, n_c14, n_c16, n_c18, n_c20, n_c24, n_c30, n_c31, n_c32, n_c36, n_c48, n_c57, n_c60, n_c63, n_c70, n_c75, n_c97, n_c100, n_c101, n_c104, n_c115, n_c116, n_c59, n_c150, n_c199, n_c200, n_c201, n_c216, n_c255, n_c256, n_c999, n_c1296, n_c4095, n_c6480, n_c100000, n_c1000, n_c65536, n_le, n_lt0, n_lt, n_eq, n_cl, n_add, n_sub, n_mul, n_div, n_rem, n_mo, n_in, n_nb0, n_nb1, n_fb0, n_fb1, n_vb0, n_vb1, P1]
  | 2, _ =>
    by_cases hc : f + 1 < sg 0 0
    · have e : v_nr (r_lw sg 2 t f) = nI (f + 1) := by
        have e0 : r_lw sg 2 t f = f + 1 := by unfold r_lw; simp [hc]
        rw [e0]; unfold v_nr; rw [if_neg (by omega)]
      have c2 : ¬ sg 0 0 ≤ f + 1 := by omega
      rw [e]
      simp +decide (disch := omega) only [xe11, x11_0, x11_1, x11_28, x11_29, x11_32, x11_33, x11_34, x11_35, x11_36, x11_37, x11_40, x11_41, x11_42, x11_43, x11_44, x11_45, x11_48, x11_51, x11_52, x11_53, x11_54, x11_57, x11_58, ↓reduceIte, true_and, and_true, if_true, if_false, ne_eq, not_false_eq_true, am_u_at, am_nb0, am_nb1, am_fb0, am_fb1, am_kc_i, am_kc_r, am_kc_l, am_kc_n, am_wsum_n, am_wsum_i, am_wsum_r, am_wsum_l, am_rs_s, am_rs_n, n_c0, n_c1, n_c2, n_c3, n_c4, n_c5, n_c6, n_c7, n_c8, n_c9, n_c10, n_c11, n_c12, n_c14, n_c16, n_c18, n_c20, n_c24, n_c30, n_c31, n_c32, n_c36, n_c48, n_c57, n_c60, n_c63, n_c70, n_c75, n_c97, n_c100, n_c101, n_c104, n_c115, n_c116, n_c59, n_c150, n_c199, n_c200, n_c201, n_c216, n_c255, n_c256, n_c999, n_c1296, n_c4095, n_c6480, n_c100000, n_c1000, n_c65536, n_le, n_lt0, n_lt, n_eq, n_cl, n_add, n_sub, n_mul, n_div, n_rem, n_mo, n_in, n_nb0, n_nb1, n_fb0, n_fb1, n_vb0, n_vb1, P1, g0, c2]
    · have e : v_nr (r_lw sg 2 t f) = nI 0 := by
        have e0 : r_lw sg 2 t f = 0 := by unfold r_lw; simp [hc]
        rw [e0]; unfold v_nr; rw [if_neg (by omega)]
      have c2 : sg 0 0 ≤ f + 1 := by omega
      rw [e]
      simp +decide (disch := omega) only [xe11, x11_0, x11_1, x11_28, x11_29, x11_32, x11_33, x11_34, x11_35, x11_36, x11_37, x11_40, x11_41, x11_42, x11_43, x11_44, x11_45, x11_48, x11_51, x11_52, x11_53, x11_54, x11_57, x11_58, ↓reduceIte, true_and, and_true, if_true, if_false, ne_eq, not_false_eq_true, am_u_at, am_nb0, am_nb1, am_fb0, am_fb1, am_kc_i, am_kc_r, am_kc_l, am_kc_n, am_wsum_n, am_wsum_i, am_wsum_r, am_wsum_l, am_rs_s, am_rs_n, n_c0, n_c1, n_c2, n_c3, n_c4, n_c5, n_c6, n_c7, n_c8, n_c9, n_c10, n_c11, n_c12, n_c14, n_c16, n_c18, n_c20, n_c24, n_c30, n_c31, n_c32, n_c36, n_c48, n_c57, n_c60, n_c63, n_c70, n_c75, n_c97, n_c100, n_c101, n_c104, n_c115, n_c116, n_c59, n_c150, n_c199, n_c200, n_c201, n_c216, n_c255, n_c256, n_c999, n_c1296, n_c4095, n_c6480, n_c100000, n_c1000, n_c65536, n_le, n_lt0, n_lt, n_eq, n_cl, n_add, n_sub, n_mul, n_div, n_rem, n_mo, n_in, n_nb0, n_nb1, n_fb0, n_fb1, n_vb0, n_vb1, P1, g0, c2]
  | n + 3, hl => exact absurd hl (by omega)
end FI
