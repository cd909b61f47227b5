/-! the law: its branches, its loop -/
section LW
variable {I : am_I} {L : am_L} {Q : Option Value → am_I → am_L → am_P → am_S → Prop} {h Lx t : Nat} {sg : am_G0}
/-- the frame at the loop's head -/
abbrev lw_hd (Lx t : Nat) (Q : Option Value → am_I → am_L → am_P → am_S → Prop) : Prop := ∀ (I : am_I) (L : am_L) (sg : am_G0) (h : Nat), r_R I L sg h → Ex 159 768 [some (.ref 1), some (.ref 3), some (.ref 63), some (.int (nI t))] [] I L (am_PT h (19 - h)) (am_S1 Lx) Q
/-- both calls of an operation, out of what is known of the two -/
theorem lw_two {c d : Nat} {as : List Value} {K : Option Value → am_I → am_L → am_P → am_S → Prop} (hop : r_op c d as I L h Lx) (n1 : ¬ am_ret c = some .long) (n2 : ¬ am_ret c = none)
    (HK : ∀ y I1 L1 P1 S1, I1 1 = I 1 → S1.1 1 = (20, Lx) → S1.1 63 = (8, 0) → Ev d (.ref 63 :: as) I1 L1 P1 S1 (fun v2 I2 L2 P2 S2 => v2 = some (.int y) ∧ S2 = am_S1 Lx ∧ ∃ sg h2, r_R I2 L2 sg h2 ∧ P2 = am_PT h2 (19 - h2)) → K (some (.int y)) I1 L1 P1 S1) :
    Ev c (.ref 3 :: as) I L (am_PT h (19 - h)) (am_S1 Lx) K := by
  have f0 : ((am_S1 Lx).1 1).1 = 20 := rfl
  refine (fr_ev f0 hop).mono fun v I1 L1 P1 S1 ⟨hE, f1, f2, f3⟩ => ?_
  have e1 : S1.1 1 = (20, Lx) := f2 1 (by show 1 < 75 + 3; omega)
  have e63 : S1.1 63 = (8, 0) := f2 63 (by show 63 < 75 + 3; omega)
  rcases f3 with ⟨y, rfl⟩ | q | q
  · refine HK y I1 L1 P1 S1 f1 e1 e63 (hE.mono fun v2 I2 L2 P2 S2 ⟨⟨z, z1, z2⟩, g2, g3, g4⟩ => ⟨?_, g2, g4⟩)
    rw [z2, ← z1]
  · exact absurd q n1
  · exact absurd q n2
set_option maxHeartbeats 4000000 in
theorem lw_b0 (R : r_R I L sg h) (ht : t + 4 ≤ Lx) (hL : Lx ≤ 2048) (H : lw_hd Lx t Q) : Ex 159 156 [some (.ref 1), some (.ref 3), some (.ref 63), some (.int (nI t))] [] I L (am_PT h (19 - h)) (am_S1 Lx) Q := by
  have s1 : (am_S1 Lx).1 1 = (20, Lx) := rfl
  have s3 : (am_S1 Lx).1 3 = (7, 0) := rfl
  simp +decide (disch := omega) only [x159_156, x159_157, x159_158, x159_159, x159_160, x159_161, x159_162, x159_165, x159_166, x159_167, x159_168, x159_169, x159_170, x159_171, ↓reduceIte, true_and, and_true, if_true, if_false, ne_eq, not_false_eq_true, am_u_at, am_nb0, am_nb1, am_fb0, am_fb1, am_kc_i, am_kc_r, am_kc_l, am_kc_n, am_wsum_n, am_wsum_i, am_wsum_r, am_wsum_l, am_rs_s, am_rs_n, n_c0, n_c1, n_c2, n_c3, n_c4, n_c5, n_c6, n_c7, n_c8, n_c9, n_c10, n_c11, n_c12, n_c14, n_c16, n_c18, n_c20, n_c24, n_c30, n_c31, n_c32, n_c36, n_c48, n_c57, n_c60, n_c63, n_c70, n_c75, n_c97, n_c100, n_c101, n_c104, n_c115, n_c116, n_c59, n_c150, n_c199, n_c200, n_c201, n_c216, n_c255, n_c256, n_c999, n_c1296, n_c4095, n_c6480, n_c100000, n_c1000, n_c65536, n_cl, n_add, n_in, s1, s3, am_wsum_n]
  refine ⟨by omega, ?_⟩
  refine lw_two (op_type R) (by decide) (by decide) fun y I1 L1 P1 S1 e1 k1 k63 hE => ?_
  simp +decide (disch := omega) only [↓reduceIte, true_and, and_true, if_true, if_false, ne_eq, not_false_eq_true, am_u_at, am_nb0, am_nb1, am_fb0, am_fb1, am_kc_i, am_kc_r, am_kc_l, am_kc_n, am_wsum_n, am_wsum_i, am_wsum_r, am_wsum_l, am_rs_s, am_rs_n, n_c0, n_c1, n_c2, n_c3, n_c4, n_c5, n_c6, n_c7, n_c8, n_c9, n_c10, n_c11, n_c12, n_c14, n_c16, n_c18, n_c20, n_c24, n_c30, n_c31, n_c32, n_c36, n_c48, n_c57, n_c60, n_c63, n_c70, n_c75, n_c97, n_c100, n_c101, n_c104, n_c115, n_c116, n_c59, n_c150, n_c199, n_c200, n_c201, n_c216, n_c255, n_c256, n_c999, n_c1296, n_c4095, n_c6480, n_c100000, n_c1000, n_c65536, n_cl, n_add, n_in, e1, k1, k63]
  refine ⟨by omega, ?_⟩
  refine hE.mono fun v2 I2 L2 P2 S2 ⟨z1, z2, sg2, h2, R2, z3⟩ => ?_
  subst z1
  subst z2
  subst z3
  simp +decide (disch := omega) only [x159_174, x159_177, x159_178, ↓reduceIte, true_and, and_true, if_true, if_false, ne_eq, not_false_eq_true, am_u_at, am_nb0, am_nb1, am_fb0, am_fb1, am_kc_i, am_kc_r, am_kc_l, am_kc_n, am_wsum_n, am_wsum_i, am_wsum_r, am_wsum_l, am_rs_s, am_rs_n, eq_self]
  exact H I2 L2 sg2 h2 R2
set_option maxHeartbeats 4000000 in
theorem lw_b1 (R : r_R I L sg h) (ht : t + 4 ≤ Lx) (hL : Lx ≤ 2048) (H : lw_hd Lx t Q) : Ex 159 179 [some (.ref 1), some (.ref 3), some (.ref 63), some (.int (nI t))] [] I L (am_PT h (19 - h)) (am_S1 Lx) Q := by
  have s1 : (am_S1 Lx).1 1 = (20, Lx) := rfl
  have s3 : (am_S1 Lx).1 3 = (7, 0) := rfl
  simp +decide (disch := omega) only [x159_179, x159_180, x159_183, x159_184, ↓reduceIte, true_and, and_true, if_true, if_false, ne_eq, not_false_eq_true, am_u_at, am_nb0, am_nb1, am_fb0, am_fb1, am_kc_i, am_kc_r, am_kc_l, am_kc_n, am_wsum_n, am_wsum_i, am_wsum_r, am_wsum_l, am_rs_s, am_rs_n, n_c0, n_c1, n_c2, n_c3, n_c4, n_c5, n_c6, n_c7, n_c8, n_c9, n_c10, n_c11, n_c12, n_c14, n_c16, n_c18, n_c20, n_c24, n_c30, n_c31, n_c32, n_c36, n_c48, n_c57, n_c60, n_c63, n_c70, n_c75, n_c97, n_c100, n_c101, n_c104, n_c115, n_c116, n_c59, n_c150, n_c199, n_c200, n_c201, n_c216, n_c255, n_c256, n_c999, n_c1296, n_c4095, n_c6480, n_c100000, n_c1000, n_c65536, n_cl, n_add, n_in, s1, s3, am_wsum_n]
  refine lw_two (op_clear R) (by decide) (by decide) fun y I1 L1 P1 S1 e1 k1 k63 hE => ?_
  simp +decide (disch := omega) only [↓reduceIte, true_and, and_true, if_true, if_false, ne_eq, not_false_eq_true, am_u_at, am_nb0, am_nb1, am_fb0, am_fb1, am_kc_i, am_kc_r, am_kc_l, am_kc_n, am_wsum_n, am_wsum_i, am_wsum_r, am_wsum_l, am_rs_s, am_rs_n, n_c0, n_c1, n_c2, n_c3, n_c4, n_c5, n_c6, n_c7, n_c8, n_c9, n_c10, n_c11, n_c12, n_c14, n_c16, n_c18, n_c20, n_c24, n_c30, n_c31, n_c32, n_c36, n_c48, n_c57, n_c60, n_c63, n_c70, n_c75, n_c97, n_c100, n_c101, n_c104, n_c115, n_c116, n_c59, n_c150, n_c199, n_c200, n_c201, n_c216, n_c255, n_c256, n_c999, n_c1296, n_c4095, n_c6480, n_c100000, n_c1000, n_c65536, n_cl, n_add, n_in, e1, k1, k63]
  refine hE.mono fun v2 I2 L2 P2 S2 ⟨z1, z2, sg2, h2, R2, z3⟩ => ?_
  subst z1
  subst z2
  subst z3
  simp +decide (disch := omega) only [x159_187, x159_190, x159_191, ↓reduceIte, true_and, and_true, if_true, if_false, ne_eq, not_false_eq_true, am_u_at, am_nb0, am_nb1, am_fb0, am_fb1, am_kc_i, am_kc_r, am_kc_l, am_kc_n, am_wsum_n, am_wsum_i, am_wsum_r, am_wsum_l, am_rs_s, am_rs_n, eq_self]
  exact H I2 L2 sg2 h2 R2
set_option maxHeartbeats 4000000 in
theorem lw_b2 (R : r_R I L sg h) (ht : t + 4 ≤ Lx) (hL : Lx ≤ 2048) (H : lw_hd Lx t Q) : Ex 159 192 [some (.ref 1), some (.ref 3), some (.ref 63), some (.int (nI t))] [] I L (am_PT h (19 - h)) (am_S1 Lx) Q := by
  have s1 : (am_S1 Lx).1 1 = (20, Lx) := rfl
  have s3 : (am_S1 Lx).1 3 = (7, 0) := rfl
  simp +decide (disch := omega) only [x159_192, x159_193, x159_196, x159_197, ↓reduceIte, true_and, and_true, if_true, if_false, ne_eq, not_false_eq_true, am_u_at, am_nb0, am_nb1, am_fb0, am_fb1, am_kc_i, am_kc_r, am_kc_l, am_kc_n, am_wsum_n, am_wsum_i, am_wsum_r, am_wsum_l, am_rs_s, am_rs_n, n_c0, n_c1, n_c2, n_c3, n_c4, n_c5, n_c6, n_c7, n_c8, n_c9, n_c10, n_c11, n_c12, n_c14, n_c16, n_c18, n_c20, n_c24, n_c30, n_c31, n_c32, n_c36, n_c48, n_c57, n_c60, n_c63, n_c70, n_c75, n_c97, n_c100, n_c101, n_c104, n_c115, n_c116, n_c59, n_c150, n_c199, n_c200, n_c201, n_c216, n_c255, n_c256, n_c999, n_c1296, n_c4095, n_c6480, n_c100000, n_c1000, n_c65536, n_cl, n_add, n_in, s1, s3, am_wsum_n]
  refine lw_two (op_hall R) (by decide) (by decide) fun y I1 L1 P1 S1 e1 k1 k63 hE => ?_
  simp +decide (disch := omega) only [↓reduceIte, true_and, and_true, if_true, if_false, ne_eq, not_false_eq_true, am_u_at, am_nb0, am_nb1, am_fb0, am_fb1, am_kc_i, am_kc_r, am_kc_l, am_kc_n, am_wsum_n, am_wsum_i, am_wsum_r, am_wsum_l, am_rs_s, am_rs_n, n_c0, n_c1, n_c2, n_c3, n_c4, n_c5, n_c6, n_c7, n_c8, n_c9, n_c10, n_c11, n_c12, n_c14, n_c16, n_c18, n_c20, n_c24, n_c30, n_c31, n_c32, n_c36, n_c48, n_c57, n_c60, n_c63, n_c70, n_c75, n_c97, n_c100, n_c101, n_c104, n_c115, n_c116, n_c59, n_c150, n_c199, n_c200, n_c201, n_c216, n_c255, n_c256, n_c999, n_c1296, n_c4095, n_c6480, n_c100000, n_c1000, n_c65536, n_cl, n_add, n_in, e1, k1, k63]
  refine hE.mono fun v2 I2 L2 P2 S2 ⟨z1, z2, sg2, h2, R2, z3⟩ => ?_
  subst z1
  subst z2
  subst z3
  simp +decide (disch := omega) only [x159_200, x159_203, x159_204, ↓reduceIte, true_and, and_true, if_true, if_false, ne_eq, not_false_eq_true, am_u_at, am_nb0, am_nb1, am_fb0, am_fb1, am_kc_i, am_kc_r, am_kc_l, am_kc_n, am_wsum_n, am_wsum_i, am_wsum_r, am_wsum_l, am_rs_s, am_rs_n, eq_self]
  exact H I2 L2 sg2 h2 R2
set_option maxHeartbeats 4000000 in
theorem lw_b3 (R : r_R I L sg h) (ht : t + 4 ≤ Lx) (hL : Lx ≤ 2048) (H : lw_hd Lx t Q) : Ex 159 205 [some (.ref 1), some (.ref 3), some (.ref 63), some (.int (nI t))] [] I L (am_PT h (19 - h)) (am_S1 Lx) Q := by
  have s1 : (am_S1 Lx).1 1 = (20, Lx) := rfl
  have s3 : (am_S1 Lx).1 3 = (7, 0) := rfl
  simp +decide (disch := omega) only [x159_205, x159_206, x159_207, x159_208, x159_209, x159_210, x159_211, x159_212, x159_213, x159_214, x159_215, x159_216, x159_219, x159_220, x159_221, x159_222, x159_223, x159_224, x159_225, x159_226, x159_227, x159_228, x159_229, x159_230, ↓reduceIte, true_and, and_true, if_true, if_false, ne_eq, not_false_eq_true, am_u_at, am_nb0, am_nb1, am_fb0, am_fb1, am_kc_i, am_kc_r, am_kc_l, am_kc_n, am_wsum_n, am_wsum_i, am_wsum_r, am_wsum_l, am_rs_s, am_rs_n, n_c0, n_c1, n_c2, n_c3, n_c4, n_c5, n_c6, n_c7, n_c8, n_c9, n_c10, n_c11, n_c12, n_c14, n_c16, n_c18, n_c20, n_c24, n_c30, n_c31, n_c32, n_c36, n_c48, n_c57, n_c60, n_c63, n_c70, n_c75, n_c97, n_c100, n_c101, n_c104, n_c115, n_c116, n_c59, n_c150, n_c199, n_c200, n_c201, n_c216, n_c255, n_c256, n_c999, n_c1296, n_c4095, n_c6480, n_c100000, n_c1000, n_c65536, n_cl, n_add, n_in, s1, s3, am_wsum_n]
  refine ⟨by omega, ?_⟩
  refine ⟨by omega, ?_⟩
  refine lw_two (op_seat R) (by decide) (by decide) fun y I1 L1 P1 S1 e1 k1 k63 hE => ?_
  simp +decide (disch := omega) only [↓reduceIte, true_and, and_true, if_true, if_false, ne_eq, not_false_eq_true, am_u_at, am_nb0, am_nb1, am_fb0, am_fb1, am_kc_i, am_kc_r, am_kc_l, am_kc_n, am_wsum_n, am_wsum_i, am_wsum_r, am_wsum_l, am_rs_s, am_rs_n, n_c0, n_c1, n_c2, n_c3, n_c4, n_c5, n_c6, n_c7, n_c8, n_c9, n_c10, n_c11, n_c12, n_c14, n_c16, n_c18, n_c20, n_c24, n_c30, n_c31, n_c32, n_c36, n_c48, n_c57, n_c60, n_c63, n_c70, n_c75, n_c97, n_c100, n_c101, n_c104, n_c115, n_c116, n_c59, n_c150, n_c199, n_c200, n_c201, n_c216, n_c255, n_c256, n_c999, n_c1296, n_c4095, n_c6480, n_c100000, n_c1000, n_c65536, n_cl, n_add, n_in, e1, k1, k63]
  refine ⟨by omega, ?_⟩
  refine ⟨by omega, ?_⟩
  refine hE.mono fun v2 I2 L2 P2 S2 ⟨z1, z2, sg2, h2, R2, z3⟩ => ?_
  subst z1
  subst z2
  subst z3
  simp +decide (disch := omega) only [x159_233, x159_236, x159_237, ↓reduceIte, true_and, and_true, if_true, if_false, ne_eq, not_false_eq_true, am_u_at, am_nb0, am_nb1, am_fb0, am_fb1, am_kc_i, am_kc_r, am_kc_l, am_kc_n, am_wsum_n, am_wsum_i, am_wsum_r, am_wsum_l, am_rs_s, am_rs_n, eq_self]
  exact H I2 L2 sg2 h2 R2
set_option maxHeartbeats 4000000 in
theorem lw_b4 (R : r_R I L sg h) (ht : t + 4 ≤ Lx) (hL : Lx ≤ 2048) (H : lw_hd Lx t Q) : Ex 159 238 [some (.ref 1), some (.ref 3), some (.ref 63), some (.int (nI t))] [] I L (am_PT h (19 - h)) (am_S1 Lx) Q := by
  have s1 : (am_S1 Lx).1 1 = (20, Lx) := rfl
  have s3 : (am_S1 Lx).1 3 = (7, 0) := rfl
  simp +decide (disch := omega) only [x159_238, x159_239, x159_240, x159_241, x159_242, x159_243, x159_244, x159_245, x159_246, x159_247, x159_248, x159_249, x159_252, x159_253, x159_254, x159_255, x159_256, x159_257, x159_258, x159_259, x159_260, x159_261, x159_262, x159_263, ↓reduceIte, true_and, and_true, if_true, if_false, ne_eq, not_false_eq_true, am_u_at, am_nb0, am_nb1, am_fb0, am_fb1, am_kc_i, am_kc_r, am_kc_l, am_kc_n, am_wsum_n, am_wsum_i, am_wsum_r, am_wsum_l, am_rs_s, am_rs_n, n_c0, n_c1, n_c2, n_c3, n_c4, n_c5, n_c6, n_c7, n_c8, n_c9, n_c10, n_c11, n_c12, n_c14, n_c16, n_c18, n_c20, n_c24, n_c30, n_c31, n_c32, n_c36, n_c48, n_c57, n_c60, n_c63, n_c70, n_c75, n_c97, n_c100, n_c101, n_c104, n_c115, n_c116, n_c59, n_c150, n_c199, n_c200, n_c201, n_c216, n_c255, n_c256, n_c999, n_c1296, n_c4095, n_c6480, n_c100000, n_c1000, n_c65536, n_cl, n_add, n_in, s1, s3, am_wsum_n]
  refine ⟨by omega, ?_⟩
  refine ⟨by omega, ?_⟩
  refine lw_two (op_thing R) (by decide) (by decide) fun y I1 L1 P1 S1 e1 k1 k63 hE => ?_
  simp +decide (disch := omega) only [↓reduceIte, true_and, and_true, if_true, if_false, ne_eq, not_false_eq_true, am_u_at, am_nb0, am_nb1, am_fb0, am_fb1, am_kc_i, am_kc_r, am_kc_l, am_kc_n, am_wsum_n, am_wsum_i, am_wsum_r, am_wsum_l, am_rs_s, am_rs_n, n_c0, n_c1, n_c2, n_c3, n_c4, n_c5, n_c6, n_c7, n_c8, n_c9, n_c10, n_c11, n_c12, n_c14, n_c16, n_c18, n_c20, n_c24, n_c30, n_c31, n_c32, n_c36, n_c48, n_c57, n_c60, n_c63, n_c70, n_c75, n_c97, n_c100, n_c101, n_c104, n_c115, n_c116, n_c59, n_c150, n_c199, n_c200, n_c201, n_c216, n_c255, n_c256, n_c999, n_c1296, n_c4095, n_c6480, n_c100000, n_c1000, n_c65536, n_cl, n_add, n_in, e1, k1, k63]
  refine ⟨by omega, ?_⟩
  refine ⟨by omega, ?_⟩
  refine hE.mono fun v2 I2 L2 P2 S2 ⟨z1, z2, sg2, h2, R2, z3⟩ => ?_
  subst z1
  subst z2
  subst z3
  simp +decide (disch := omega) only [x159_266, x159_269, x159_270, ↓reduceIte, true_and, and_true, if_true, if_false, ne_eq, not_false_eq_true, am_u_at, am_nb0, am_nb1, am_fb0, am_fb1, am_kc_i, am_kc_r, am_kc_l, am_kc_n, am_wsum_n, am_wsum_i, am_wsum_r, am_wsum_l, am_rs_s, am_rs_n, eq_self]
  exact H I2 L2 sg2 h2 R2
set_option maxHeartbeats 4000000 in
theorem lw_b5 (R : r_R I L sg h) (ht : t + 4 ≤ Lx) (hL : Lx ≤ 2048) (H : lw_hd Lx t Q) : Ex 159 271 [some (.ref 1), some (.ref 3), some (.ref 63), some (.int (nI t))] [] I L (am_PT h (19 - h)) (am_S1 Lx) Q := by
  have s1 : (am_S1 Lx).1 1 = (20, Lx) := rfl
  have s3 : (am_S1 Lx).1 3 = (7, 0) := rfl
  simp +decide (disch := omega) only [x159_271, x159_272, x159_273, x159_274, x159_275, x159_276, x159_277, x159_280, x159_281, x159_282, x159_283, x159_284, x159_285, x159_286, ↓reduceIte, true_and, and_true, if_true, if_false, ne_eq, not_false_eq_true, am_u_at, am_nb0, am_nb1, am_fb0, am_fb1, am_kc_i, am_kc_r, am_kc_l, am_kc_n, am_wsum_n, am_wsum_i, am_wsum_r, am_wsum_l, am_rs_s, am_rs_n, n_c0, n_c1, n_c2, n_c3, n_c4, n_c5, n_c6, n_c7, n_c8, n_c9, n_c10, n_c11, n_c12, n_c14, n_c16, n_c18, n_c20, n_c24, n_c30, n_c31, n_c32, n_c36, n_c48, n_c57, n_c60, n_c63, n_c70, n_c75, n_c97, n_c100, n_c101, n_c104, n_c115, n_c116, n_c59, n_c150, n_c199, n_c200, n_c201, n_c216, n_c255, n_c256, n_c999, n_c1296, n_c4095, n_c6480, n_c100000, n_c1000, n_c65536, n_cl, n_add, n_in, s1, s3, am_wsum_n]
  refine ⟨by omega, ?_⟩
  refine lw_two (op_now R) (by decide) (by decide) fun y I1 L1 P1 S1 e1 k1 k63 hE => ?_
  simp +decide (disch := omega) only [↓reduceIte, true_and, and_true, if_true, if_false, ne_eq, not_false_eq_true, am_u_at, am_nb0, am_nb1, am_fb0, am_fb1, am_kc_i, am_kc_r, am_kc_l, am_kc_n, am_wsum_n, am_wsum_i, am_wsum_r, am_wsum_l, am_rs_s, am_rs_n, n_c0, n_c1, n_c2, n_c3, n_c4, n_c5, n_c6, n_c7, n_c8, n_c9, n_c10, n_c11, n_c12, n_c14, n_c16, n_c18, n_c20, n_c24, n_c30, n_c31, n_c32, n_c36, n_c48, n_c57, n_c60, n_c63, n_c70, n_c75, n_c97, n_c100, n_c101, n_c104, n_c115, n_c116, n_c59, n_c150, n_c199, n_c200, n_c201, n_c216, n_c255, n_c256, n_c999, n_c1296, n_c4095, n_c6480, n_c100000, n_c1000, n_c65536, n_cl, n_add, n_in, e1, k1, k63]
  refine ⟨by omega, ?_⟩
  refine hE.mono fun v2 I2 L2 P2 S2 ⟨z1, z2, sg2, h2, R2, z3⟩ => ?_
  subst z1
  subst z2
  subst z3
  simp +decide (disch := omega) only [x159_289, x159_292, x159_293, ↓reduceIte, true_and, and_true, if_true, if_false, ne_eq, not_false_eq_true, am_u_at, am_nb0, am_nb1, am_fb0, am_fb1, am_kc_i, am_kc_r, am_kc_l, am_kc_n, am_wsum_n, am_wsum_i, am_wsum_r, am_wsum_l, am_rs_s, am_rs_n, eq_self]
  exact H I2 L2 sg2 h2 R2
set_option maxHeartbeats 4000000 in
theorem lw_b6 (R : r_R I L sg h) (ht : t + 4 ≤ Lx) (hL : Lx ≤ 2048) (H : lw_hd Lx t Q) : Ex 159 294 [some (.ref 1), some (.ref 3), some (.ref 63), some (.int (nI t))] [] I L (am_PT h (19 - h)) (am_S1 Lx) Q := by
  have s1 : (am_S1 Lx).1 1 = (20, Lx) := rfl
  have s3 : (am_S1 Lx).1 3 = (7, 0) := rfl
  simp +decide (disch := omega) only [x159_294, x159_295, x159_296, x159_297, x159_298, x159_299, x159_300, x159_303, x159_304, x159_305, x159_306, x159_307, x159_308, x159_309, ↓reduceIte, true_and, and_true, if_true, if_false, ne_eq, not_false_eq_true, am_u_at, am_nb0, am_nb1, am_fb0, am_fb1, am_kc_i, am_kc_r, am_kc_l, am_kc_n, am_wsum_n, am_wsum_i, am_wsum_r, am_wsum_l, am_rs_s, am_rs_n, n_c0, n_c1, n_c2, n_c3, n_c4, n_c5, n_c6, n_c7, n_c8, n_c9, n_c10, n_c11, n_c12, n_c14, n_c16, n_c18, n_c20, n_c24, n_c30, n_c31, n_c32, n_c36, n_c48, n_c57, n_c60, n_c63, n_c70, n_c75, n_c97, n_c100, n_c101, n_c104, n_c115, n_c116, n_c59, n_c150, n_c199, n_c200, n_c201, n_c216, n_c255, n_c256, n_c999, n_c1296, n_c4095, n_c6480, n_c100000, n_c1000, n_c65536, n_cl, n_add, n_in, s1, s3, am_wsum_n]
  refine ⟨by omega, ?_⟩
  refine lw_two (op_goes R) (by decide) (by decide) fun y I1 L1 P1 S1 e1 k1 k63 hE => ?_
  simp +decide (disch := omega) only [↓reduceIte, true_and, and_true, if_true, if_false, ne_eq, not_false_eq_true, am_u_at, am_nb0, am_nb1, am_fb0, am_fb1, am_kc_i, am_kc_r, am_kc_l, am_kc_n, am_wsum_n, am_wsum_i, am_wsum_r, am_wsum_l, am_rs_s, am_rs_n, n_c0, n_c1, n_c2, n_c3, n_c4, n_c5, n_c6, n_c7, n_c8, n_c9, n_c10, n_c11, n_c12, n_c14, n_c16, n_c18, n_c20, n_c24, n_c30, n_c31, n_c32, n_c36, n_c48, n_c57, n_c60, n_c63, n_c70, n_c75, n_c97, n_c100, n_c101, n_c104, n_c115, n_c116, n_c59, n_c150, n_c199, n_c200, n_c201, n_c216, n_c255, n_c256, n_c999, n_c1296, n_c4095, n_c6480, n_c100000, n_c1000, n_c65536, n_cl, n_add, n_in, e1, k1, k63]
  refine ⟨by omega, ?_⟩
  refine hE.mono fun v2 I2 L2 P2 S2 ⟨z1, z2, sg2, h2, R2, z3⟩ => ?_
  subst z1
  subst z2
  subst z3
  simp +decide (disch := omega) only [x159_312, x159_315, x159_316, ↓reduceIte, true_and, and_true, if_true, if_false, ne_eq, not_false_eq_true, am_u_at, am_nb0, am_nb1, am_fb0, am_fb1, am_kc_i, am_kc_r, am_kc_l, am_kc_n, am_wsum_n, am_wsum_i, am_wsum_r, am_wsum_l, am_rs_s, am_rs_n, eq_self]
  exact H I2 L2 sg2 h2 R2
set_option maxHeartbeats 4000000 in
theorem lw_b7 (R : r_R I L sg h) (ht : t + 4 ≤ Lx) (hL : Lx ≤ 2048) (H : lw_hd Lx t Q) : Ex 159 317 [some (.ref 1), some (.ref 3), some (.ref 63), some (.int (nI t))] [] I L (am_PT h (19 - h)) (am_S1 Lx) Q := by
  have s1 : (am_S1 Lx).1 1 = (20, Lx) := rfl
  have s3 : (am_S1 Lx).1 3 = (7, 0) := rfl
  simp +decide (disch := omega) only [x159_317, x159_318, x159_319, x159_320, x159_321, x159_322, x159_323, x159_326, x159_327, x159_328, x159_329, x159_330, x159_331, x159_332, ↓reduceIte, true_and, and_true, if_true, if_false, ne_eq, not_false_eq_true, am_u_at, am_nb0, am_nb1, am_fb0, am_fb1, am_kc_i, am_kc_r, am_kc_l, am_kc_n, am_wsum_n, am_wsum_i, am_wsum_r, am_wsum_l, am_rs_s, am_rs_n, n_c0, n_c1, n_c2, n_c3, n_c4, n_c5, n_c6, n_c7, n_c8, n_c9, n_c10, n_c11, n_c12, n_c14, n_c16, n_c18, n_c20, n_c24, n_c30, n_c31, n_c32, n_c36, n_c48, n_c57, n_c60, n_c63, n_c70, n_c75, n_c97, n_c100, n_c101, n_c104, n_c115, n_c116, n_c59, n_c150, n_c199, n_c200, n_c201, n_c216, n_c255, n_c256, n_c999, n_c1296, n_c4095, n_c6480, n_c100000, n_c1000, n_c65536, n_cl, n_add, n_in, s1, s3, am_wsum_n]
  refine ⟨by omega, ?_⟩
  refine lw_two (op_takes R) (by decide) (by decide) fun y I1 L1 P1 S1 e1 k1 k63 hE => ?_
  simp +decide (disch := omega) only [↓reduceIte, true_and, and_true, if_true, if_false, ne_eq, not_false_eq_true, am_u_at, am_nb0, am_nb1, am_fb0, am_fb1, am_kc_i, am_kc_r, am_kc_l, am_kc_n, am_wsum_n, am_wsum_i, am_wsum_r, am_wsum_l, am_rs_s, am_rs_n, n_c0, n_c1, n_c2, n_c3, n_c4, n_c5, n_c6, n_c7, n_c8, n_c9, n_c10, n_c11, n_c12, n_c14, n_c16, n_c18, n_c20, n_c24, n_c30, n_c31, n_c32, n_c36, n_c48, n_c57, n_c60, n_c63, n_c70, n_c75, n_c97, n_c100, n_c101, n_c104, n_c115, n_c116, n_c59, n_c150, n_c199, n_c200, n_c201, n_c216, n_c255, n_c256, n_c999, n_c1296, n_c4095, n_c6480, n_c100000, n_c1000, n_c65536, n_cl, n_add, n_in, e1, k1, k63]
  refine ⟨by omega, ?_⟩
  refine hE.mono fun v2 I2 L2 P2 S2 ⟨z1, z2, sg2, h2, R2, z3⟩ => ?_
  subst z1
  subst z2
  subst z3
  simp +decide (disch := omega) only [x159_335, x159_338, x159_339, ↓reduceIte, true_and, and_true, if_true, if_false, ne_eq, not_false_eq_true, am_u_at, am_nb0, am_nb1, am_fb0, am_fb1, am_kc_i, am_kc_r, am_kc_l, am_kc_n, am_wsum_n, am_wsum_i, am_wsum_r, am_wsum_l, am_rs_s, am_rs_n, eq_self]
  exact H I2 L2 sg2 h2 R2
set_option maxHeartbeats 4000000 in
theorem lw_b8 (R : r_R I L sg h) (ht : t + 4 ≤ Lx) (hL : Lx ≤ 2048) (H : lw_hd Lx t Q) : Ex 159 340 [some (.ref 1), some (.ref 3), some (.ref 63), some (.int (nI t))] [] I L (am_PT h (19 - h)) (am_S1 Lx) Q := by
  have s1 : (am_S1 Lx).1 1 = (20, Lx) := rfl
  have s3 : (am_S1 Lx).1 3 = (7, 0) := rfl
  simp +decide (disch := omega) only [x159_340, x159_341, x159_342, x159_343, x159_344, x159_345, x159_346, x159_349, x159_350, x159_351, x159_352, x159_353, x159_354, x159_355, ↓reduceIte, true_and, and_true, if_true, if_false, ne_eq, not_false_eq_true, am_u_at, am_nb0, am_nb1, am_fb0, am_fb1, am_kc_i, am_kc_r, am_kc_l, am_kc_n, am_wsum_n, am_wsum_i, am_wsum_r, am_wsum_l, am_rs_s, am_rs_n, n_c0, n_c1, n_c2, n_c3, n_c4, n_c5, n_c6, n_c7, n_c8, n_c9, n_c10, n_c11, n_c12, n_c14, n_c16, n_c18, n_c20, n_c24, n_c30, n_c31, n_c32, n_c36, n_c48, n_c57, n_c60, n_c63, n_c70, n_c75, n_c97, n_c100, n_c101, n_c104, n_c115, n_c116, n_c59, n_c150, n_c199, n_c200, n_c201, n_c216, n_c255, n_c256, n_c999, n_c1296, n_c4095, n_c6480, n_c100000, n_c1000, n_c65536, n_cl, n_add, n_in, s1, s3, am_wsum_n]
  refine ⟨by omega, ?_⟩
  refine lw_two (op_leaves R) (by decide) (by decide) fun y I1 L1 P1 S1 e1 k1 k63 hE => ?_
  simp +decide (disch := omega) only [↓reduceIte, true_and, and_true, if_true, if_false, ne_eq, not_false_eq_true, am_u_at, am_nb0, am_nb1, am_fb0, am_fb1, am_kc_i, am_kc_r, am_kc_l, am_kc_n, am_wsum_n, am_wsum_i, am_wsum_r, am_wsum_l, am_rs_s, am_rs_n, n_c0, n_c1, n_c2, n_c3, n_c4, n_c5, n_c6, n_c7, n_c8, n_c9, n_c10, n_c11, n_c12, n_c14, n_c16, n_c18, n_c20, n_c24, n_c30, n_c31, n_c32, n_c36, n_c48, n_c57, n_c60, n_c63, n_c70, n_c75, n_c97, n_c100, n_c101, n_c104, n_c115, n_c116, n_c59, n_c150, n_c199, n_c200, n_c201, n_c216, n_c255, n_c256, n_c999, n_c1296, n_c4095, n_c6480, n_c100000, n_c1000, n_c65536, n_cl, n_add, n_in, e1, k1, k63]
  refine ⟨by omega, ?_⟩
  refine hE.mono fun v2 I2 L2 P2 S2 ⟨z1, z2, sg2, h2, R2, z3⟩ => ?_
  subst z1
  subst z2
  subst z3
  simp +decide (disch := omega) only [x159_358, x159_361, x159_362, ↓reduceIte, true_and, and_true, if_true, if_false, ne_eq, not_false_eq_true, am_u_at, am_nb0, am_nb1, am_fb0, am_fb1, am_kc_i, am_kc_r, am_kc_l, am_kc_n, am_wsum_n, am_wsum_i, am_wsum_r, am_wsum_l, am_rs_s, am_rs_n, eq_self]
  exact H I2 L2 sg2 h2 R2
set_option maxHeartbeats 4000000 in
theorem lw_b9 (R : r_R I L sg h) (ht : t + 4 ≤ Lx) (hL : Lx ≤ 2048) (H : lw_hd Lx t Q) : Ex 159 363 [some (.ref 1), some (.ref 3), some (.ref 63), some (.int (nI t))] [] I L (am_PT h (19 - h)) (am_S1 Lx) Q := by
  have s1 : (am_S1 Lx).1 1 = (20, Lx) := rfl
  have s3 : (am_S1 Lx).1 3 = (7, 0) := rfl
  simp +decide (disch := omega) only [x159_363, x159_364, x159_365, x159_366, x159_367, x159_368, x159_369, x159_372, x159_373, x159_374, x159_375, x159_376, x159_377, x159_378, ↓reduceIte, true_and, and_true, if_true, if_false, ne_eq, not_false_eq_true, am_u_at, am_nb0, am_nb1, am_fb0, am_fb1, am_kc_i, am_kc_r, am_kc_l, am_kc_n, am_wsum_n, am_wsum_i, am_wsum_r, am_wsum_l, am_rs_s, am_rs_n, n_c0, n_c1, n_c2, n_c3, n_c4, n_c5, n_c6, n_c7, n_c8, n_c9, n_c10, n_c11, n_c12, n_c14, n_c16, n_c18, n_c20, n_c24, n_c30, n_c31, n_c32, n_c36, n_c48, n_c57, n_c60, n_c63, n_c70, n_c75, n_c97, n_c100, n_c101, n_c104, n_c115, n_c116, n_c59, n_c150, n_c199, n_c200, n_c201, n_c216, n_c255, n_c256, n_c999, n_c1296, n_c4095, n_c6480, n_c100000, n_c1000, n_c65536, n_cl, n_add, n_in, s1, s3, am_wsum_n]
  refine ⟨by omega, ?_⟩
  refine lw_two (op_encores R) (by decide) (by decide) fun y I1 L1 P1 S1 e1 k1 k63 hE => ?_
  simp +decide (disch := omega) only [↓reduceIte, true_and, and_true, if_true, if_false, ne_eq, not_false_eq_true, am_u_at, am_nb0, am_nb1, am_fb0, am_fb1, am_kc_i, am_kc_r, am_kc_l, am_kc_n, am_wsum_n, am_wsum_i, am_wsum_r, am_wsum_l, am_rs_s, am_rs_n, n_c0, n_c1, n_c2, n_c3, n_c4, n_c5, n_c6, n_c7, n_c8, n_c9, n_c10, n_c11, n_c12, n_c14, n_c16, n_c18, n_c20, n_c24, n_c30, n_c31, n_c32, n_c36, n_c48, n_c57, n_c60, n_c63, n_c70, n_c75, n_c97, n_c100, n_c101, n_c104, n_c115, n_c116, n_c59, n_c150, n_c199, n_c200, n_c201, n_c216, n_c255, n_c256, n_c999, n_c1296, n_c4095, n_c6480, n_c100000, n_c1000, n_c65536, n_cl, n_add, n_in, e1, k1, k63]
  refine ⟨by omega, ?_⟩
  refine hE.mono fun v2 I2 L2 P2 S2 ⟨z1, z2, sg2, h2, R2, z3⟩ => ?_
  subst z1
  subst z2
  subst z3
  simp +decide (disch := omega) only [x159_381, x159_384, x159_385, ↓reduceIte, true_and, and_true, if_true, if_false, ne_eq, not_false_eq_true, am_u_at, am_nb0, am_nb1, am_fb0, am_fb1, am_kc_i, am_kc_r, am_kc_l, am_kc_n, am_wsum_n, am_wsum_i, am_wsum_r, am_wsum_l, am_rs_s, am_rs_n, eq_self]
  exact H I2 L2 sg2 h2 R2
set_option maxHeartbeats 4000000 in
theorem lw_b10 (R : r_R I L sg h) (ht : t + 4 ≤ Lx) (hL : Lx ≤ 2048) (H : lw_hd Lx t Q) : Ex 159 386 [some (.ref 1), some (.ref 3), some (.ref 63), some (.int (nI t))] [] I L (am_PT h (19 - h)) (am_S1 Lx) Q := by
  have s1 : (am_S1 Lx).1 1 = (20, Lx) := rfl
  have s3 : (am_S1 Lx).1 3 = (7, 0) := rfl
  simp +decide (disch := omega) only [x159_386, x159_387, x159_390, x159_391, ↓reduceIte, true_and, and_true, if_true, if_false, ne_eq, not_false_eq_true, am_u_at, am_nb0, am_nb1, am_fb0, am_fb1, am_kc_i, am_kc_r, am_kc_l, am_kc_n, am_wsum_n, am_wsum_i, am_wsum_r, am_wsum_l, am_rs_s, am_rs_n, n_c0, n_c1, n_c2, n_c3, n_c4, n_c5, n_c6, n_c7, n_c8, n_c9, n_c10, n_c11, n_c12, n_c14, n_c16, n_c18, n_c20, n_c24, n_c30, n_c31, n_c32, n_c36, n_c48, n_c57, n_c60, n_c63, n_c70, n_c75, n_c97, n_c100, n_c101, n_c104, n_c115, n_c116, n_c59, n_c150, n_c199, n_c200, n_c201, n_c216, n_c255, n_c256, n_c999, n_c1296, n_c4095, n_c6480, n_c100000, n_c1000, n_c65536, n_cl, n_add, n_in, s1, s3, am_wsum_n]
  refine lw_two (op_undo R) (by decide) (by decide) fun y I1 L1 P1 S1 e1 k1 k63 hE => ?_
  simp +decide (disch := omega) only [↓reduceIte, true_and, and_true, if_true, if_false, ne_eq, not_false_eq_true, am_u_at, am_nb0, am_nb1, am_fb0, am_fb1, am_kc_i, am_kc_r, am_kc_l, am_kc_n, am_wsum_n, am_wsum_i, am_wsum_r, am_wsum_l, am_rs_s, am_rs_n, n_c0, n_c1, n_c2, n_c3, n_c4, n_c5, n_c6, n_c7, n_c8, n_c9, n_c10, n_c11, n_c12, n_c14, n_c16, n_c18, n_c20, n_c24, n_c30, n_c31, n_c32, n_c36, n_c48, n_c57, n_c60, n_c63, n_c70, n_c75, n_c97, n_c100, n_c101, n_c104, n_c115, n_c116, n_c59, n_c150, n_c199, n_c200, n_c201, n_c216, n_c255, n_c256, n_c999, n_c1296, n_c4095, n_c6480, n_c100000, n_c1000, n_c65536, n_cl, n_add, n_in, e1, k1, k63]
  refine hE.mono fun v2 I2 L2 P2 S2 ⟨z1, z2, sg2, h2, R2, z3⟩ => ?_
  subst z1
  subst z2
  subst z3
  simp +decide (disch := omega) only [x159_394, x159_397, x159_398, ↓reduceIte, true_and, and_true, if_true, if_false, ne_eq, not_false_eq_true, am_u_at, am_nb0, am_nb1, am_fb0, am_fb1, am_kc_i, am_kc_r, am_kc_l, am_kc_n, am_wsum_n, am_wsum_i, am_wsum_r, am_wsum_l, am_rs_s, am_rs_n, eq_self]
  exact H I2 L2 sg2 h2 R2
set_option maxHeartbeats 4000000 in
theorem lw_b11 (R : r_R I L sg h) (ht : t + 4 ≤ Lx) (hL : Lx ≤ 2048) (H : lw_hd Lx t Q) : Ex 159 399 [some (.ref 1), some (.ref 3), some (.ref 63), some (.int (nI t))] [] I L (am_PT h (19 - h)) (am_S1 Lx) Q := by
  have s1 : (am_S1 Lx).1 1 = (20, Lx) := rfl
  have s3 : (am_S1 Lx).1 3 = (7, 0) := rfl
  simp +decide (disch := omega) only [x159_399, x159_400, x159_401, x159_402, x159_403, x159_404, x159_405, x159_408, x159_409, x159_410, x159_411, x159_412, x159_413, x159_414, ↓reduceIte, true_and, and_true, if_true, if_false, ne_eq, not_false_eq_true, am_u_at, am_nb0, am_nb1, am_fb0, am_fb1, am_kc_i, am_kc_r, am_kc_l, am_kc_n, am_wsum_n, am_wsum_i, am_wsum_r, am_wsum_l, am_rs_s, am_rs_n, n_c0, n_c1, n_c2, n_c3, n_c4, n_c5, n_c6, n_c7, n_c8, n_c9, n_c10, n_c11, n_c12, n_c14, n_c16, n_c18, n_c20, n_c24, n_c30, n_c31, n_c32, n_c36, n_c48, n_c57, n_c60, n_c63, n_c70, n_c75, n_c97, n_c100, n_c101, n_c104, n_c115, n_c116, n_c59, n_c150, n_c199, n_c200, n_c201, n_c216, n_c255, n_c256, n_c999, n_c1296, n_c4095, n_c6480, n_c100000, n_c1000, n_c65536, n_cl, n_add, n_in, s1, s3, am_wsum_n]
  refine ⟨by omega, ?_⟩
  refine lw_two (op_back R) (by decide) (by decide) fun y I1 L1 P1 S1 e1 k1 k63 hE => ?_
  simp +decide (disch := omega) only [↓reduceIte, true_and, and_true, if_true, if_false, ne_eq, not_false_eq_true, am_u_at, am_nb0, am_nb1, am_fb0, am_fb1, am_kc_i, am_kc_r, am_kc_l, am_kc_n, am_wsum_n, am_wsum_i, am_wsum_r, am_wsum_l, am_rs_s, am_rs_n, n_c0, n_c1, n_c2, n_c3, n_c4, n_c5, n_c6, n_c7, n_c8, n_c9, n_c10, n_c11, n_c12, n_c14, n_c16, n_c18, n_c20, n_c24, n_c30, n_c31, n_c32, n_c36, n_c48, n_c57, n_c60, n_c63, n_c70, n_c75, n_c97, n_c100, n_c101, n_c104, n_c115, n_c116, n_c59, n_c150, n_c199, n_c200, n_c201, n_c216, n_c255, n_c256, n_c999, n_c1296, n_c4095, n_c6480, n_c100000, n_c1000, n_c65536, n_cl, n_add, n_in, e1, k1, k63]
  refine ⟨by omega, ?_⟩
  refine hE.mono fun v2 I2 L2 P2 S2 ⟨z1, z2, sg2, h2, R2, z3⟩ => ?_
  subst z1
  subst z2
  subst z3
  simp +decide (disch := omega) only [x159_417, x159_420, x159_421, ↓reduceIte, true_and, and_true, if_true, if_false, ne_eq, not_false_eq_true, am_u_at, am_nb0, am_nb1, am_fb0, am_fb1, am_kc_i, am_kc_r, am_kc_l, am_kc_n, am_wsum_n, am_wsum_i, am_wsum_r, am_wsum_l, am_rs_s, am_rs_n, eq_self]
  exact H I2 L2 sg2 h2 R2
set_option maxHeartbeats 4000000 in
theorem lw_b12 (R : r_R I L sg h) (ht : t + 4 ≤ Lx) (hL : Lx ≤ 2048) (H : lw_hd Lx t Q) : Ex 159 422 [some (.ref 1), some (.ref 3), some (.ref 63), some (.int (nI t))] [] I L (am_PT h (19 - h)) (am_S1 Lx) Q := by
  have s1 : (am_S1 Lx).1 1 = (20, Lx) := rfl
  have s3 : (am_S1 Lx).1 3 = (7, 0) := rfl
  simp +decide (disch := omega) only [x159_422, x159_423, x159_426, x159_427, ↓reduceIte, true_and, and_true, if_true, if_false, ne_eq, not_false_eq_true, am_u_at, am_nb0, am_nb1, am_fb0, am_fb1, am_kc_i, am_kc_r, am_kc_l, am_kc_n, am_wsum_n, am_wsum_i, am_wsum_r, am_wsum_l, am_rs_s, am_rs_n, n_c0, n_c1, n_c2, n_c3, n_c4, n_c5, n_c6, n_c7, n_c8, n_c9, n_c10, n_c11, n_c12, n_c14, n_c16, n_c18, n_c20, n_c24, n_c30, n_c31, n_c32, n_c36, n_c48, n_c57, n_c60, n_c63, n_c70, n_c75, n_c97, n_c100, n_c101, n_c104, n_c115, n_c116, n_c59, n_c150, n_c199, n_c200, n_c201, n_c216, n_c255, n_c256, n_c999, n_c1296, n_c4095, n_c6480, n_c100000, n_c1000, n_c65536, n_cl, n_add, n_in, s1, s3, am_wsum_n]
  refine lw_two (op_left R) (by decide) (by decide) fun y I1 L1 P1 S1 e1 k1 k63 hE => ?_
  simp +decide (disch := omega) only [↓reduceIte, true_and, and_true, if_true, if_false, ne_eq, not_false_eq_true, am_u_at, am_nb0, am_nb1, am_fb0, am_fb1, am_kc_i, am_kc_r, am_kc_l, am_kc_n, am_wsum_n, am_wsum_i, am_wsum_r, am_wsum_l, am_rs_s, am_rs_n, n_c0, n_c1, n_c2, n_c3, n_c4, n_c5, n_c6, n_c7, n_c8, n_c9, n_c10, n_c11, n_c12, n_c14, n_c16, n_c18, n_c20, n_c24, n_c30, n_c31, n_c32, n_c36, n_c48, n_c57, n_c60, n_c63, n_c70, n_c75, n_c97, n_c100, n_c101, n_c104, n_c115, n_c116, n_c59, n_c150, n_c199, n_c200, n_c201, n_c216, n_c255, n_c256, n_c999, n_c1296, n_c4095, n_c6480, n_c100000, n_c1000, n_c65536, n_cl, n_add, n_in, e1, k1, k63]
  refine hE.mono fun v2 I2 L2 P2 S2 ⟨z1, z2, sg2, h2, R2, z3⟩ => ?_
  subst z1
  subst z2
  subst z3
  simp +decide (disch := omega) only [x159_430, x159_433, x159_434, ↓reduceIte, true_and, and_true, if_true, if_false, ne_eq, not_false_eq_true, am_u_at, am_nb0, am_nb1, am_fb0, am_fb1, am_kc_i, am_kc_r, am_kc_l, am_kc_n, am_wsum_n, am_wsum_i, am_wsum_r, am_wsum_l, am_rs_s, am_rs_n, eq_self]
  exact H I2 L2 sg2 h2 R2
set_option maxHeartbeats 4000000 in
theorem lw_b13 (R : r_R I L sg h) (ht : t + 4 ≤ Lx) (hL : Lx ≤ 2048) (H : lw_hd Lx t Q) : Ex 159 435 [some (.ref 1), some (.ref 3), some (.ref 63), some (.int (nI t))] [] I L (am_PT h (19 - h)) (am_S1 Lx) Q := by
  have s1 : (am_S1 Lx).1 1 = (20, Lx) := rfl
  have s3 : (am_S1 Lx).1 3 = (7, 0) := rfl
  simp +decide (disch := omega) only [x159_435, x159_436, x159_439, x159_440, ↓reduceIte, true_and, and_true, if_true, if_false, ne_eq, not_false_eq_true, am_u_at, am_nb0, am_nb1, am_fb0, am_fb1, am_kc_i, am_kc_r, am_kc_l, am_kc_n, am_wsum_n, am_wsum_i, am_wsum_r, am_wsum_l, am_rs_s, am_rs_n, n_c0, n_c1, n_c2, n_c3, n_c4, n_c5, n_c6, n_c7, n_c8, n_c9, n_c10, n_c11, n_c12, n_c14, n_c16, n_c18, n_c20, n_c24, n_c30, n_c31, n_c32, n_c36, n_c48, n_c57, n_c60, n_c63, n_c70, n_c75, n_c97, n_c100, n_c101, n_c104, n_c115, n_c116, n_c59, n_c150, n_c199, n_c200, n_c201, n_c216, n_c255, n_c256, n_c999, n_c1296, n_c4095, n_c6480, n_c100000, n_c1000, n_c65536, n_cl, n_add, n_in, s1, s3, am_wsum_n]
  refine lw_two (op_see R) (by decide) (by decide) fun y I1 L1 P1 S1 e1 k1 k63 hE => ?_
  simp +decide (disch := omega) only [↓reduceIte, true_and, and_true, if_true, if_false, ne_eq, not_false_eq_true, am_u_at, am_nb0, am_nb1, am_fb0, am_fb1, am_kc_i, am_kc_r, am_kc_l, am_kc_n, am_wsum_n, am_wsum_i, am_wsum_r, am_wsum_l, am_rs_s, am_rs_n, n_c0, n_c1, n_c2, n_c3, n_c4, n_c5, n_c6, n_c7, n_c8, n_c9, n_c10, n_c11, n_c12, n_c14, n_c16, n_c18, n_c20, n_c24, n_c30, n_c31, n_c32, n_c36, n_c48, n_c57, n_c60, n_c63, n_c70, n_c75, n_c97, n_c100, n_c101, n_c104, n_c115, n_c116, n_c59, n_c150, n_c199, n_c200, n_c201, n_c216, n_c255, n_c256, n_c999, n_c1296, n_c4095, n_c6480, n_c100000, n_c1000, n_c65536, n_cl, n_add, n_in, e1, k1, k63]
  refine hE.mono fun v2 I2 L2 P2 S2 ⟨z1, z2, sg2, h2, R2, z3⟩ => ?_
  subst z1
  subst z2
  subst z3
  simp +decide (disch := omega) only [x159_443, x159_446, x159_447, ↓reduceIte, true_and, and_true, if_true, if_false, ne_eq, not_false_eq_true, am_u_at, am_nb0, am_nb1, am_fb0, am_fb1, am_kc_i, am_kc_r, am_kc_l, am_kc_n, am_wsum_n, am_wsum_i, am_wsum_r, am_wsum_l, am_rs_s, am_rs_n, eq_self]
  exact H I2 L2 sg2 h2 R2
set_option maxHeartbeats 4000000 in
theorem lw_b14 (R : r_R I L sg h) (ht : t + 4 ≤ Lx) (hL : Lx ≤ 2048) (H : lw_hd Lx t Q) : Ex 159 448 [some (.ref 1), some (.ref 3), some (.ref 63), some (.int (nI t))] [] I L (am_PT h (19 - h)) (am_S1 Lx) Q := by
  have s1 : (am_S1 Lx).1 1 = (20, Lx) := rfl
  have s3 : (am_S1 Lx).1 3 = (7, 0) := rfl
  simp +decide (disch := omega) only [x159_448, x159_449, x159_450, x159_451, x159_452, x159_453, x159_454, x159_457, x159_458, x159_459, x159_460, x159_461, x159_462, x159_463, ↓reduceIte, true_and, and_true, if_true, if_false, ne_eq, not_false_eq_true, am_u_at, am_nb0, am_nb1, am_fb0, am_fb1, am_kc_i, am_kc_r, am_kc_l, am_kc_n, am_wsum_n, am_wsum_i, am_wsum_r, am_wsum_l, am_rs_s, am_rs_n, n_c0, n_c1, n_c2, n_c3, n_c4, n_c5, n_c6, n_c7, n_c8, n_c9, n_c10, n_c11, n_c12, n_c14, n_c16, n_c18, n_c20, n_c24, n_c30, n_c31, n_c32, n_c36, n_c48, n_c57, n_c60, n_c63, n_c70, n_c75, n_c97, n_c100, n_c101, n_c104, n_c115, n_c116, n_c59, n_c150, n_c199, n_c200, n_c201, n_c216, n_c255, n_c256, n_c999, n_c1296, n_c4095, n_c6480, n_c100000, n_c1000, n_c65536, n_cl, n_add, n_in, s1, s3, am_wsum_n]
  refine ⟨by omega, ?_⟩
  refine lw_two (op_seen R) (by decide) (by decide) fun y I1 L1 P1 S1 e1 k1 k63 hE => ?_
  simp +decide (disch := omega) only [↓reduceIte, true_and, and_true, if_true, if_false, ne_eq, not_false_eq_true, am_u_at, am_nb0, am_nb1, am_fb0, am_fb1, am_kc_i, am_kc_r, am_kc_l, am_kc_n, am_wsum_n, am_wsum_i, am_wsum_r, am_wsum_l, am_rs_s, am_rs_n, n_c0, n_c1, n_c2, n_c3, n_c4, n_c5, n_c6, n_c7, n_c8, n_c9, n_c10, n_c11, n_c12, n_c14, n_c16, n_c18, n_c20, n_c24, n_c30, n_c31, n_c32, n_c36, n_c48, n_c57, n_c60, n_c63, n_c70, n_c75, n_c97, n_c100, n_c101, n_c104, n_c115, n_c116, n_c59, n_c150, n_c199, n_c200, n_c201, n_c216, n_c255, n_c256, n_c999, n_c1296, n_c4095, n_c6480, n_c100000, n_c1000, n_c65536, n_cl, n_add, n_in, e1, k1, k63]
  refine ⟨by omega, ?_⟩
  refine hE.mono fun v2 I2 L2 P2 S2 ⟨z1, z2, sg2, h2, R2, z3⟩ => ?_
  subst z1
  subst z2
  subst z3
  simp +decide (disch := omega) only [x159_466, x159_469, x159_470, ↓reduceIte, true_and, and_true, if_true, if_false, ne_eq, not_false_eq_true, am_u_at, am_nb0, am_nb1, am_fb0, am_fb1, am_kc_i, am_kc_r, am_kc_l, am_kc_n, am_wsum_n, am_wsum_i, am_wsum_r, am_wsum_l, am_rs_s, am_rs_n, eq_self]
  exact H I2 L2 sg2 h2 R2
set_option maxHeartbeats 4000000 in
theorem lw_b15 (R : r_R I L sg h) (ht : t + 4 ≤ Lx) (hL : Lx ≤ 2048) (H : lw_hd Lx t Q) : Ex 159 471 [some (.ref 1), some (.ref 3), some (.ref 63), some (.int (nI t))] [] I L (am_PT h (19 - h)) (am_S1 Lx) Q := by
  have s1 : (am_S1 Lx).1 1 = (20, Lx) := rfl
  have s3 : (am_S1 Lx).1 3 = (7, 0) := rfl
  simp +decide (disch := omega) only [x159_471, x159_472, x159_473, x159_474, x159_475, x159_476, x159_477, x159_478, x159_479, x159_480, x159_481, x159_482, x159_483, x159_484, x159_485, x159_486, x159_487, x159_490, x159_491, x159_492, x159_493, x159_494, x159_495, x159_496, x159_497, x159_498, x159_499, x159_500, x159_501, x159_502, x159_503, x159_504, x159_505, x159_506, ↓reduceIte, true_and, and_true, if_true, if_false, ne_eq, not_false_eq_true, am_u_at, am_nb0, am_nb1, am_fb0, am_fb1, am_kc_i, am_kc_r, am_kc_l, am_kc_n, am_wsum_n, am_wsum_i, am_wsum_r, am_wsum_l, am_rs_s, am_rs_n, n_c0, n_c1, n_c2, n_c3, n_c4, n_c5, n_c6, n_c7, n_c8, n_c9, n_c10, n_c11, n_c12, n_c14, n_c16, n_c18, n_c20, n_c24, n_c30, n_c31, n_c32, n_c36, n_c48, n_c57, n_c60, n_c63, n_c70, n_c75, n_c97, n_c100, n_c101, n_c104, n_c115, n_c116, n_c59, n_c150, n_c199, n_c200, n_c201, n_c216, n_c255, n_c256, n_c999, n_c1296, n_c4095, n_c6480, n_c100000, n_c1000, n_c65536, n_cl, n_add, n_in, s1, s3, am_wsum_n]
  refine ⟨by omega, ?_⟩
  refine ⟨by omega, ?_⟩
  refine ⟨by omega, ?_⟩
  refine lw_two (op_odds R) (by decide) (by decide) fun y I1 L1 P1 S1 e1 k1 k63 hE => ?_
  simp +decide (disch := omega) only [↓reduceIte, true_and, and_true, if_true, if_false, ne_eq, not_false_eq_true, am_u_at, am_nb0, am_nb1, am_fb0, am_fb1, am_kc_i, am_kc_r, am_kc_l, am_kc_n, am_wsum_n, am_wsum_i, am_wsum_r, am_wsum_l, am_rs_s, am_rs_n, n_c0, n_c1, n_c2, n_c3, n_c4, n_c5, n_c6, n_c7, n_c8, n_c9, n_c10, n_c11, n_c12, n_c14, n_c16, n_c18, n_c20, n_c24, n_c30, n_c31, n_c32, n_c36, n_c48, n_c57, n_c60, n_c63, n_c70, n_c75, n_c97, n_c100, n_c101, n_c104, n_c115, n_c116, n_c59, n_c150, n_c199, n_c200, n_c201, n_c216, n_c255, n_c256, n_c999, n_c1296, n_c4095, n_c6480, n_c100000, n_c1000, n_c65536, n_cl, n_add, n_in, e1, k1, k63]
  refine ⟨by omega, ?_⟩
  refine ⟨by omega, ?_⟩
  refine ⟨by omega, ?_⟩
  refine hE.mono fun v2 I2 L2 P2 S2 ⟨z1, z2, sg2, h2, R2, z3⟩ => ?_
  subst z1
  subst z2
  subst z3
  simp +decide (disch := omega) only [x159_509, x159_512, x159_513, ↓reduceIte, true_and, and_true, if_true, if_false, ne_eq, not_false_eq_true, am_u_at, am_nb0, am_nb1, am_fb0, am_fb1, am_kc_i, am_kc_r, am_kc_l, am_kc_n, am_wsum_n, am_wsum_i, am_wsum_r, am_wsum_l, am_rs_s, am_rs_n, eq_self]
  exact H I2 L2 sg2 h2 R2
set_option maxHeartbeats 4000000 in
theorem lw_b16 (R : r_R I L sg h) (ht : t + 4 ≤ Lx) (hL : Lx ≤ 2048) (H : lw_hd Lx t Q) : Ex 159 514 [some (.ref 1), some (.ref 3), some (.ref 63), some (.int (nI t))] [] I L (am_PT h (19 - h)) (am_S1 Lx) Q := by
  have s1 : (am_S1 Lx).1 1 = (20, Lx) := rfl
  have s3 : (am_S1 Lx).1 3 = (7, 0) := rfl
  simp +decide (disch := omega) only [x159_514, x159_515, x159_516, x159_517, x159_518, x159_519, x159_520, x159_523, x159_524, x159_525, x159_526, x159_527, x159_528, x159_529, ↓reduceIte, true_and, and_true, if_true, if_false, ne_eq, not_false_eq_true, am_u_at, am_nb0, am_nb1, am_fb0, am_fb1, am_kc_i, am_kc_r, am_kc_l, am_kc_n, am_wsum_n, am_wsum_i, am_wsum_r, am_wsum_l, am_rs_s, am_rs_n, n_c0, n_c1, n_c2, n_c3, n_c4, n_c5, n_c6, n_c7, n_c8, n_c9, n_c10, n_c11, n_c12, n_c14, n_c16, n_c18, n_c20, n_c24, n_c30, n_c31, n_c32, n_c36, n_c48, n_c57, n_c60, n_c63, n_c70, n_c75, n_c97, n_c100, n_c101, n_c104, n_c115, n_c116, n_c59, n_c150, n_c199, n_c200, n_c201, n_c216, n_c255, n_c256, n_c999, n_c1296, n_c4095, n_c6480, n_c100000, n_c1000, n_c65536, n_cl, n_add, n_in, s1, s3, am_wsum_n]
  refine ⟨by omega, ?_⟩
  refine lw_two (op_knows R) (by decide) (by decide) fun y I1 L1 P1 S1 e1 k1 k63 hE => ?_
  simp +decide (disch := omega) only [↓reduceIte, true_and, and_true, if_true, if_false, ne_eq, not_false_eq_true, am_u_at, am_nb0, am_nb1, am_fb0, am_fb1, am_kc_i, am_kc_r, am_kc_l, am_kc_n, am_wsum_n, am_wsum_i, am_wsum_r, am_wsum_l, am_rs_s, am_rs_n, n_c0, n_c1, n_c2, n_c3, n_c4, n_c5, n_c6, n_c7, n_c8, n_c9, n_c10, n_c11, n_c12, n_c14, n_c16, n_c18, n_c20, n_c24, n_c30, n_c31, n_c32, n_c36, n_c48, n_c57, n_c60, n_c63, n_c70, n_c75, n_c97, n_c100, n_c101, n_c104, n_c115, n_c116, n_c59, n_c150, n_c199, n_c200, n_c201, n_c216, n_c255, n_c256, n_c999, n_c1296, n_c4095, n_c6480, n_c100000, n_c1000, n_c65536, n_cl, n_add, n_in, e1, k1, k63]
  refine ⟨by omega, ?_⟩
  refine hE.mono fun v2 I2 L2 P2 S2 ⟨z1, z2, sg2, h2, R2, z3⟩ => ?_
  subst z1
  subst z2
  subst z3
  simp +decide (disch := omega) only [x159_532, x159_535, x159_536, ↓reduceIte, true_and, and_true, if_true, if_false, ne_eq, not_false_eq_true, am_u_at, am_nb0, am_nb1, am_fb0, am_fb1, am_kc_i, am_kc_r, am_kc_l, am_kc_n, am_wsum_n, am_wsum_i, am_wsum_r, am_wsum_l, am_rs_s, am_rs_n, eq_self]
  exact H I2 L2 sg2 h2 R2
set_option maxHeartbeats 4000000 in
theorem lw_b17 (R : r_R I L sg h) (ht : t + 4 ≤ Lx) (hL : Lx ≤ 2048) (H : lw_hd Lx t Q) : Ex 159 537 [some (.ref 1), some (.ref 3), some (.ref 63), some (.int (nI t))] [] I L (am_PT h (19 - h)) (am_S1 Lx) Q := by
  have s1 : (am_S1 Lx).1 1 = (20, Lx) := rfl
  have s3 : (am_S1 Lx).1 3 = (7, 0) := rfl
  simp +decide (disch := omega) only [x159_537, x159_538, x159_539, x159_540, x159_541, x159_542, x159_543, x159_546, x159_547, x159_548, x159_549, x159_550, x159_551, x159_552, ↓reduceIte, true_and, and_true, if_true, if_false, ne_eq, not_false_eq_true, am_u_at, am_nb0, am_nb1, am_fb0, am_fb1, am_kc_i, am_kc_r, am_kc_l, am_kc_n, am_wsum_n, am_wsum_i, am_wsum_r, am_wsum_l, am_rs_s, am_rs_n, n_c0, n_c1, n_c2, n_c3, n_c4, n_c5, n_c6, n_c7, n_c8, n_c9, n_c10, n_c11, n_c12, n_c14, n_c16, n_c18, n_c20, n_c24, n_c30, n_c31, n_c32, n_c36, n_c48, n_c57, n_c60, n_c63, n_c70, n_c75, n_c97, n_c100, n_c101, n_c104, n_c115, n_c116, n_c59, n_c150, n_c199, n_c200, n_c201, n_c216, n_c255, n_c256, n_c999, n_c1296, n_c4095, n_c6480, n_c100000, n_c1000, n_c65536, n_cl, n_add, n_in, s1, s3, am_wsum_n]
  refine ⟨by omega, ?_⟩
  refine lw_two (op_felt R) (by decide) (by decide) fun y I1 L1 P1 S1 e1 k1 k63 hE => ?_
  simp +decide (disch := omega) only [↓reduceIte, true_and, and_true, if_true, if_false, ne_eq, not_false_eq_true, am_u_at, am_nb0, am_nb1, am_fb0, am_fb1, am_kc_i, am_kc_r, am_kc_l, am_kc_n, am_wsum_n, am_wsum_i, am_wsum_r, am_wsum_l, am_rs_s, am_rs_n, n_c0, n_c1, n_c2, n_c3, n_c4, n_c5, n_c6, n_c7, n_c8, n_c9, n_c10, n_c11, n_c12, n_c14, n_c16, n_c18, n_c20, n_c24, n_c30, n_c31, n_c32, n_c36, n_c48, n_c57, n_c60, n_c63, n_c70, n_c75, n_c97, n_c100, n_c101, n_c104, n_c115, n_c116, n_c59, n_c150, n_c199, n_c200, n_c201, n_c216, n_c255, n_c256, n_c999, n_c1296, n_c4095, n_c6480, n_c100000, n_c1000, n_c65536, n_cl, n_add, n_in, e1, k1, k63]
  refine ⟨by omega, ?_⟩
  refine hE.mono fun v2 I2 L2 P2 S2 ⟨z1, z2, sg2, h2, R2, z3⟩ => ?_
  subst z1
  subst z2
  subst z3
  simp +decide (disch := omega) only [x159_555, x159_558, x159_559, ↓reduceIte, true_and, and_true, if_true, if_false, ne_eq, not_false_eq_true, am_u_at, am_nb0, am_nb1, am_fb0, am_fb1, am_kc_i, am_kc_r, am_kc_l, am_kc_n, am_wsum_n, am_wsum_i, am_wsum_r, am_wsum_l, am_rs_s, am_rs_n, eq_self]
  exact H I2 L2 sg2 h2 R2
set_option maxHeartbeats 4000000 in
theorem lw_b18 (R : r_R I L sg h) (ht : t + 4 ≤ Lx) (hL : Lx ≤ 2048) (H : lw_hd Lx t Q) : Ex 159 560 [some (.ref 1), some (.ref 3), some (.ref 63), some (.int (nI t))] [] I L (am_PT h (19 - h)) (am_S1 Lx) Q := by
  have s1 : (am_S1 Lx).1 1 = (20, Lx) := rfl
  have s3 : (am_S1 Lx).1 3 = (7, 0) := rfl
  simp +decide (disch := omega) only [x159_560, x159_561, x159_562, x159_563, x159_564, x159_565, x159_566, x159_569, x159_570, x159_571, x159_572, x159_573, x159_574, x159_575, ↓reduceIte, true_and, and_true, if_true, if_false, ne_eq, not_false_eq_true, am_u_at, am_nb0, am_nb1, am_fb0, am_fb1, am_kc_i, am_kc_r, am_kc_l, am_kc_n, am_wsum_n, am_wsum_i, am_wsum_r, am_wsum_l, am_rs_s, am_rs_n, n_c0, n_c1, n_c2, n_c3, n_c4, n_c5, n_c6, n_c7, n_c8, n_c9, n_c10, n_c11, n_c12, n_c14, n_c16, n_c18, n_c20, n_c24, n_c30, n_c31, n_c32, n_c36, n_c48, n_c57, n_c60, n_c63, n_c70, n_c75, n_c97, n_c100, n_c101, n_c104, n_c115, n_c116, n_c59, n_c150, n_c199, n_c200, n_c201, n_c216, n_c255, n_c256, n_c999, n_c1296, n_c4095, n_c6480, n_c100000, n_c1000, n_c65536, n_cl, n_add, n_in, s1, s3, am_wsum_n]
  refine ⟨by omega, ?_⟩
  refine lw_two (op_whose R) (by decide) (by decide) fun y I1 L1 P1 S1 e1 k1 k63 hE => ?_
  simp +decide (disch := omega) only [↓reduceIte, true_and, and_true, if_true, if_false, ne_eq, not_false_eq_true, am_u_at, am_nb0, am_nb1, am_fb0, am_fb1, am_kc_i, am_kc_r, am_kc_l, am_kc_n, am_wsum_n, am_wsum_i, am_wsum_r, am_wsum_l, am_rs_s, am_rs_n, n_c0, n_c1, n_c2, n_c3, n_c4, n_c5, n_c6, n_c7, n_c8, n_c9, n_c10, n_c11, n_c12, n_c14, n_c16, n_c18, n_c20, n_c24, n_c30, n_c31, n_c32, n_c36, n_c48, n_c57, n_c60, n_c63, n_c70, n_c75, n_c97, n_c100, n_c101, n_c104, n_c115, n_c116, n_c59, n_c150, n_c199, n_c200, n_c201, n_c216, n_c255, n_c256, n_c999, n_c1296, n_c4095, n_c6480, n_c100000, n_c1000, n_c65536, n_cl, n_add, n_in, e1, k1, k63]
  refine ⟨by omega, ?_⟩
  refine hE.mono fun v2 I2 L2 P2 S2 ⟨z1, z2, sg2, h2, R2, z3⟩ => ?_
  subst z1
  subst z2
  subst z3
  simp +decide (disch := omega) only [x159_578, x159_581, x159_582, ↓reduceIte, true_and, and_true, if_true, if_false, ne_eq, not_false_eq_true, am_u_at, am_nb0, am_nb1, am_fb0, am_fb1, am_kc_i, am_kc_r, am_kc_l, am_kc_n, am_wsum_n, am_wsum_i, am_wsum_r, am_wsum_l, am_rs_s, am_rs_n, eq_self]
  exact H I2 L2 sg2 h2 R2
set_option maxHeartbeats 4000000 in
theorem lw_b19 (R : r_R I L sg h) (ht : t + 4 ≤ Lx) (hL : Lx ≤ 2048) (H : lw_hd Lx t Q) : Ex 159 583 [some (.ref 1), some (.ref 3), some (.ref 63), some (.int (nI t))] [] I L (am_PT h (19 - h)) (am_S1 Lx) Q := by
  have s1 : (am_S1 Lx).1 1 = (20, Lx) := rfl
  have s3 : (am_S1 Lx).1 3 = (7, 0) := rfl
  simp +decide (disch := omega) only [x159_583, x159_584, x159_585, x159_586, x159_587, x159_588, x159_589, x159_590, x159_591, x159_592, x159_593, x159_594, x159_595, x159_596, x159_597, x159_598, x159_599, x159_602, x159_603, x159_604, x159_605, x159_606, x159_607, x159_608, x159_609, x159_610, x159_611, x159_612, x159_613, x159_614, x159_615, x159_616, x159_617, x159_618, ↓reduceIte, true_and, and_true, if_true, if_false, ne_eq, not_false_eq_true, am_u_at, am_nb0, am_nb1, am_fb0, am_fb1, am_kc_i, am_kc_r, am_kc_l, am_kc_n, am_wsum_n, am_wsum_i, am_wsum_r, am_wsum_l, am_rs_s, am_rs_n, n_c0, n_c1, n_c2, n_c3, n_c4, n_c5, n_c6, n_c7, n_c8, n_c9, n_c10, n_c11, n_c12, n_c14, n_c16, n_c18, n_c20, n_c24, n_c30, n_c31, n_c32, n_c36, n_c48, n_c57, n_c60, n_c63, n_c70, n_c75, n_c97, n_c100, n_c101, n_c104, n_c115, n_c116, n_c59, n_c150, n_c199, n_c200, n_c201, n_c216, n_c255, n_c256, n_c999, n_c1296, n_c4095, n_c6480, n_c100000, n_c1000, n_c65536, n_cl, n_add, n_in, s1, s3, am_wsum_n]
  refine ⟨by omega, ?_⟩
  refine ⟨by omega, ?_⟩
  refine ⟨by omega, ?_⟩
  refine lw_two (op_tells R) (by decide) (by decide) fun y I1 L1 P1 S1 e1 k1 k63 hE => ?_
  simp +decide (disch := omega) only [↓reduceIte, true_and, and_true, if_true, if_false, ne_eq, not_false_eq_true, am_u_at, am_nb0, am_nb1, am_fb0, am_fb1, am_kc_i, am_kc_r, am_kc_l, am_kc_n, am_wsum_n, am_wsum_i, am_wsum_r, am_wsum_l, am_rs_s, am_rs_n, n_c0, n_c1, n_c2, n_c3, n_c4, n_c5, n_c6, n_c7, n_c8, n_c9, n_c10, n_c11, n_c12, n_c14, n_c16, n_c18, n_c20, n_c24, n_c30, n_c31, n_c32, n_c36, n_c48, n_c57, n_c60, n_c63, n_c70, n_c75, n_c97, n_c100, n_c101, n_c104, n_c115, n_c116, n_c59, n_c150, n_c199, n_c200, n_c201, n_c216, n_c255, n_c256, n_c999, n_c1296, n_c4095, n_c6480, n_c100000, n_c1000, n_c65536, n_cl, n_add, n_in, e1, k1, k63]
  refine ⟨by omega, ?_⟩
  refine ⟨by omega, ?_⟩
  refine ⟨by omega, ?_⟩
  refine hE.mono fun v2 I2 L2 P2 S2 ⟨z1, z2, sg2, h2, R2, z3⟩ => ?_
  subst z1
  subst z2
  subst z3
  simp +decide (disch := omega) only [x159_621, x159_624, x159_625, ↓reduceIte, true_and, and_true, if_true, if_false, ne_eq, not_false_eq_true, am_u_at, am_nb0, am_nb1, am_fb0, am_fb1, am_kc_i, am_kc_r, am_kc_l, am_kc_n, am_wsum_n, am_wsum_i, am_wsum_r, am_wsum_l, am_rs_s, am_rs_n, eq_self]
  exact H I2 L2 sg2 h2 R2
set_option maxHeartbeats 4000000 in
theorem lw_b20 (R : r_R I L sg h) (ht : t + 4 ≤ Lx) (hL : Lx ≤ 2048) (H : lw_hd Lx t Q) : Ex 159 626 [some (.ref 1), some (.ref 3), some (.ref 63), some (.int (nI t))] [] I L (am_PT h (19 - h)) (am_S1 Lx) Q := by
  have s1 : (am_S1 Lx).1 1 = (20, Lx) := rfl
  have s3 : (am_S1 Lx).1 3 = (7, 0) := rfl
  simp +decide (disch := omega) only [x159_626, x159_627, x159_630, x159_631, ↓reduceIte, true_and, and_true, if_true, if_false, ne_eq, not_false_eq_true, am_u_at, am_nb0, am_nb1, am_fb0, am_fb1, am_kc_i, am_kc_r, am_kc_l, am_kc_n, am_wsum_n, am_wsum_i, am_wsum_r, am_wsum_l, am_rs_s, am_rs_n, n_c0, n_c1, n_c2, n_c3, n_c4, n_c5, n_c6, n_c7, n_c8, n_c9, n_c10, n_c11, n_c12, n_c14, n_c16, n_c18, n_c20, n_c24, n_c30, n_c31, n_c32, n_c36, n_c48, n_c57, n_c60, n_c63, n_c70, n_c75, n_c97, n_c100, n_c101, n_c104, n_c115, n_c116, n_c59, n_c150, n_c199, n_c200, n_c201, n_c216, n_c255, n_c256, n_c999, n_c1296, n_c4095, n_c6480, n_c100000, n_c1000, n_c65536, n_cl, n_add, n_in, s1, s3, am_wsum_n]
  refine lw_two (op_fits R) (by decide) (by decide) fun y I1 L1 P1 S1 e1 k1 k63 hE => ?_
  simp +decide (disch := omega) only [↓reduceIte, true_and, and_true, if_true, if_false, ne_eq, not_false_eq_true, am_u_at, am_nb0, am_nb1, am_fb0, am_fb1, am_kc_i, am_kc_r, am_kc_l, am_kc_n, am_wsum_n, am_wsum_i, am_wsum_r, am_wsum_l, am_rs_s, am_rs_n, n_c0, n_c1, n_c2, n_c3, n_c4, n_c5, n_c6, n_c7, n_c8, n_c9, n_c10, n_c11, n_c12, n_c14, n_c16, n_c18, n_c20, n_c24, n_c30, n_c31, n_c32, n_c36, n_c48, n_c57, n_c60, n_c63, n_c70, n_c75, n_c97, n_c100, n_c101, n_c104, n_c115, n_c116, n_c59, n_c150, n_c199, n_c200, n_c201, n_c216, n_c255, n_c256, n_c999, n_c1296, n_c4095, n_c6480, n_c100000, n_c1000, n_c65536, n_cl, n_add, n_in, e1, k1, k63]
  refine hE.mono fun v2 I2 L2 P2 S2 ⟨z1, z2, sg2, h2, R2, z3⟩ => ?_
  subst z1
  subst z2
  subst z3
  simp +decide (disch := omega) only [x159_634, x159_637, x159_638, ↓reduceIte, true_and, and_true, if_true, if_false, ne_eq, not_false_eq_true, am_u_at, am_nb0, am_nb1, am_fb0, am_fb1, am_kc_i, am_kc_r, am_kc_l, am_kc_n, am_wsum_n, am_wsum_i, am_wsum_r, am_wsum_l, am_rs_s, am_rs_n, eq_self]
  exact H I2 L2 sg2 h2 R2
set_option maxHeartbeats 4000000 in
theorem lw_b21 (R : r_R I L sg h) (ht : t + 4 ≤ Lx) (hL : Lx ≤ 2048) (H : lw_hd Lx t Q) : Ex 159 639 [some (.ref 1), some (.ref 3), some (.ref 63), some (.int (nI t))] [] I L (am_PT h (19 - h)) (am_S1 Lx) Q := by
  have s1 : (am_S1 Lx).1 1 = (20, Lx) := rfl
  have s3 : (am_S1 Lx).1 3 = (7, 0) := rfl
  simp +decide (disch := omega) only [x159_639, x159_640, x159_643, x159_644, ↓reduceIte, true_and, and_true, if_true, if_false, ne_eq, not_false_eq_true, am_u_at, am_nb0, am_nb1, am_fb0, am_fb1, am_kc_i, am_kc_r, am_kc_l, am_kc_n, am_wsum_n, am_wsum_i, am_wsum_r, am_wsum_l, am_rs_s, am_rs_n, n_c0, n_c1, n_c2, n_c3, n_c4, n_c5, n_c6, n_c7, n_c8, n_c9, n_c10, n_c11, n_c12, n_c14, n_c16, n_c18, n_c20, n_c24, n_c30, n_c31, n_c32, n_c36, n_c48, n_c57, n_c60, n_c63, n_c70, n_c75, n_c97, n_c100, n_c101, n_c104, n_c115, n_c116, n_c59, n_c150, n_c199, n_c200, n_c201, n_c216, n_c255, n_c256, n_c999, n_c1296, n_c4095, n_c6480, n_c100000, n_c1000, n_c65536, n_cl, n_add, n_in, s1, s3, am_wsum_n]
  refine lw_two (op_forget R) (by decide) (by decide) fun y I1 L1 P1 S1 e1 k1 k63 hE => ?_
  simp +decide (disch := omega) only [↓reduceIte, true_and, and_true, if_true, if_false, ne_eq, not_false_eq_true, am_u_at, am_nb0, am_nb1, am_fb0, am_fb1, am_kc_i, am_kc_r, am_kc_l, am_kc_n, am_wsum_n, am_wsum_i, am_wsum_r, am_wsum_l, am_rs_s, am_rs_n, n_c0, n_c1, n_c2, n_c3, n_c4, n_c5, n_c6, n_c7, n_c8, n_c9, n_c10, n_c11, n_c12, n_c14, n_c16, n_c18, n_c20, n_c24, n_c30, n_c31, n_c32, n_c36, n_c48, n_c57, n_c60, n_c63, n_c70, n_c75, n_c97, n_c100, n_c101, n_c104, n_c115, n_c116, n_c59, n_c150, n_c199, n_c200, n_c201, n_c216, n_c255, n_c256, n_c999, n_c1296, n_c4095, n_c6480, n_c100000, n_c1000, n_c65536, n_cl, n_add, n_in, e1, k1, k63]
  refine hE.mono fun v2 I2 L2 P2 S2 ⟨z1, z2, sg2, h2, R2, z3⟩ => ?_
  subst z1
  subst z2
  subst z3
  simp +decide (disch := omega) only [x159_647, x159_650, x159_651, ↓reduceIte, true_and, and_true, if_true, if_false, ne_eq, not_false_eq_true, am_u_at, am_nb0, am_nb1, am_fb0, am_fb1, am_kc_i, am_kc_r, am_kc_l, am_kc_n, am_wsum_n, am_wsum_i, am_wsum_r, am_wsum_l, am_rs_s, am_rs_n, eq_self]
  exact H I2 L2 sg2 h2 R2
set_option maxHeartbeats 4000000 in
theorem lw_b22 (R : r_R I L sg h) (ht : t + 4 ≤ Lx) (hL : Lx ≤ 2048) (H : lw_hd Lx t Q) : Ex 159 652 [some (.ref 1), some (.ref 3), some (.ref 63), some (.int (nI t))] [] I L (am_PT h (19 - h)) (am_S1 Lx) Q := by
  have s1 : (am_S1 Lx).1 1 = (20, Lx) := rfl
  have s3 : (am_S1 Lx).1 3 = (7, 0) := rfl
  simp +decide (disch := omega) only [x159_652, x159_653, x159_654, x159_655, x159_656, x159_657, x159_658, x159_659, x159_660, x159_661, x159_662, x159_663, x159_666, x159_667, x159_668, x159_669, x159_670, x159_671, x159_672, x159_673, x159_674, x159_675, x159_676, x159_677, ↓reduceIte, true_and, and_true, if_true, if_false, ne_eq, not_false_eq_true, am_u_at, am_nb0, am_nb1, am_fb0, am_fb1, am_kc_i, am_kc_r, am_kc_l, am_kc_n, am_wsum_n, am_wsum_i, am_wsum_r, am_wsum_l, am_rs_s, am_rs_n, n_c0, n_c1, n_c2, n_c3, n_c4, n_c5, n_c6, n_c7, n_c8, n_c9, n_c10, n_c11, n_c12, n_c14, n_c16, n_c18, n_c20, n_c24, n_c30, n_c31, n_c32, n_c36, n_c48, n_c57, n_c60, n_c63, n_c70, n_c75, n_c97, n_c100, n_c101, n_c104, n_c115, n_c116, n_c59, n_c150, n_c199, n_c200, n_c201, n_c216, n_c255, n_c256, n_c999, n_c1296, n_c4095, n_c6480, n_c100000, n_c1000, n_c65536, n_cl, n_add, n_in, s1, s3, am_wsum_n]
  refine ⟨by omega, ?_⟩
  refine ⟨by omega, ?_⟩
  refine lw_two (op_rate R) (by decide) (by decide) fun y I1 L1 P1 S1 e1 k1 k63 hE => ?_
  simp +decide (disch := omega) only [↓reduceIte, true_and, and_true, if_true, if_false, ne_eq, not_false_eq_true, am_u_at, am_nb0, am_nb1, am_fb0, am_fb1, am_kc_i, am_kc_r, am_kc_l, am_kc_n, am_wsum_n, am_wsum_i, am_wsum_r, am_wsum_l, am_rs_s, am_rs_n, n_c0, n_c1, n_c2, n_c3, n_c4, n_c5, n_c6, n_c7, n_c8, n_c9, n_c10, n_c11, n_c12, n_c14, n_c16, n_c18, n_c20, n_c24, n_c30, n_c31, n_c32, n_c36, n_c48, n_c57, n_c60, n_c63, n_c70, n_c75, n_c97, n_c100, n_c101, n_c104, n_c115, n_c116, n_c59, n_c150, n_c199, n_c200, n_c201, n_c216, n_c255, n_c256, n_c999, n_c1296, n_c4095, n_c6480, n_c100000, n_c1000, n_c65536, n_cl, n_add, n_in, e1, k1, k63]
  refine ⟨by omega, ?_⟩
  refine ⟨by omega, ?_⟩
  refine hE.mono fun v2 I2 L2 P2 S2 ⟨z1, z2, sg2, h2, R2, z3⟩ => ?_
  subst z1
  subst z2
  subst z3
  simp +decide (disch := omega) only [x159_680, x159_683, x159_684, ↓reduceIte, true_and, and_true, if_true, if_false, ne_eq, not_false_eq_true, am_u_at, am_nb0, am_nb1, am_fb0, am_fb1, am_kc_i, am_kc_r, am_kc_l, am_kc_n, am_wsum_n, am_wsum_i, am_wsum_r, am_wsum_l, am_rs_s, am_rs_n, eq_self]
  exact H I2 L2 sg2 h2 R2
set_option maxHeartbeats 4000000 in
theorem lw_b23 (R : r_R I L sg h) (ht : t + 4 ≤ Lx) (hL : Lx ≤ 2048) (H : lw_hd Lx t Q) : Ex 159 685 [some (.ref 1), some (.ref 3), some (.ref 63), some (.int (nI t))] [] I L (am_PT h (19 - h)) (am_S1 Lx) Q := by
  have s1 : (am_S1 Lx).1 1 = (20, Lx) := rfl
  have s3 : (am_S1 Lx).1 3 = (7, 0) := rfl
  simp +decide (disch := omega) only [x159_685, x159_686, x159_687, x159_688, x159_689, x159_690, x159_691, x159_694, x159_695, x159_696, x159_697, x159_698, x159_699, x159_700, ↓reduceIte, true_and, and_true, if_true, if_false, ne_eq, not_false_eq_true, am_u_at, am_nb0, am_nb1, am_fb0, am_fb1, am_kc_i, am_kc_r, am_kc_l, am_kc_n, am_wsum_n, am_wsum_i, am_wsum_r, am_wsum_l, am_rs_s, am_rs_n, n_c0, n_c1, n_c2, n_c3, n_c4, n_c5, n_c6, n_c7, n_c8, n_c9, n_c10, n_c11, n_c12, n_c14, n_c16, n_c18, n_c20, n_c24, n_c30, n_c31, n_c32, n_c36, n_c48, n_c57, n_c60, n_c63, n_c70, n_c75, n_c97, n_c100, n_c101, n_c104, n_c115, n_c116, n_c59, n_c150, n_c199, n_c200, n_c201, n_c216, n_c255, n_c256, n_c999, n_c1296, n_c4095, n_c6480, n_c100000, n_c1000, n_c65536, n_cl, n_add, n_in, s1, s3, am_wsum_n]
  refine ⟨by omega, ?_⟩
  refine lw_two (op_keep R) (by decide) (by decide) fun y I1 L1 P1 S1 e1 k1 k63 hE => ?_
  simp +decide (disch := omega) only [↓reduceIte, true_and, and_true, if_true, if_false, ne_eq, not_false_eq_true, am_u_at, am_nb0, am_nb1, am_fb0, am_fb1, am_kc_i, am_kc_r, am_kc_l, am_kc_n, am_wsum_n, am_wsum_i, am_wsum_r, am_wsum_l, am_rs_s, am_rs_n, n_c0, n_c1, n_c2, n_c3, n_c4, n_c5, n_c6, n_c7, n_c8, n_c9, n_c10, n_c11, n_c12, n_c14, n_c16, n_c18, n_c20, n_c24, n_c30, n_c31, n_c32, n_c36, n_c48, n_c57, n_c60, n_c63, n_c70, n_c75, n_c97, n_c100, n_c101, n_c104, n_c115, n_c116, n_c59, n_c150, n_c199, n_c200, n_c201, n_c216, n_c255, n_c256, n_c999, n_c1296, n_c4095, n_c6480, n_c100000, n_c1000, n_c65536, n_cl, n_add, n_in, e1, k1, k63]
  refine ⟨by omega, ?_⟩
  refine hE.mono fun v2 I2 L2 P2 S2 ⟨z1, z2, sg2, h2, R2, z3⟩ => ?_
  subst z1
  subst z2
  subst z3
  simp +decide (disch := omega) only [x159_703, x159_706, x159_707, ↓reduceIte, true_and, and_true, if_true, if_false, ne_eq, not_false_eq_true, am_u_at, am_nb0, am_nb1, am_fb0, am_fb1, am_kc_i, am_kc_r, am_kc_l, am_kc_n, am_wsum_n, am_wsum_i, am_wsum_r, am_wsum_l, am_rs_s, am_rs_n, eq_self]
  exact H I2 L2 sg2 h2 R2
set_option maxHeartbeats 4000000 in
theorem lw_b24 (R : r_R I L sg h) (ht : t + 4 ≤ Lx) (hL : Lx ≤ 2048) (H : lw_hd Lx t Q) : Ex 159 708 [some (.ref 1), some (.ref 3), some (.ref 63), some (.int (nI t))] [] I L (am_PT h (19 - h)) (am_S1 Lx) Q := by
  have s1 : (am_S1 Lx).1 1 = (20, Lx) := rfl
  have s3 : (am_S1 Lx).1 3 = (7, 0) := rfl
  simp +decide (disch := omega) only [x159_708, x159_709, x159_710, x159_711, x159_712, x159_713, x159_714, x159_717, x159_718, x159_719, x159_720, x159_721, x159_722, x159_723, ↓reduceIte, true_and, and_true, if_true, if_false, ne_eq, not_false_eq_true, am_u_at, am_nb0, am_nb1, am_fb0, am_fb1, am_kc_i, am_kc_r, am_kc_l, am_kc_n, am_wsum_n, am_wsum_i, am_wsum_r, am_wsum_l, am_rs_s, am_rs_n, n_c0, n_c1, n_c2, n_c3, n_c4, n_c5, n_c6, n_c7, n_c8, n_c9, n_c10, n_c11, n_c12, n_c14, n_c16, n_c18, n_c20, n_c24, n_c30, n_c31, n_c32, n_c36, n_c48, n_c57, n_c60, n_c63, n_c70, n_c75, n_c97, n_c100, n_c101, n_c104, n_c115, n_c116, n_c59, n_c150, n_c199, n_c200, n_c201, n_c216, n_c255, n_c256, n_c999, n_c1296, n_c4095, n_c6480, n_c100000, n_c1000, n_c65536, n_cl, n_add, n_in, s1, s3, am_wsum_n]
  refine ⟨by omega, ?_⟩
  refine lw_two (op_again R) (by decide) (by decide) fun y I1 L1 P1 S1 e1 k1 k63 hE => ?_
  simp +decide (disch := omega) only [↓reduceIte, true_and, and_true, if_true, if_false, ne_eq, not_false_eq_true, am_u_at, am_nb0, am_nb1, am_fb0, am_fb1, am_kc_i, am_kc_r, am_kc_l, am_kc_n, am_wsum_n, am_wsum_i, am_wsum_r, am_wsum_l, am_rs_s, am_rs_n, n_c0, n_c1, n_c2, n_c3, n_c4, n_c5, n_c6, n_c7, n_c8, n_c9, n_c10, n_c11, n_c12, n_c14, n_c16, n_c18, n_c20, n_c24, n_c30, n_c31, n_c32, n_c36, n_c48, n_c57, n_c60, n_c63, n_c70, n_c75, n_c97, n_c100, n_c101, n_c104, n_c115, n_c116, n_c59, n_c150, n_c199, n_c200, n_c201, n_c216, n_c255, n_c256, n_c999, n_c1296, n_c4095, n_c6480, n_c100000, n_c1000, n_c65536, n_cl, n_add, n_in, e1, k1, k63]
  refine ⟨by omega, ?_⟩
  refine hE.mono fun v2 I2 L2 P2 S2 ⟨z1, z2, sg2, h2, R2, z3⟩ => ?_
  subst z1
  subst z2
  subst z3
  simp +decide (disch := omega) only [x159_726, x159_729, x159_730, ↓reduceIte, true_and, and_true, if_true, if_false, ne_eq, not_false_eq_true, am_u_at, am_nb0, am_nb1, am_fb0, am_fb1, am_kc_i, am_kc_r, am_kc_l, am_kc_n, am_wsum_n, am_wsum_i, am_wsum_r, am_wsum_l, am_rs_s, am_rs_n, eq_self]
  exact H I2 L2 sg2 h2 R2
set_option maxHeartbeats 4000000 in
theorem lw_b25 (R : r_R I L sg h) (ht : t + 4 ≤ Lx) (hL : Lx ≤ 2048) (H : lw_hd Lx t Q) : Ex 159 731 [some (.ref 1), some (.ref 3), some (.ref 63), some (.int (nI t))] [] I L (am_PT h (19 - h)) (am_S1 Lx) Q := by
  have s1 : (am_S1 Lx).1 1 = (20, Lx) := rfl
  have s3 : (am_S1 Lx).1 3 = (7, 0) := rfl
  simp +decide (disch := omega) only [x159_731, x159_732, x159_733, x159_734, x159_735, x159_736, x159_737, x159_740, x159_741, x159_742, x159_743, x159_744, x159_745, x159_746, ↓reduceIte, true_and, and_true, if_true, if_false, ne_eq, not_false_eq_true, am_u_at, am_nb0, am_nb1, am_fb0, am_fb1, am_kc_i, am_kc_r, am_kc_l, am_kc_n, am_wsum_n, am_wsum_i, am_wsum_r, am_wsum_l, am_rs_s, am_rs_n, n_c0, n_c1, n_c2, n_c3, n_c4, n_c5, n_c6, n_c7, n_c8, n_c9, n_c10, n_c11, n_c12, n_c14, n_c16, n_c18, n_c20, n_c24, n_c30, n_c31, n_c32, n_c36, n_c48, n_c57, n_c60, n_c63, n_c70, n_c75, n_c97, n_c100, n_c101, n_c104, n_c115, n_c116, n_c59, n_c150, n_c199, n_c200, n_c201, n_c216, n_c255, n_c256, n_c999, n_c1296, n_c4095, n_c6480, n_c100000, n_c1000, n_c65536, n_cl, n_add, n_in, s1, s3, am_wsum_n]
  refine ⟨by omega, ?_⟩
  refine lw_two (op_count R) (by decide) (by decide) fun y I1 L1 P1 S1 e1 k1 k63 hE => ?_
  simp +decide (disch := omega) only [↓reduceIte, true_and, and_true, if_true, if_false, ne_eq, not_false_eq_true, am_u_at, am_nb0, am_nb1, am_fb0, am_fb1, am_kc_i, am_kc_r, am_kc_l, am_kc_n, am_wsum_n, am_wsum_i, am_wsum_r, am_wsum_l, am_rs_s, am_rs_n, n_c0, n_c1, n_c2, n_c3, n_c4, n_c5, n_c6, n_c7, n_c8, n_c9, n_c10, n_c11, n_c12, n_c14, n_c16, n_c18, n_c20, n_c24, n_c30, n_c31, n_c32, n_c36, n_c48, n_c57, n_c60, n_c63, n_c70, n_c75, n_c97, n_c100, n_c101, n_c104, n_c115, n_c116, n_c59, n_c150, n_c199, n_c200, n_c201, n_c216, n_c255, n_c256, n_c999, n_c1296, n_c4095, n_c6480, n_c100000, n_c1000, n_c65536, n_cl, n_add, n_in, e1, k1, k63]
  refine ⟨by omega, ?_⟩
  refine hE.mono fun v2 I2 L2 P2 S2 ⟨z1, z2, sg2, h2, R2, z3⟩ => ?_
  subst z1
  subst z2
  subst z3
  simp +decide (disch := omega) only [x159_749, x159_752, x159_753, ↓reduceIte, true_and, and_true, if_true, if_false, ne_eq, not_false_eq_true, am_u_at, am_nb0, am_nb1, am_fb0, am_fb1, am_kc_i, am_kc_r, am_kc_l, am_kc_n, am_wsum_n, am_wsum_i, am_wsum_r, am_wsum_l, am_rs_s, am_rs_n, eq_self]
  exact H I2 L2 sg2 h2 R2
set_option maxHeartbeats 4000000 in
theorem lw_b26 (R : r_R I L sg h) (H : lw_hd Lx t Q) : Ex 159 754 [some (.ref 1), some (.ref 3), some (.ref 63), some (.int (nI t))] [] I L (am_PT h (19 - h)) (am_S1 Lx) Q := by
  obtain ⟨rH, rN, rU, rK, rC, rT, rL, rW, rV⟩ := id R
  have c0 : ∀ j : Int64, lg_cmp j j = 0 := by
    intro j
    unfold lg_cmp
    simp
  simp +decide (disch := omega) only [x159_754, x159_755, x159_758, x159_759, x159_762, x159_763, x159_766, x159_767, xe95, x95_0, x95_1, x95_4, xe155, x155_0, x155_1, x155_4, ↓reduceIte, true_and, and_true, if_true, if_false, ne_eq, not_false_eq_true, am_u_at, am_nb0, am_nb1, am_fb0, am_fb1, am_kc_i, am_kc_r, am_kc_l, am_kc_n, am_wsum_n, am_wsum_i, am_wsum_r, am_wsum_l, am_rs_s, am_rs_n, am_S1_1, am_S1_2, am_S1_3, am_S1_4, am_S1_5, am_S1_6, am_S1_7, am_S1_8, am_S1_9, am_S1_10, am_S1_11, am_S1_12, am_S1_13, am_S1_14, am_S1_15, am_S1_16, am_S1_17, am_S1_18, am_S1_19, am_S1_20, am_S1_21, am_S1_22, am_S1_23, am_S1_24, am_S1_25, am_S1_26, am_S1_27, am_S1_28, am_S1_29, am_S1_30, am_S1_31, am_S1_32, am_S1_33, am_S1_34, am_S1_35, am_S1_36, am_S1_37, am_S1_38, am_S1_39, am_S1_40, am_S1_41, am_S1_42, am_S1_43, am_S1_44, am_S1_45, am_S1_46, am_S1_47, am_S1_48, am_S1_49, am_S1_50, am_S1_51, am_S1_52, am_S1_53, am_S1_54, am_S1_55, am_S1_56, am_S1_57, am_S1_58, am_S1_59, am_S1_60, am_S1_61, am_S1_62, am_S1_63, am_S1_64, am_S1_65, am_S1_66, am_S1_67, am_S1_68, am_S1_69, am_S1_70, am_S1_71, am_S1_72, am_S1_73, am_S1_74, am_S1_75, am_S1_76, am_S1_77, rL, c0]
  exact H I L sg h R
theorem lw_exit (Lx t : Nat) (h1 : t ≤ Lx) (h2 : Lx < t + 4) (hL : Lx ≤ 2048) : Int32.ofNat Lx - 4 < nI t := by
  have e : Int32.ofNat Lx = nI Lx := rfl
  by_cases h4 : 4 ≤ Lx
  · rw [e, n_c4, n_sub h4, n_lt (by omega) (by omega)]; omega
  · have all : ∀ a, a < 4 → ∀ b, b < 4 → Int32.ofNat a - 4 < nI b := by decide
    exact all Lx (by omega) t (by omega)
theorem lw_go (Lx t : Nat) (h2 : t + 4 ≤ Lx) (hL : Lx ≤ 2048) : ¬ Int32.ofNat Lx - 4 < nI t := by
  have e : Int32.ofNat Lx = nI Lx := rfl
  rw [e, n_c4, n_sub (by omega), n_lt (by omega) (by omega)]; omega
set_option maxHeartbeats 4000000 in
theorem lw_loop (hL : Lx ≤ 2048) (hQ : ∀ I L P, Q (some (.int 1)) I L P (am_S1 Lx)) : ∀ m t I L sg h, t ≤ Lx → Lx < t + 4 + m → r_R I L sg h → Ex 159 18 [some (.ref 1), some (.ref 3), some (.ref 63), some (.int (nI t))] [] I L (am_PT h (19 - h)) (am_S1 Lx) Q := by
  intro m
  have s1 : (am_S1 Lx).1 1 = (20, Lx) := rfl
  induction m with
  | zero =>
    intro t I L sg h h1 h2 R
    have hx := lw_exit Lx t h1 (by omega) hL
    simp +decide (disch := omega) only [x159_18, x159_19, x159_20, x159_21, x159_22, x159_23, x159_774, x159_775, ↓reduceIte, true_and, and_true, if_true, if_false, ne_eq, not_false_eq_true, am_u_at, am_nb0, am_nb1, am_fb0, am_fb1, am_kc_i, am_kc_r, am_kc_l, am_kc_n, am_wsum_n, am_wsum_i, am_wsum_r, am_wsum_l, am_rs_s, am_rs_n, s1, hx]
    exact hQ I L _
  | succ m ih =>
    intro t I L sg h h1 h2 R
    by_cases hx : Lx < t + 4
    · have hx := lw_exit Lx t h1 (by omega) hL
      simp +decide (disch := omega) only [x159_18, x159_19, x159_20, x159_21, x159_22, x159_23, x159_774, x159_775, ↓reduceIte, true_and, and_true, if_true, if_false, ne_eq, not_false_eq_true, am_u_at, am_nb0, am_nb1, am_fb0, am_fb1, am_kc_i, am_kc_r, am_kc_l, am_kc_n, am_wsum_n, am_wsum_i, am_wsum_r, am_wsum_l, am_rs_s, am_rs_n, s1, hx]
      exact hQ I L _
    · have hy := lw_go Lx t (by omega) hL
      have H : lw_hd Lx t Q := by
        intro I L sg h R
        rw [x159_768, x159_771, n_c4, n_add]
        exact ih (t + 4) I L sg h (by omega) (by omega) R
      simp +decide (disch := omega) only [x159_18, x159_19, x159_20, x159_21, x159_22, x159_23, x159_26, x159_27, x159_28, x159_29, x159_31, ↓reduceIte, true_and, and_true, if_true, if_false, ne_eq, not_false_eq_true, am_u_at, am_nb0, am_nb1, am_fb0, am_fb1, am_kc_i, am_kc_r, am_kc_l, am_kc_n, am_wsum_n, am_wsum_i, am_wsum_r, am_wsum_l, am_rs_s, am_rs_n, s1, hy, n_in, n_cl]
      refine ⟨by omega, ?_⟩
      generalize I 1 t &&& 31 = y
      rw [x159_32]
      by_cases q0 : y = 0
      · rw [if_pos q0]; exact lw_b0 R (by omega) hL H
      rw [if_neg q0]
      by_cases q1 : y = 1
      · rw [if_pos q1]; exact lw_b1 R (by omega) hL H
      rw [if_neg q1]
      by_cases q2 : y = 2
      · rw [if_pos q2]; exact lw_b2 R (by omega) hL H
      rw [if_neg q2]
      by_cases q3 : y = 3
      · rw [if_pos q3]; exact lw_b3 R (by omega) hL H
      rw [if_neg q3]
      by_cases q4 : y = 4
      · rw [if_pos q4]; exact lw_b4 R (by omega) hL H
      rw [if_neg q4]
      by_cases q5 : y = 5
      · rw [if_pos q5]; exact lw_b5 R (by omega) hL H
      rw [if_neg q5]
      by_cases q6 : y = 6
      · rw [if_pos q6]; exact lw_b6 R (by omega) hL H
      rw [if_neg q6]
      by_cases q7 : y = 7
      · rw [if_pos q7]; exact lw_b7 R (by omega) hL H
      rw [if_neg q7]
      by_cases q8 : y = 8
      · rw [if_pos q8]; exact lw_b8 R (by omega) hL H
      rw [if_neg q8]
      by_cases q9 : y = 9
      · rw [if_pos q9]; exact lw_b9 R (by omega) hL H
      rw [if_neg q9]
      by_cases q10 : y = 10
      · rw [if_pos q10]; exact lw_b10 R (by omega) hL H
      rw [if_neg q10]
      by_cases q11 : y = 11
      · rw [if_pos q11]; exact lw_b11 R (by omega) hL H
      rw [if_neg q11]
      by_cases q12 : y = 12
      · rw [if_pos q12]; exact lw_b12 R (by omega) hL H
      rw [if_neg q12]
      by_cases q13 : y = 13
      · rw [if_pos q13]; exact lw_b13 R (by omega) hL H
      rw [if_neg q13]
      by_cases q14 : y = 14
      · rw [if_pos q14]; exact lw_b14 R (by omega) hL H
      rw [if_neg q14]
      by_cases q15 : y = 15
      · rw [if_pos q15]; exact lw_b15 R (by omega) hL H
      rw [if_neg q15]
      by_cases q16 : y = 16
      · rw [if_pos q16]; exact lw_b16 R (by omega) hL H
      rw [if_neg q16]
      by_cases q17 : y = 17
      · rw [if_pos q17]; exact lw_b17 R (by omega) hL H
      rw [if_neg q17]
      by_cases q18 : y = 18
      · rw [if_pos q18]; exact lw_b18 R (by omega) hL H
      rw [if_neg q18]
      by_cases q19 : y = 19
      · rw [if_pos q19]; exact lw_b19 R (by omega) hL H
      rw [if_neg q19]
      by_cases q20 : y = 20
      · rw [if_pos q20]; exact lw_b20 R (by omega) hL H
      rw [if_neg q20]
      by_cases q21 : y = 21
      · rw [if_pos q21]; exact lw_b21 R (by omega) hL H
      rw [if_neg q21]
      by_cases q22 : y = 22
      · rw [if_pos q22]; exact lw_b22 R (by omega) hL H
      rw [if_neg q22]
      by_cases q23 : y = 23
      · rw [if_pos q23]; exact lw_b23 R (by omega) hL H
      rw [if_neg q23]
      by_cases q24 : y = 24
      · rw [if_pos q24]; exact lw_b24 R (by omega) hL H
      rw [if_neg q24]
      by_cases q25 : y = 25
      · rw [if_pos q25]; exact lw_b25 R (by omega) hL H
      rw [if_neg q25]
      by_cases q26 : y = 26
      · rw [if_pos q26]; exact lw_b26 R H
      rw [if_neg q26]
      exact H I L sg h R
end LW
