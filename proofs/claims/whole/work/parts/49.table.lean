/-! the class's table: five numbers of twelve bits in a long -/
def wt_pk (v : Nat → Nat) : Nat := v 0 + 4096 * v 1 + 16777216 * v 2 + 68719476736 * v 3 + 281474976710656 * v 4
def wt_up (F : Nat → Nat → Nat) (s n v : Nat) : Nat → Nat → Nat := fun s' n' => if s' = s ∧ n' = n then v else F s' n'
def wt_tb (L : am_L) (F : Nat → Nat → Nat) : Prop := ∀ s, s < 6480 → (∀ n, n < 5 → F s n < 4096) ∧ L 52 s = lN (wt_pk (F s))
theorem wt_and12 (y : Nat) : y &&& 4095 = y % 4096 := Nat.and_two_pow_sub_one_eq_mod y 12
theorem wt_get {v : Nat → Nat} (h : ∀ n, n < 5 → v n < 4096) : ∀ n, n < 5 → wt_pk v / 2 ^ (n * 12) % 4096 = v n := by
  intro n hn
  have h0 := h 0 (by omega)
  have h1 := h 1 (by omega)
  have h2 := h 2 (by omega)
  have h3 := h 3 (by omega)
  have h4 := h 4 (by omega)
  unfold wt_pk
  match n, hn with
  | 0, _ => show (_ / 1) % 4096 = v 0; omega
  | 1, _ => show (_ / 4096) % 4096 = v 1; omega
  | 2, _ => show (_ / 16777216) % 4096 = v 2; omega
  | 3, _ => show (_ / 68719476736) % 4096 = v 3; omega
  | 4, _ => show (_ / 281474976710656) % 4096 = v 4; omega
  | n + 5, hn => exact absurd hn (by omega)
theorem wt_pk_lt {v : Nat → Nat} (h : ∀ n, n < 5 → v n < 4096) : wt_pk v < 1152921504606846976 := by
  have h0 := h 0 (by omega)
  have h1 := h 1 (by omega)
  have h2 := h 2 (by omega)
  have h3 := h 3 (by omega)
  have h4 := h 4 (by omega)
  unfold wt_pk; omega
/-- twelve bits put anew -/
theorem wt_set {lo mid hi m K : Nat} (hlo : lo < 2 ^ K) (hmid : mid < 4096) (hm : m < 4096) (hK : K < 64) : (lN (2 ^ K * (2 ^ 12 * hi + mid) + lo) &&& (lN (4095 * 2 ^ K) ^^^ (-1))) ||| lN (m * 2 ^ K) = lN (2 ^ K * (2 ^ 12 * hi + m) + lo) := by
  apply Int64.toBitVec_inj.mp
  show (BitVec.ofNat 64 (2 ^ K * (2 ^ 12 * hi + mid) + lo) &&& (BitVec.ofNat 64 (4095 * 2 ^ K) ^^^ (-1 : Int64).toBitVec)) ||| BitVec.ofNat 64 (m * 2 ^ K) = BitVec.ofNat 64 (2 ^ K * (2 ^ 12 * hi + m) + lo)
  have e1 : (-1 : Int64).toBitVec = BitVec.allOnes 64 := by decide
  rw [e1]
  apply BitVec.eq_of_getLsbD_eq
  intro i hi64
  have z0 : (0 : Nat) < 2 ^ K := Nat.two_pow_pos K
  have a1 := Nat.testBit_two_pow_mul_add (2 ^ 12 * hi + mid) hlo i
  have a2 := Nat.testBit_two_pow_mul_add (2 ^ 12 * hi + m) hlo i
  have a3 := Nat.testBit_two_pow_mul_add 4095 z0 i
  have a4 := Nat.testBit_two_pow_mul_add m z0 i
  rw [Nat.add_zero, Nat.mul_comm] at a3 a4
  have b1 := Nat.testBit_two_pow_mul_add hi (show mid < 2 ^ 12 by omega) (i - K)
  have b2 := Nat.testBit_two_pow_mul_add hi (show m < 2 ^ 12 by omega) (i - K)
  have b3 : (4095 : Nat).testBit (i - K) = decide (i - K < 12) := Nat.testBit_two_pow_sub_one 12 (i - K)
  simp only [BitVec.getLsbD_or, BitVec.getLsbD_and, BitVec.getLsbD_xor, BitVec.getLsbD_ofNat, BitVec.getLsbD_allOnes, hi64, decide_true, Bool.true_and, a1, a2, a3, a4, b1, b2, b3, Nat.zero_testBit]
  by_cases h1 : i < K
  · simp [h1]
  · by_cases h2 : i - K < 12
    · simp [h1, h2]
    · have c : m.testBit (i - K) = false := Nat.testBit_lt_two_pow (Nat.lt_of_lt_of_le (show m < 2 ^ 12 by omega) (Nat.pow_le_pow_right (by omega) (by omega)))
      simp [h1, h2, c]
theorem wt_put {v : Nat → Nat} (h : ∀ n, n < 5 → v n < 4096) {n m : Nat} (hn : n < 5) (hm : m < 4096) : (lN (wt_pk v) &&& (lN (4095 * 2 ^ (n * 12)) ^^^ (-1))) ||| lN (m * 2 ^ (n * 12)) = lN (wt_pk (fun k => if k = n then m else v k)) := by
  have h0 := h 0 (by omega)
  have h1 := h 1 (by omega)
  have h2 := h 2 (by omega)
  have h3 := h 3 (by omega)
  have h4 := h 4 (by omega)
  match n, hn with
  | 0, _ =>
    have q := wt_set (lo := 0) (mid := v 0) (hi := v 1 + 4096 * v 2 + 16777216 * v 3 + 68719476736 * v 4) (m := m) (K := 0) (by decide) h0 hm (by omega)
    have e1 : wt_pk v = 2 ^ 0 * (2 ^ 12 * (v 1 + 4096 * v 2 + 16777216 * v 3 + 68719476736 * v 4) + v 0) + 0 := by unfold wt_pk; omega
    have e2 : wt_pk (fun k => if k = 0 then m else v k) = 2 ^ 0 * (2 ^ 12 * (v 1 + 4096 * v 2 + 16777216 * v 3 + 68719476736 * v 4) + m) + 0 := by unfold wt_pk; simp +decide only [if_true, if_false]; omega
    rw [e1, e2]; exact q
  | 1, _ =>
    have q := wt_set (lo := v 0) (mid := v 1) (hi := v 2 + 4096 * v 3 + 16777216 * v 4) (m := m) (K := 12) (by omega) h1 hm (by omega)
    have e1 : wt_pk v = 2 ^ 12 * (2 ^ 12 * (v 2 + 4096 * v 3 + 16777216 * v 4) + v 1) + v 0 := by unfold wt_pk; omega
    have e2 : wt_pk (fun k => if k = 1 then m else v k) = 2 ^ 12 * (2 ^ 12 * (v 2 + 4096 * v 3 + 16777216 * v 4) + m) + v 0 := by unfold wt_pk; simp +decide only [if_true, if_false]; omega
    rw [e1, e2]; exact q
  | 2, _ =>
    have q := wt_set (lo := v 0 + 4096 * v 1) (mid := v 2) (hi := v 3 + 4096 * v 4) (m := m) (K := 24) (by omega) h2 hm (by omega)
    have e1 : wt_pk v = 2 ^ 24 * (2 ^ 12 * (v 3 + 4096 * v 4) + v 2) + (v 0 + 4096 * v 1) := by unfold wt_pk; omega
    have e2 : wt_pk (fun k => if k = 2 then m else v k) = 2 ^ 24 * (2 ^ 12 * (v 3 + 4096 * v 4) + m) + (v 0 + 4096 * v 1) := by unfold wt_pk; simp +decide only [if_true, if_false]; omega
    rw [e1, e2]; exact q
  | 3, _ =>
    have q := wt_set (lo := v 0 + 4096 * v 1 + 16777216 * v 2) (mid := v 3) (hi := v 4) (m := m) (K := 36) (by omega) h3 hm (by omega)
    have e1 : wt_pk v = 2 ^ 36 * (2 ^ 12 * v 4 + v 3) + (v 0 + 4096 * v 1 + 16777216 * v 2) := by unfold wt_pk; omega
    have e2 : wt_pk (fun k => if k = 3 then m else v k) = 2 ^ 36 * (2 ^ 12 * v 4 + m) + (v 0 + 4096 * v 1 + 16777216 * v 2) := by unfold wt_pk; simp +decide only [if_true, if_false]; omega
    rw [e1, e2]; exact q
  | 4, _ =>
    have q := wt_set (lo := v 0 + 4096 * v 1 + 16777216 * v 2 + 68719476736 * v 3) (mid := v 4) (hi := 0) (m := m) (K := 48) (by omega) h4 hm (by omega)
    have e1 : wt_pk v = 2 ^ 48 * (2 ^ 12 * 0 + v 4) + (v 0 + 4096 * v 1 + 16777216 * v 2 + 68719476736 * v 3) := by unfold wt_pk; omega
    have e2 : wt_pk (fun k => if k = 4 then m else v k) = 2 ^ 48 * (2 ^ 12 * 0 + m) + (v 0 + 4096 * v 1 + 16777216 * v 2 + 68719476736 * v 3) := by unfold wt_pk; simp +decide only [if_true, if_false]; omega
    rw [e1, e2]; exact q
  | n + 5, hn => exact absurd hn (by omega)
section TB
variable {I : am_I} {L : am_L} {Q : Option Value → am_I → am_L → am_P → am_S → Prop} {h s n Lx : Nat} {F : Nat → Nat → Nat}
theorem s48 {x : Nat} (hF : wt_tb L F) (hx : x < 6480) (hn : n < 5) : Ev 48 [.ref 51, .int (nI x), .int (nI n)] I L (am_PT h s) (am_S1 Lx) Q ↔ Q (some (.int (nI (F x n)))) I L (am_PT h s) (am_S1 Lx) := by
  obtain ⟨f1, f2⟩ := hF x hx
  have e := wt_get f1 n hn
  have b := wt_pk_lt f1
  have c : ¬ x < 0 := by omega
  have d : ((lN (wt_pk (F x))).toUInt64 >>> ((nI (n * 12)).toInt64.toUInt64 &&& Int64.toUInt64 63)).toInt64 = lN (wt_pk (F x) / 2 ^ (n * 12)) := l_shr (by omega) (by omega)
  simp +decide (disch := omega) only [xe48, x48_0, x48_1, x48_4, x48_5, x48_8, x48_11, x48_14, x48_15, x48_16, x48_19, x48_20, x48_21, x48_22, x48_24, x48_25, x48_26, x48_27, x48_30, x48_31, ↓reduceIte, true_and, and_true, if_true, if_false, ne_eq, not_false_eq_true, am_u_at, am_nb0, am_nb1, am_fb0, am_fb1, am_kc_i, am_kc_r, am_kc_l, am_kc_n, am_wsum_n, am_wsum_i, am_wsum_r, am_wsum_l, am_rs_s, am_rs_n, am_S1_1, am_S1_2, am_S1_3, am_S1_4, am_S1_5, am_S1_6, am_S1_7, am_S1_8, am_S1_9, am_S1_10, am_S1_11, am_S1_12, am_S1_13, am_S1_14, am_S1_15, am_S1_16, am_S1_17, am_S1_18, am_S1_19, am_S1_20, am_S1_21, am_S1_22, am_S1_23, am_S1_24, am_S1_25, am_S1_26, am_S1_27, am_S1_28, am_S1_29, am_S1_30, am_S1_31, am_S1_32, am_S1_33, am_S1_34, am_S1_35, am_S1_36, am_S1_37, am_S1_38, am_S1_39, am_S1_40, am_S1_41, am_S1_42, am_S1_43, am_S1_44, am_S1_45, am_S1_46, am_S1_47, am_S1_48, am_S1_49, am_S1_50, am_S1_51, am_S1_52, am_S1_53, am_S1_54, am_S1_55, am_S1_56, am_S1_57, am_S1_58, am_S1_59, am_S1_60, am_S1_61, am_S1_62, am_S1_63, am_S1_64, am_S1_65, am_S1_66, am_S1_67, am_S1_68, am_S1_69, am_S1_70, am_S1_71, am_S1_72, am_S1_73, am_S1_74, am_S1_75, am_S1_76, am_S1_77, am_PT_3_1, am_PT_3_2, am_PT_3_0, am_PT_3_3, am_PT_3_4, am_PT_3_5, am_PT_3_6, am_PT_3_7, am_PT_3_8, am_PT_3_9, am_PT_3_10, am_PT_4_0, am_PT_6_6, am_PT_6_7, am_PT_6_8, am_PT_6_9, am_PT_6_10, am_PT_6_11, am_PT_13_6, am_PT_13_7, am_PT_13_8, am_PT_13_9, am_PT_13_10, am_PT_13_11, am_PT_20_3, am_PT_22_0, am_PT_23_0, am_PT_23_1, am_PT_23_2, am_PT_23_3, am_PT_23_4, am_PT_23_5, am_PT_23_6, am_PT_23_7, am_PT_23_8, am_PT_23_9, am_PT_24_3, am_PT_26_3, am_PT_28_3, am_PT_30_3, am_PT_32_3, am_PT_34_3, am_PT_36_3, am_PT_38_3, am_PT_40_3, am_PT_42_3, am_PT_44_0, am_PT_44_1, am_PT_46_2, am_PT_46_3, am_PT_46_4, am_PT_46_5, am_PT_51_0, am_PT_51_1, am_PT_51_2, am_PT_51_3, am_PT_51_4, am_PT_59_3, am_PT_61_3, am_PT_63_1, am_PT_63_3, am_PT_63_6, am_PT_63_7, am_PT_63_9, am_PT_63_10, am_PT_63_12, am_PT_63_14, am_PT_63_16, am_PT_63_25, am_PT_63_27, am_PT_63_30, am_PT_63_36, am_PT_63_37, n_c0, n_c1, n_c2, n_c3, n_c4, n_c5, n_c6, n_c7, n_c8, n_c9, n_c10, n_c11, n_c12, n_c14, n_c16, n_c18, n_c20, n_c24, n_c30, n_c31, n_c32, n_c36, n_c48, n_c57, n_c60, n_c63, n_c70, n_c75, n_c97, n_c100, n_c101, n_c104, n_c115, n_c116, n_c59, n_c150, n_c199, n_c200, n_c201, n_c216, n_c255, n_c256, n_c999, n_c1296, n_c4095, n_c6480, n_c100000, n_c1000, n_c65536, n_le, n_lt0, n_lt, n_eq, n_cl, n_add, n_sub, n_mul, n_div, n_rem, n_mo, n_in, n_nb0, n_nb1, n_fb0, n_fb1, n_vb0, n_vb1, c, hx, f2, d, lN_i, n_and, wt_and12, e]
theorem s49 {x m : Nat} (hF : wt_tb L F) (hx : x < 6480) (hn : n < 5) (hm : m < 4096) : Ev 49 [.ref 51, .int (nI x), .int (nI n), .int (nI m)] I L (am_PT h s) (am_S1 Lx) Q ↔ Q none I (am_u L 52 x (lN (wt_pk (fun k => if k = n then m else F x k)))) (am_PT h s) (am_S1 Lx) := by
  obtain ⟨f1, f2⟩ := hF x hx
  have e := wt_put f1 hn hm
  have c : (4095 : Int64) = lN 4095 := rfl
  have d : ∀ y : Nat, lN y <<< ((nI (n * 12)).toInt64 &&& 63) = lN (y * 2 ^ (n * 12)) := fun y => l_shl (by omega)
  have g : (nI m).toInt64 = lN m := nI_l (by omega)
  simp +decide (disch := omega) only [xe49, x49_0, x49_1, x49_4, x49_5, x49_6, x49_9, x49_10, x49_11, x49_14, x49_15, x49_17, x49_18, x49_19, x49_22, x49_23, x49_24, x49_25, x49_26, x49_27, x49_29, x49_30, x49_31, x49_32, x49_33, ↓reduceIte, true_and, and_true, am_rs_n, am_S1_1, am_S1_2, am_S1_3, am_S1_4, am_S1_5, am_S1_6, am_S1_7, am_S1_8, am_S1_9, am_S1_10, am_S1_11, am_S1_12, am_S1_13, am_S1_14, am_S1_15, am_S1_16, am_S1_17, am_S1_18, am_S1_19, am_S1_20, am_S1_21, am_S1_22, am_S1_23, am_S1_24, am_S1_25, am_S1_26, am_S1_27, am_S1_28, am_S1_29, am_S1_30, am_S1_31, am_S1_32, am_S1_33, am_S1_34, am_S1_35, am_S1_36, am_S1_37, am_S1_38, am_S1_39, am_S1_40, am_S1_41, am_S1_42, am_S1_43, am_S1_44, am_S1_45, am_S1_46, am_S1_47, am_S1_48, am_S1_49, am_S1_50, am_S1_51, am_S1_52, am_S1_53, am_S1_54, am_S1_55, am_S1_56, am_S1_57, am_S1_58, am_S1_59, am_S1_60, am_S1_61, am_S1_62, am_S1_63, am_S1_64, am_S1_65, am_S1_66, am_S1_67, am_S1_68, am_S1_69, am_S1_70, am_S1_71, am_S1_72, am_S1_73, am_S1_74, am_S1_75, am_S1_76, am_S1_77, am_PT_3_1, am_PT_3_2, am_PT_3_0, am_PT_3_3, am_PT_3_4, am_PT_3_5, am_PT_3_6, am_PT_3_7, am_PT_3_8, am_PT_3_9, am_PT_3_10, am_PT_4_0, am_PT_6_6, am_PT_6_7, am_PT_6_8, am_PT_6_9, am_PT_6_10, am_PT_6_11, am_PT_13_6, am_PT_13_7, am_PT_13_8, am_PT_13_9, am_PT_13_10, am_PT_13_11, am_PT_20_3, am_PT_22_0, am_PT_23_0, am_PT_23_1, am_PT_23_2, am_PT_23_3, am_PT_23_4, am_PT_23_5, am_PT_23_6, am_PT_23_7, am_PT_23_8, am_PT_23_9, am_PT_24_3, am_PT_26_3, am_PT_28_3, am_PT_30_3, am_PT_32_3, am_PT_34_3, am_PT_36_3, am_PT_38_3, am_PT_40_3, am_PT_42_3, am_PT_44_0, am_PT_44_1, am_PT_46_2, am_PT_46_3, am_PT_46_4, am_PT_46_5, am_PT_51_0, am_PT_51_1, am_PT_51_2, am_PT_51_3, am_PT_51_4, am_PT_59_3, am_PT_61_3, am_PT_63_1, am_PT_63_3, am_PT_63_6, am_PT_63_7, am_PT_63_9, am_PT_63_10, am_PT_63_12, am_PT_63_14, am_PT_63_16, am_PT_63_25, am_PT_63_27, am_PT_63_30, am_PT_63_36, am_PT_63_37, n_c12, n_in, n_cl, n_mul, hx, f2, c, g, d, e]
theorem wt_tb_up {x m : Nat} (hF : wt_tb L F) (hn : n < 5) (hm : m < 4096) : wt_tb (am_u L 52 x (lN (wt_pk (fun k => if k = n then m else F x k)))) (wt_up F x n m) := by
  intro y hy
  obtain ⟨f1, f2⟩ := hF y hy
  refine ⟨fun k hk => ?_, ?_⟩
  · unfold wt_up
    split
    · exact hm
    · exact f1 k hk
  · rw [am_u_at, if_pos rfl]
    by_cases q : y = x
    · subst q
      rw [if_pos rfl]
      refine congrArg (fun z => lN (wt_pk z)) ?_
      funext k
      show _ = (if y = y ∧ k = n then m else F y k)
      simp only [true_and]
    · rw [if_neg q, f2]
      refine congrArg (fun z => lN (wt_pk z)) ?_
      funext k
      show F y k = (if y = x ∧ k = n then m else F y k)
      rw [if_neg (fun z => q z.1)]
end TB
