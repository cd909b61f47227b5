/-! numbers: every int that a run meets is nI of a plain number, or compared as it is -/
theorem n_le {a b : Nat} (ha : a < 2147483648) (hb : b < 2147483648) : (nI a ≤ nI b) = (a ≤ b) := propext (nI_leI (by omega) (by omega))
theorem n_lt {a b : Nat} (ha : a < 2147483648) (hb : b < 2147483648) : (nI a < nI b) = (a < b) := propext (nI_ltI (by omega) (by omega))
theorem n_eq {a b : Nat} (ha : a < 2147483648) (hb : b < 2147483648) : (nI a = nI b) = (a = b) := propext (nI_eq (by omega) (by omega))
theorem n_cl {a : Nat} (ha : a < 2147483648) : (nI a).toNatClampNeg = a := nI_clamp (by omega)
theorem n_add (a b : Nat) : nI a + nI b = nI (a + b) := nI_add a b
theorem n_sub {a b : Nat} (h : b ≤ a) : nI a - nI b = nI (a - b) := pk_sub h
theorem n_mul (a b : Nat) : nI a * nI b = nI (a * b) := pk_mul a b
theorem n_div {a d : Nat} (ha : a < 2147483648) (h0 : 0 < d) (hd : d < 2147483648) : nI a / nI d = nI (a / d) := pk_div (by omega) h0 (by omega)
theorem n_rem {a d : Nat} (ha : a < 2147483648) (h0 : 0 < d) (hd : d < 2147483648) : nI a - nI (a / d * d) = nI (a % d) := by
  have := pk_rem (a := a) (d := d) (by omega) h0 (by omega)
  rw [n_div ha h0 hd, n_mul] at this
  exact this
theorem n_mo (a d : Nat) : a - a / d * d = a % d := by have := Nat.div_add_mod a d; rw [Nat.mul_comm] at this; omega
theorem n_in {a n : Nat} (ha : a < 2147483648) : am_in (nI a) n = (a < n) := by
  apply propext
  unfold am_in
  rw [n_cl ha]
  constructor
  · intro h; exact Nat.lt_of_not_le fun q => h (Or.inr q)
  · intro h q
    rcases q with q | q
    · exact nI_pos (by omega) q
    · omega
theorem n_lt0 {a : Nat} (ha : a < 2147483648) : (nI a < nI 0) = False := eq_false (by rw [nI_0]; exact nI_pos (by omega))
theorem n_nb0 : narrow .boolean (.int (nI 0)) = .int (nI 0) := by decide
theorem n_nb1 : narrow .boolean (.int (nI 1)) = .int (nI 1) := by decide
theorem n_fb0 : am_fit .boolean (nI 0) = True := eq_true (by decide)
theorem n_fb1 : am_fit .boolean (nI 1) = True := eq_true (by decide)
theorem n_vb0 : vp_nar .boolean (nI 0) = nI 0 := by decide
theorem n_vb1 : vp_nar .boolean (nI 1) = nI 1 := by decide
theorem n_c0 : (0 : Int32) = nI 0 := rfl
theorem n_c1 : (1 : Int32) = nI 1 := rfl
theorem n_c2 : (2 : Int32) = nI 2 := rfl
theorem n_c3 : (3 : Int32) = nI 3 := rfl
theorem n_c4 : (4 : Int32) = nI 4 := rfl
theorem n_c5 : (5 : Int32) = nI 5 := rfl
theorem n_c6 : (6 : Int32) = nI 6 := rfl
theorem n_c7 : (7 : Int32) = nI 7 := rfl
theorem n_c8 : (8 : Int32) = nI 8 := rfl
theorem n_c9 : (9 : Int32) = nI 9 := rfl
theorem n_c10 : (10 : Int32) = nI 10 := rfl
theorem n_c11 : (11 : Int32) = nI 11 := rfl
theorem n_c12 : (12 : Int32) = nI 12 := rfl
theorem n_c14 : (14 : Int32) = nI 14 := rfl
theorem n_c16 : (16 : Int32) = nI 16 := rfl
theorem n_c18 : (18 : Int32) = nI 18 := rfl
theorem n_c20 : (20 : Int32) = nI 20 := rfl
theorem n_c24 : (24 : Int32) = nI 24 := rfl
theorem n_c30 : (30 : Int32) = nI 30 := rfl
theorem n_c31 : (31 : Int32) = nI 31 := rfl
theorem n_c32 : (32 : Int32) = nI 32 := rfl
theorem n_c36 : (36 : Int32) = nI 36 := rfl
theorem n_c48 : (48 : Int32) = nI 48 := rfl
theorem n_c57 : (57 : Int32) = nI 57 := rfl
theorem n_c60 : (60 : Int32) = nI 60 := rfl
theorem n_c63 : (63 : Int32) = nI 63 := rfl
theorem n_c70 : (70 : Int32) = nI 70 := rfl
theorem n_c75 : (75 : Int32) = nI 75 := rfl
theorem n_c97 : (97 : Int32) = nI 97 := rfl
theorem n_c100 : (100 : Int32) = nI 100 := rfl
theorem n_c101 : (101 : Int32) = nI 101 := rfl
theorem n_c104 : (104 : Int32) = nI 104 := rfl
theorem n_c115 : (115 : Int32) = nI 115 := rfl
theorem n_c116 : (116 : Int32) = nI 116 := rfl
theorem n_c59 : (59 : Int32) = nI 59 := rfl
theorem n_c150 : (150 : Int32) = nI 150 := rfl
theorem n_c199 : (199 : Int32) = nI 199 := rfl
theorem n_c200 : (200 : Int32) = nI 200 := rfl
theorem n_c201 : (201 : Int32) = nI 201 := rfl
theorem n_c216 : (216 : Int32) = nI 216 := rfl
theorem n_c255 : (255 : Int32) = nI 255 := rfl
theorem n_c256 : (256 : Int32) = nI 256 := rfl
theorem n_c999 : (999 : Int32) = nI 999 := rfl
theorem n_c1296 : (1296 : Int32) = nI 1296 := rfl
theorem n_c4095 : (4095 : Int32) = nI 4095 := rfl
theorem n_c6480 : (6480 : Int32) = nI 6480 := rfl
theorem n_c100000 : (100000 : Int32) = nI 100000 := rfl
theorem n_c1000 : (1000 : Int32) = nI 1000 := rfl
theorem n_c65536 : (65536 : Int32) = nI 65536 := rfl
theorem am_cpy_at {α : Type} (f g : Nat → α) (sp dp n j : Nat) : va_cpy f g sp dp n j = if dp ≤ j ∧ j < dp + n then f (sp + (j - dp)) else g j := rfl
section LO
variable {I : am_I} {L : am_L} {P : am_P} {S : am_S} {Q : Option Value → am_I → am_L → am_P → am_S → Prop} {h s n Lx : Nat}
/-- the model's copy of seven numbers -/
theorem l103 {a b na nb at' fr : Nat} (ha : S.1 a = (20, na)) (hb : S.1 b = (20, nb)) (h3 : 3 ≤ a) (h1 : at' + 7 ≤ na) (h2 : fr + 7 ≤ nb) (hna : na < 100000) (hnb : nb < 100000) (hab : a ≠ b) : ∀ (m k : Nat) (I : am_I), k + m = 7 →
    (Ex 103 3 [some (.ref a), some (.int (nI at')), some (.ref b), some (.int (nI fr)), some (.int (nI k))] [] I L P S Q ↔ Q none (am_row I a (fun j => if at' + k ≤ j ∧ j < at' + 7 then I b (fr + (j - at')) else I a j)) L P S) := by
  intro m
  induction m with
  | zero =>
    intro k I hk
    have e : am_row I a (fun j => if at' + k ≤ j ∧ j < at' + 7 then I b (fr + (j - at')) else I a j) = I := by
      funext c j
      rw [am_row_at]
      by_cases hc : c = a
      · rw [if_pos hc, if_neg (by omega), hc]
      · rw [if_neg hc]
    obtain rfl : k = 7 := by omega
    rw [e]
    simp +decide (disch := omega) only [x103_3, x103_5, x103_7, x103_10, x103_11, x103_12, x103_14, x103_15, x103_16, x103_17, x103_19, x103_20, x103_21, x103_22, x103_25, x103_28, ↓reduceIte, true_and, and_true, if_true, if_false, ne_eq, not_false_eq_true, am_u_at, am_nb0, am_nb1, am_fb0, am_fb1, am_kc_i, am_kc_r, am_kc_l, am_kc_n, am_wsum_n, am_wsum_i, am_wsum_r, am_wsum_l, am_rs_s, am_rs_n, n_c0, n_c1, n_c2, n_c3, n_c4, n_c5, n_c6, n_c7, n_c8, n_c9, n_c10, n_c11, n_c12, n_c14, n_c16, n_c18, n_c20, n_c24, n_c30, n_c31, n_c32, n_c36, n_c48, n_c57, n_c60, n_c63, n_c70, n_c75, n_c97, n_c100, n_c101, n_c104, n_c115, n_c116, n_c59, n_c150, n_c199, n_c200, n_c201, n_c216, n_c255, n_c256, n_c999, n_c1296, n_c4095, n_c6480, n_c100000, n_c1000, n_c65536, n_le, n_lt0, n_lt, n_eq, n_cl, n_add, n_sub, n_mul, n_div, n_rem, n_mo, n_in, n_nb0, n_nb1, n_fb0, n_fb1, n_vb0, n_vb1]
  | succ m ih =>
    intro k I hk
    have h7 : ¬ 7 ≤ k := by omega
    simp (disch := omega) only [x103_3, x103_5, x103_7, x103_10, x103_11, x103_12, x103_14, x103_15, x103_16, x103_17, x103_19, x103_20, x103_21, x103_22, x103_25, x103_28, ↓reduceIte, true_and, and_true, if_true, if_false, ne_eq, not_false_eq_true, am_u_at, am_nb0, am_nb1, am_fb0, am_fb1, am_kc_i, am_kc_r, am_kc_l, am_kc_n, am_wsum_n, am_wsum_i, am_wsum_r, am_wsum_l, am_rs_s, am_rs_n, n_c0, n_c1, n_c2, n_c3, n_c4, n_c5, n_c6, n_c7, n_c8, n_c9, n_c10, n_c11, n_c12, n_c14, n_c16, n_c18, n_c20, n_c24, n_c30, n_c31, n_c32, n_c36, n_c48, n_c57, n_c60, n_c63, n_c70, n_c75, n_c97, n_c100, n_c101, n_c104, n_c115, n_c116, n_c59, n_c150, n_c199, n_c200, n_c201, n_c216, n_c255, n_c256, n_c999, n_c1296, n_c4095, n_c6480, n_c100000, n_c1000, n_c65536, n_le, n_lt0, n_lt, n_eq, n_cl, n_add, n_sub, n_mul, n_div, n_rem, n_mo, n_in, n_nb0, n_nb1, n_fb0, n_fb1, n_vb0, n_vb1, ha, hb, h7, h3, ih]
    rw [and_iff_right (by omega), and_iff_right (by omega)]
    refine iff_of_eq (congrArg (fun X => Q none X L P S) ?_)
    funext c j
    simp only [am_row_at, am_u_at]
    (repeat' split) <;> first | rfl | omega | (subst_vars; first | rfl | omega | (congr 1; omega)) | (congr 1; omega) | (exfalso; omega)
theorem s103 {a b na nb at' fr : Nat} (ha : S.1 a = (20, na)) (hb : S.1 b = (20, nb)) (h3 : 3 ≤ a) (h1 : at' + 7 ≤ na) (h2 : fr + 7 ≤ nb) (hna : na < 100000) (hnb : nb < 100000) (hab : a ≠ b) :
    Ev 103 [.ref a, .int (nI at'), .ref b, .int (nI fr)] I L P S Q ↔ Q none (am_row I a (fun j => if at' ≤ j ∧ j < at' + 7 then I b (fr + (j - at')) else I a j)) L P S := by
  simp only [xe103, x103_0, x103_1, ↓reduceIte, true_and, and_true, if_true, if_false, ne_eq, not_false_eq_true, am_u_at, am_nb0, am_nb1, am_fb0, am_fb1, am_kc_i, am_kc_r, am_kc_l, am_kc_n, am_wsum_n, am_wsum_i, am_wsum_r, am_wsum_l, am_rs_s, am_rs_n, n_c0, n_c1, n_c2, n_c3, n_c4, n_c5, n_c6, n_c7, n_c8, n_c9, n_c10, n_c11, n_c12, n_c14, n_c16, n_c18, n_c20, n_c24, n_c30, n_c31, n_c32, n_c36, n_c48, n_c57, n_c60, n_c63, n_c70, n_c75, n_c97, n_c100, n_c101, n_c104, n_c115, n_c116, n_c59, n_c150, n_c199, n_c200, n_c201, n_c216, n_c255, n_c256, n_c999, n_c1296, n_c4095, n_c6480, n_c100000, n_c1000, n_c65536, n_le, n_lt0, n_lt, n_eq, n_cl, n_add, n_sub, n_mul, n_div, n_rem, n_mo, n_in, n_nb0, n_nb1, n_fb0, n_fb1, n_vb0, n_vb1]
  rw [l103 ha hb h3 h1 h2 hna hnb hab 7 0 I rfl]
  rfl
end LO
