/-! sets as bits -/
theorem n_s31 : ∀ n, n < 32 → ((nI n &&& nI 31).toBitVec.smod 32).toNat = n := by decide
theorem n_shl {n k : Nat} (hk : k < 32) (h : n * 2 ^ k < 4294967296) : nI n <<< (nI k &&& nI 31) = nI (n * 2 ^ k) := pk_shlN (nI k &&& nI 31) k (n_s31 k hk) h
theorem n_shr {n k : Nat} (h : n < 2147483648) (hk : k < 32) : nI n >>> (nI k &&& nI 31) = nI (n / 2 ^ k) := pk_shrN h (nI k &&& nI 31) k (n_s31 k hk)
theorem n_or (a b : Nat) : nI a ||| nI b = nI (a ||| b) := by
  apply Int32.toBitVec_inj.mp
  show BitVec.ofNat 32 a ||| BitVec.ofNat 32 b = BitVec.ofNat 32 (a ||| b)
  exact (BitVec.ofNat_or).symm
theorem n_and (a b : Nat) : nI a &&& nI b = nI (a &&& b) := by
  apply Int32.toBitVec_inj.mp
  show BitVec.ofNat 32 a &&& BitVec.ofNat 32 b = BitVec.ofNat 32 (a &&& b)
  exact (BitVec.ofNat_and).symm
theorem n_xor (a b : Nat) : nI a ^^^ nI b = nI (a ^^^ b) := by
  apply Int32.toBitVec_inj.mp
  show BitVec.ofNat 32 a ^^^ BitVec.ofNat 32 b = BitVec.ofNat 32 (a ^^^ b)
  exact (BitVec.ofNat_xor).symm
def r_bt (f : Nat → Nat) : Nat → Nat
  | 0 => 0
  | t + 1 => r_bt f t + f t * 2 ^ t
theorem r_bt_lt {f : Nat → Nat} (hf : ∀ t, f t ≤ 1) : ∀ n, r_bt f n < 2 ^ n
  | 0 => by simp [r_bt]
  | n + 1 => by
    have h1 := r_bt_lt hf n
    have h2 := hf n
    have h3 : f n * 2 ^ n ≤ 1 * 2 ^ n := Nat.mul_le_mul_right _ h2
    simp only [r_bt, Nat.pow_succ]; omega
theorem r_bt_or {f : Nat → Nat} (hf : ∀ t, f t ≤ 1) (n : Nat) : r_bt f n ||| 1 * 2 ^ n = r_bt f n + 1 * 2 ^ n := by
  have h := Nat.two_pow_add_eq_or_of_lt (r_bt_lt hf n) 1
  rw [Nat.or_comm, Nat.one_mul, Nat.add_comm]
  rw [Nat.mul_one] at h
  exact h.symm
theorem r_bt_c {f g : Nat → Nat} : ∀ n, (∀ t, t < n → f t = g t) → r_bt f n = r_bt g n
  | 0, _ => rfl
  | n + 1, h => by simp only [r_bt, r_bt_c n (fun t ht => h t (by omega)), h n (by omega)]
theorem r_bt_tb {f : Nat → Nat} (hf : ∀ t, f t ≤ 1) (i : Nat) : ∀ n, (r_bt f n).testBit i = (decide (i < n) && decide (f i = 1))
  | 0 => by simp [r_bt]
  | n + 1 => by
    have h := Nat.testBit_two_pow_mul_add (f n) (r_bt_lt hf n) i
    rw [Nat.add_comm, Nat.mul_comm] at h
    simp only [r_bt, h, r_bt_tb hf i n]
    by_cases h1 : i < n
    · have h2 : i < n + 1 := by omega
      simp [h1, h2]
    · by_cases h3 : i = n
      · subst h3
        have h4 := hf i
        have h5 : f i = 0 ∨ f i = 1 := by omega
        rcases h5 with h5 | h5 <;> simp [h5]
      · have h2 : ¬ i < n + 1 := by omega
        have h5 : f n = 0 ∨ f n = 1 := by have := hf n; omega
        have h6 : i - n ≠ 0 := by omega
        have h7 : Nat.testBit 1 (i - n) = false := Nat.testBit_lt_two_pow (Nat.one_lt_two_pow h6)
        rcases h5 with h5 | h5 <;> simp only [h1, h2, h5, h7, if_false, decide_false, Bool.false_and, Nat.zero_testBit]
def r_sum (f : Nat → Nat) : Nat → Nat
  | 0 => 0
  | t + 1 => r_sum f t + f t
theorem r_pc_bt {f : Nat → Nat} (hf : ∀ t, f t ≤ 1) (n : Nat) : ∀ k, r_pc k (r_bt f n) = r_sum (fun i => if i < n then f i else 0) k
  | 0 => rfl
  | k + 1 => by
    simp only [r_pc, r_sum, r_pc_bt hf n k, r_bt_tb hf k n]
    have h := hf k
    have h5 : f k = 0 ∨ f k = 1 := by omega
    by_cases h1 : k < n <;> rcases h5 with h5 | h5 <;> simp [h1, h5]
    omega
def r_at (sg : am_G0) (r p : Nat) : Nat := r_bt (fun t => if sg r (3 + t) = p then 1 else 0) (sg 0 1)
def r_st (sg : am_G0) (r : Nat) : Nat := r_bt (fun t => if sg r (3 + t) = sg 3 t then 0 else 1) (sg 0 1)
section BI
variable {I : am_I} {L : am_L} {P : am_P} {S : am_S} {Q : Option Value → am_I → am_L → am_P → am_S → Prop} {h n Lx : Nat} {sg : am_G0}
theorem s156 {b : Nat} (hb : b < 64) : Ev 156 [.int (nI b)] I L P S Q ↔ Q (some (.int (nI (r_pc 6 b)))) I L P S := by
  simp only [xe156, x156_0, x156_1, x156_2, x156_3, x156_4, x156_7, x156_8, x156_9, x156_10, x156_11, x156_14, x156_15, x156_16, x156_17, x156_18, x156_21, x156_22, x156_23, x156_24, x156_25, x156_26, x156_27, x156_28, x156_29, x156_32, x156_33, x156_34, x156_35, x156_36, x156_38, x156_39, x156_40, x156_41, x156_42, x156_43, x156_45, x156_46, x156_47, x156_48, x156_49, x156_51, x156_52, am_kc_i, am_rs_s]
  refine iff_of_eq (congrArg (fun X => Q (some (.int X)) I L P S) ?_)
  revert hb
  revert b
  decide
theorem s99 {b : Nat} (hb : b < 64) : Ev 99 [.int (nI b)] I L P S Q ↔ Q (some (.int (nI (r_pc 6 b)))) I L P S := by
  simp +decide (disch := omega) only [xe99, x99_0, x99_1, x99_2, x99_3, x99_4, x99_5, x99_7, x99_10, x99_11, x99_12, x99_13, x99_14, x99_15, x99_16, x99_17, x99_18, x99_21, x99_24, x99_25, ↓reduceIte, true_and, and_true, if_true, if_false, ne_eq, not_false_eq_true, am_u_at, am_nb0, am_nb1, am_fb0, am_fb1, am_kc_i, am_kc_r, am_kc_l, am_kc_n, am_wsum_n, am_wsum_i, am_wsum_r, am_wsum_l, am_rs_s, am_rs_n, n_c0, n_c1, n_c2, n_c3, n_c4, n_c5, n_c6, n_c7, n_c8, n_c9, n_c10, n_c11, n_c12, n_c14, n_c16, n_c18, n_c20, n_c24, n_c30, n_c31, n_c32, n_c36, n_c48, n_c57, n_c60, n_c63, n_c70, n_c75, n_c97, n_c100, n_c101, n_c104, n_c115, n_c116, n_c59, n_c150, n_c199, n_c200, n_c201, n_c216, n_c255, n_c256, n_c999, n_c1296, n_c4095, n_c6480, n_c100000, n_c1000, n_c65536, n_le, n_add]
  refine iff_of_eq (congrArg (fun X => Q (some (.int X)) I L P S) ?_)
  revert hb
  revert b
  decide
theorem l25 {a w hh p r : Nat} (ha : S.1 a = (4, 0)) (hw : P a 3 = w) (hw2 : S.1 w = (20, 4)) (hw3 : ¬ w = 0) (hhs : S.1 hh = (2, 0)) (hn : I hh 1 = nI (sg 0 1)) (h4 : sg 0 1 ≤ 4) (hv : ∀ t, t < sg 0 1 → I w t = nI (sg r (3 + t)) ∧ sg r (3 + t) < 10) (hp : p < 10) : ∀ m k, k + m = sg 0 1 →
    (Ex 25 5 [some (.ref a), some (.int (nI p)), some (.ref hh), some (.int (nI (r_bt (fun t => if sg r (3 + t) = p then 1 else 0) k))), some (.int (nI k))] [] I L P S Q ↔ Q (some (.int (nI (r_at sg r p)))) I L P S) := by
  intro m
  induction m with
  | zero =>
    intro k hk
    obtain rfl : k = sg 0 1 := by omega
    simp +decide (disch := omega) only [xe25, x25_0, x25_1, x25_2, x25_3, x25_5, x25_7, x25_8, x25_11, x25_14, x25_15, x25_18, x25_20, x25_21, x25_22, x25_25, x25_26, x25_27, x25_29, x25_30, x25_31, x25_32, x25_35, x25_38, x25_39, ↓reduceIte, true_and, and_true, if_true, if_false, ne_eq, not_false_eq_true, am_u_at, am_nb0, am_nb1, am_fb0, am_fb1, am_kc_i, am_kc_r, am_kc_l, am_kc_n, am_wsum_n, am_wsum_i, am_wsum_r, am_wsum_l, am_rs_s, am_rs_n, n_c0, n_c1, n_c2, n_c3, n_c4, n_c5, n_c6, n_c7, n_c8, n_c9, n_c10, n_c11, n_c12, n_c14, n_c16, n_c18, n_c20, n_c24, n_c30, n_c31, n_c32, n_c36, n_c48, n_c57, n_c60, n_c63, n_c70, n_c75, n_c97, n_c100, n_c101, n_c104, n_c115, n_c116, n_c59, n_c150, n_c199, n_c200, n_c201, n_c216, n_c255, n_c256, n_c999, n_c1296, n_c4095, n_c6480, n_c100000, n_c1000, n_c65536, n_le, n_lt0, n_lt, n_eq, n_cl, n_add, n_sub, n_mul, n_div, n_rem, n_mo, n_in, n_nb0, n_nb1, n_fb0, n_fb1, n_vb0, n_vb1, ha, hw, hw2, hw3, hhs, hn, Nat.le_refl]
    rfl
  | succ m ih =>
    intro k hk
    have c1 : ¬ sg 0 1 ≤ k := by omega
    have c2 : k < 4 := by omega
    obtain ⟨v1, v2⟩ := hv k (by omega)
    have hf : ∀ t, (fun t => if sg r (3 + t) = p then 1 else 0) t ≤ 1 := fun t => by show (if _ then 1 else 0) ≤ 1; split <;> omega
    have e := r_bt_or hf k
    have ih2 := ih (k + 1) (by omega)
    simp only [r_bt] at ih2
    have c3 : 1 * 2 ^ k < 4294967296 := by
      have : 2 ^ k < 2 ^ 4 := Nat.pow_lt_pow_right (by omega) c2
      omega
    by_cases hc : sg r (3 + k) = p
    · simp only [hc, if_true] at ih2
      simp +decide (disch := first | omega | exact c3) only [x25_5, x25_7, x25_8, x25_11, x25_14, x25_15, x25_18, x25_20, x25_21, x25_22, x25_25, x25_26, x25_27, x25_29, x25_30, x25_31, x25_32, x25_35, x25_38, x25_39, ↓reduceIte, true_and, and_true, if_true, if_false, ne_eq, not_false_eq_true, am_u_at, am_nb0, am_nb1, am_fb0, am_fb1, am_kc_i, am_kc_r, am_kc_l, am_kc_n, am_wsum_n, am_wsum_i, am_wsum_r, am_wsum_l, am_rs_s, am_rs_n, n_c0, n_c1, n_c2, n_c3, n_c4, n_c5, n_c6, n_c7, n_c8, n_c9, n_c10, n_c11, n_c12, n_c14, n_c16, n_c18, n_c20, n_c24, n_c30, n_c31, n_c32, n_c36, n_c48, n_c57, n_c60, n_c63, n_c70, n_c75, n_c97, n_c100, n_c101, n_c104, n_c115, n_c116, n_c59, n_c150, n_c199, n_c200, n_c201, n_c216, n_c255, n_c256, n_c999, n_c1296, n_c4095, n_c6480, n_c100000, n_c1000, n_c65536, n_le, n_lt0, n_lt, n_eq, n_cl, n_add, n_sub, n_mul, n_div, n_rem, n_mo, n_in, n_nb0, n_nb1, n_fb0, n_fb1, n_vb0, n_vb1, ha, hw, hw2, hw3, hhs, hn, c1, c2, v1, hc, n_shl, n_or, e, ih2]
    · simp only [hc, if_false, Nat.zero_mul, Nat.add_zero] at ih2
      simp +decide (disch := first | omega | exact c3) only [x25_5, x25_7, x25_8, x25_11, x25_14, x25_15, x25_18, x25_20, x25_21, x25_22, x25_25, x25_26, x25_27, x25_29, x25_30, x25_31, x25_32, x25_35, x25_38, x25_39, ↓reduceIte, true_and, and_true, if_true, if_false, ne_eq, not_false_eq_true, am_u_at, am_nb0, am_nb1, am_fb0, am_fb1, am_kc_i, am_kc_r, am_kc_l, am_kc_n, am_wsum_n, am_wsum_i, am_wsum_r, am_wsum_l, am_rs_s, am_rs_n, n_c0, n_c1, n_c2, n_c3, n_c4, n_c5, n_c6, n_c7, n_c8, n_c9, n_c10, n_c11, n_c12, n_c14, n_c16, n_c18, n_c20, n_c24, n_c30, n_c31, n_c32, n_c36, n_c48, n_c57, n_c60, n_c63, n_c70, n_c75, n_c97, n_c100, n_c101, n_c104, n_c115, n_c116, n_c59, n_c150, n_c199, n_c200, n_c201, n_c216, n_c255, n_c256, n_c999, n_c1296, n_c4095, n_c6480, n_c100000, n_c1000, n_c65536, n_le, n_lt0, n_lt, n_eq, n_cl, n_add, n_sub, n_mul, n_div, n_rem, n_mo, n_in, n_nb0, n_nb1, n_fb0, n_fb1, n_vb0, n_vb1, ha, hw, hw2, hw3, hhs, hn, c1, c2, v1, hc, n_shl, n_or, e, ih2]
/-- what is where, of the class's moment a -/
theorem s25 {a w hh p r : Nat} (ha : S.1 a = (4, 0)) (hw : P a 3 = w) (hw2 : S.1 w = (20, 4)) (hw3 : ¬ w = 0) (hhs : S.1 hh = (2, 0)) (hn : I hh 1 = nI (sg 0 1)) (h4 : sg 0 1 ≤ 4) (hv : ∀ t, t < sg 0 1 → I w t = nI (sg r (3 + t)) ∧ sg r (3 + t) < 10) (hp : p < 10) : Ev 25 [.ref a, .int (nI p), .ref hh] I L P S Q ↔ Q (some (.int (nI (r_at sg r p)))) I L P S := by
  simp only [xe25, x25_0, x25_1, x25_2, x25_3, ↓reduceIte, true_and, and_true, if_true, if_false, ne_eq, not_false_eq_true, am_u_at, am_nb0, am_nb1, am_fb0, am_fb1, am_kc_i, am_kc_r, am_kc_l, am_kc_n, am_wsum_n, am_wsum_i, am_wsum_r, am_wsum_l, am_rs_s, am_rs_n, n_c0, n_c1, n_c2, n_c3, n_c4, n_c5, n_c6, n_c7, n_c8, n_c9, n_c10, n_c11, n_c12, n_c14, n_c16, n_c18, n_c20, n_c24, n_c30, n_c31, n_c32, n_c36, n_c48, n_c57, n_c60, n_c63, n_c70, n_c75, n_c97, n_c100, n_c101, n_c104, n_c115, n_c116, n_c59, n_c150, n_c199, n_c200, n_c201, n_c216, n_c255, n_c256, n_c999, n_c1296, n_c4095, n_c6480, n_c100000, n_c1000, n_c65536]
  exact l25 ha hw hw2 hw3 hhs hn h4 hv hp (sg 0 1) 0 (by omega)
theorem l27 {a w hh ho r : Nat} (ha : S.1 a = (4, 0)) (hw : P a 3 = w) (hw2 : S.1 w = (20, 4)) (hw3 : ¬ w = 0) (hhs : S.1 hh = (2, 0)) (ho1 : P hh 8 = ho) (ho2 : S.1 ho = (20, 4)) (ho3 : ¬ ho = 0) (hn : I hh 1 = nI (sg 0 1)) (h4 : sg 0 1 ≤ 4) (hv : ∀ t, t < sg 0 1 → I w t = nI (sg r (3 + t)) ∧ sg r (3 + t) < 10 ∧ I ho t = nI (sg 3 t) ∧ sg 3 t < 10) : ∀ m k, k + m = sg 0 1 →
    (Ex 27 4 [some (.ref a), some (.ref hh), some (.int (nI (r_bt (fun t => if sg r (3 + t) = sg 3 t then 0 else 1) k))), some (.int (nI k))] [] I L P S Q ↔ Q (some (.int (nI (r_st sg r)))) I L P S) := by
  intro m
  induction m with
  | zero =>
    intro k hk
    obtain rfl : k = sg 0 1 := by omega
    simp +decide (disch := omega) only [xe27, x27_0, x27_1, x27_2, x27_3, x27_4, x27_5, x27_6, x27_9, x27_12, x27_13, x27_16, x27_17, x27_18, x27_19, x27_22, x27_23, x27_24, x27_27, x27_28, x27_29, x27_30, x27_31, x27_32, x27_33, x27_36, x27_39, x27_40, ↓reduceIte, true_and, and_true, if_true, if_false, ne_eq, not_false_eq_true, am_u_at, am_nb0, am_nb1, am_fb0, am_fb1, am_kc_i, am_kc_r, am_kc_l, am_kc_n, am_wsum_n, am_wsum_i, am_wsum_r, am_wsum_l, am_rs_s, am_rs_n, n_c0, n_c1, n_c2, n_c3, n_c4, n_c5, n_c6, n_c7, n_c8, n_c9, n_c10, n_c11, n_c12, n_c14, n_c16, n_c18, n_c20, n_c24, n_c30, n_c31, n_c32, n_c36, n_c48, n_c57, n_c60, n_c63, n_c70, n_c75, n_c97, n_c100, n_c101, n_c104, n_c115, n_c116, n_c59, n_c150, n_c199, n_c200, n_c201, n_c216, n_c255, n_c256, n_c999, n_c1296, n_c4095, n_c6480, n_c100000, n_c1000, n_c65536, n_le, n_lt0, n_lt, n_eq, n_cl, n_add, n_sub, n_mul, n_div, n_rem, n_mo, n_in, n_nb0, n_nb1, n_fb0, n_fb1, n_vb0, n_vb1, ha, hw, hw2, hw3, hhs, hn, ho1, ho2, ho3, Nat.le_refl]
    rfl
  | succ m ih =>
    intro k hk
    have c1 : ¬ sg 0 1 ≤ k := by omega
    have c2 : k < 4 := by omega
    obtain ⟨v1, v2, v3, v4⟩ := hv k (by omega)
    have hf : ∀ t, (fun t => if sg r (3 + t) = sg 3 t then 0 else 1) t ≤ 1 := fun t => by show (if _ then 0 else 1) ≤ 1; split <;> omega
    have e := r_bt_or hf k
    have ih2 := ih (k + 1) (by omega)
    simp only [r_bt] at ih2
    have c3 : 1 * 2 ^ k < 4294967296 := by
      have : 2 ^ k < 2 ^ 4 := Nat.pow_lt_pow_right (by omega) c2
      omega
    by_cases hc : sg r (3 + k) = sg 3 k
    · simp only [hc, if_true, Nat.zero_mul, Nat.add_zero] at ih2
      simp +decide (disch := first | omega | exact c3) only [x27_4, x27_5, x27_6, x27_9, x27_12, x27_13, x27_16, x27_17, x27_18, x27_19, x27_22, x27_23, x27_24, x27_27, x27_28, x27_29, x27_30, x27_31, x27_32, x27_33, x27_36, x27_39, x27_40, ↓reduceIte, true_and, and_true, if_true, if_false, ne_eq, not_false_eq_true, am_u_at, am_nb0, am_nb1, am_fb0, am_fb1, am_kc_i, am_kc_r, am_kc_l, am_kc_n, am_wsum_n, am_wsum_i, am_wsum_r, am_wsum_l, am_rs_s, am_rs_n, n_c0, n_c1, n_c2, n_c3, n_c4, n_c5, n_c6, n_c7, n_c8, n_c9, n_c10, n_c11, n_c12, n_c14, n_c16, n_c18, n_c20, n_c24, n_c30, n_c31, n_c32, n_c36, n_c48, n_c57, n_c60, n_c63, n_c70, n_c75, n_c97, n_c100, n_c101, n_c104, n_c115, n_c116, n_c59, n_c150, n_c199, n_c200, n_c201, n_c216, n_c255, n_c256, n_c999, n_c1296, n_c4095, n_c6480, n_c100000, n_c1000, n_c65536, n_le, n_lt0, n_lt, n_eq, n_cl, n_add, n_sub, n_mul, n_div, n_rem, n_mo, n_in, n_nb0, n_nb1, n_fb0, n_fb1, n_vb0, n_vb1, ha, hw, hw2, hw3, hhs, hn, ho1, ho2, ho3, c1, c2, v1, v3, hc, n_shl, n_or, e, ih2]
    · simp only [hc, if_false] at ih2
      simp +decide (disch := first | omega | exact c3) only [x27_4, x27_5, x27_6, x27_9, x27_12, x27_13, x27_16, x27_17, x27_18, x27_19, x27_22, x27_23, x27_24, x27_27, x27_28, x27_29, x27_30, x27_31, x27_32, x27_33, x27_36, x27_39, x27_40, ↓reduceIte, true_and, and_true, if_true, if_false, ne_eq, not_false_eq_true, am_u_at, am_nb0, am_nb1, am_fb0, am_fb1, am_kc_i, am_kc_r, am_kc_l, am_kc_n, am_wsum_n, am_wsum_i, am_wsum_r, am_wsum_l, am_rs_s, am_rs_n, n_c0, n_c1, n_c2, n_c3, n_c4, n_c5, n_c6, n_c7, n_c8, n_c9, n_c10, n_c11, n_c12, n_c14, n_c16, n_c18, n_c20, n_c24, n_c30, n_c31, n_c32, n_c36, n_c48, n_c57, n_c60, n_c63, n_c70, n_c75, n_c97, n_c100, n_c101, n_c104, n_c115, n_c116, n_c59, n_c150, n_c199, n_c200, n_c201, n_c216, n_c255, n_c256, n_c999, n_c1296, n_c4095, n_c6480, n_c100000, n_c1000, n_c65536, n_le, n_lt0, n_lt, n_eq, n_cl, n_add, n_sub, n_mul, n_div, n_rem, n_mo, n_in, n_nb0, n_nb1, n_fb0, n_fb1, n_vb0, n_vb1, ha, hw, hw2, hw3, hhs, hn, ho1, ho2, ho3, c1, c2, v1, v3, hc, n_shl, n_or, e, ih2]
theorem s27 {a w hh ho r : Nat} (ha : S.1 a = (4, 0)) (hw : P a 3 = w) (hw2 : S.1 w = (20, 4)) (hw3 : ¬ w = 0) (hhs : S.1 hh = (2, 0)) (ho1 : P hh 8 = ho) (ho2 : S.1 ho = (20, 4)) (ho3 : ¬ ho = 0) (hn : I hh 1 = nI (sg 0 1)) (h4 : sg 0 1 ≤ 4) (hv : ∀ t, t < sg 0 1 → I w t = nI (sg r (3 + t)) ∧ sg r (3 + t) < 10 ∧ I ho t = nI (sg 3 t) ∧ sg 3 t < 10) : Ev 27 [.ref a, .ref hh] I L P S Q ↔ Q (some (.int (nI (r_st sg r)))) I L P S := by
  simp only [xe27, x27_0, x27_1, x27_2, x27_3, ↓reduceIte, true_and, and_true, if_true, if_false, ne_eq, not_false_eq_true, am_u_at, am_nb0, am_nb1, am_fb0, am_fb1, am_kc_i, am_kc_r, am_kc_l, am_kc_n, am_wsum_n, am_wsum_i, am_wsum_r, am_wsum_l, am_rs_s, am_rs_n, n_c0, n_c1, n_c2, n_c3, n_c4, n_c5, n_c6, n_c7, n_c8, n_c9, n_c10, n_c11, n_c12, n_c14, n_c16, n_c18, n_c20, n_c24, n_c30, n_c31, n_c32, n_c36, n_c48, n_c57, n_c60, n_c63, n_c70, n_c75, n_c97, n_c100, n_c101, n_c104, n_c115, n_c116, n_c59, n_c150, n_c199, n_c200, n_c201, n_c216, n_c255, n_c256, n_c999, n_c1296, n_c4095, n_c6480, n_c100000, n_c1000, n_c65536]
  exact l27 ha hw hw2 hw3 hhs ho1 ho2 ho3 hn h4 hv (sg 0 1) 0 (by omega)
end BI
section BJ
variable {I : am_I} {L : am_L} {Q : Option Value → am_I → am_L → am_P → am_S → Prop} {h s n Lx : Nat} {sg : am_G0}
theorem l116 {p r : Nat} (hn : I 63 2 = nI (sg 0 1)) (h4 : sg 0 1 ≤ 4) (hv : ∀ t, t < sg 0 1 → I 66 (2 + t) = nI (sg r (3 + t)) ∧ sg r (3 + t) < 10) (hp : p < 10) : ∀ m k, k + m = sg 0 1 →
    (Ex 116 4 [some (.ref 63), some (.int (nI p)), some (.int (nI (r_bt (fun t => if sg r (3 + t) = p then 1 else 0) k))), some (.int (nI k))] [] I L (am_PT h s) (am_S1 Lx) Q ↔ Q (some (.int (nI (r_at sg r p)))) I L (am_PT h s) (am_S1 Lx)) := by
  intro m
  induction m with
  | zero =>
    intro k hk
    obtain rfl : k = sg 0 1 := by omega
    simp +decide (disch := omega) only [xe116, x116_0, x116_1, x116_2, x116_3, x116_4, x116_5, x116_6, x116_9, x116_12, x116_13, x116_14, x116_17, x116_18, x116_19, x116_20, x116_21, x116_22, x116_25, x116_26, x116_27, x116_28, x116_31, x116_32, x116_33, x116_34, x116_37, x116_40, x116_41, ↓reduceIte, true_and, and_true, if_true, if_false, ne_eq, not_false_eq_true, am_u_at, am_nb0, am_nb1, am_fb0, am_fb1, am_kc_i, am_kc_r, am_kc_l, am_kc_n, am_wsum_n, am_wsum_i, am_wsum_r, am_wsum_l, am_rs_s, am_rs_n, am_S1_1, am_S1_2, am_S1_3, am_S1_4, am_S1_5, am_S1_6, am_S1_7, am_S1_8, am_S1_9, am_S1_10, am_S1_11, am_S1_12, am_S1_13, am_S1_14, am_S1_15, am_S1_16, am_S1_17, am_S1_18, am_S1_19, am_S1_20, am_S1_21, am_S1_22, am_S1_23, am_S1_24, am_S1_25, am_S1_26, am_S1_27, am_S1_28, am_S1_29, am_S1_30, am_S1_31, am_S1_32, am_S1_33, am_S1_34, am_S1_35, am_S1_36, am_S1_37, am_S1_38, am_S1_39, am_S1_40, am_S1_41, am_S1_42, am_S1_43, am_S1_44, am_S1_45, am_S1_46, am_S1_47, am_S1_48, am_S1_49, am_S1_50, am_S1_51, am_S1_52, am_S1_53, am_S1_54, am_S1_55, am_S1_56, am_S1_57, am_S1_58, am_S1_59, am_S1_60, am_S1_61, am_S1_62, am_S1_63, am_S1_64, am_S1_65, am_S1_66, am_S1_67, am_S1_68, am_S1_69, am_S1_70, am_S1_71, am_S1_72, am_S1_73, am_S1_74, am_S1_75, am_S1_76, am_S1_77, am_PT_3_1, am_PT_3_2, am_PT_3_0, am_PT_3_3, am_PT_3_4, am_PT_3_5, am_PT_3_6, am_PT_3_7, am_PT_3_8, am_PT_3_9, am_PT_3_10, am_PT_4_0, am_PT_6_6, am_PT_6_7, am_PT_6_8, am_PT_6_9, am_PT_6_10, am_PT_6_11, am_PT_13_6, am_PT_13_7, am_PT_13_8, am_PT_13_9, am_PT_13_10, am_PT_13_11, am_PT_20_3, am_PT_22_0, am_PT_23_0, am_PT_23_1, am_PT_23_2, am_PT_23_3, am_PT_23_4, am_PT_23_5, am_PT_23_6, am_PT_23_7, am_PT_23_8, am_PT_23_9, am_PT_24_3, am_PT_26_3, am_PT_28_3, am_PT_30_3, am_PT_32_3, am_PT_34_3, am_PT_36_3, am_PT_38_3, am_PT_40_3, am_PT_42_3, am_PT_44_0, am_PT_44_1, am_PT_46_2, am_PT_46_3, am_PT_46_4, am_PT_46_5, am_PT_51_0, am_PT_51_1, am_PT_51_2, am_PT_51_3, am_PT_51_4, am_PT_59_3, am_PT_61_3, am_PT_63_1, am_PT_63_3, am_PT_63_6, am_PT_63_7, am_PT_63_9, am_PT_63_10, am_PT_63_12, am_PT_63_14, am_PT_63_16, am_PT_63_25, am_PT_63_27, am_PT_63_30, am_PT_63_36, am_PT_63_37, n_c0, n_c1, n_c2, n_c3, n_c4, n_c5, n_c6, n_c7, n_c8, n_c9, n_c10, n_c11, n_c12, n_c14, n_c16, n_c18, n_c20, n_c24, n_c30, n_c31, n_c32, n_c36, n_c48, n_c57, n_c60, n_c63, n_c70, n_c75, n_c97, n_c100, n_c101, n_c104, n_c115, n_c116, n_c59, n_c150, n_c199, n_c200, n_c201, n_c216, n_c255, n_c256, n_c999, n_c1296, n_c4095, n_c6480, n_c100000, n_c1000, n_c65536, n_le, n_lt0, n_lt, n_eq, n_cl, n_add, n_sub, n_mul, n_div, n_rem, n_mo, n_in, n_nb0, n_nb1, n_fb0, n_fb1, n_vb0, n_vb1, hn, Nat.le_refl]
    rfl
  | succ m ih =>
    intro k hk
    have c1 : ¬ sg 0 1 ≤ k := by omega
    have c2 : 2 + k < 7 := by omega
    obtain ⟨v1, v2⟩ := hv k (by omega)
    have hf : ∀ t, (fun t => if sg r (3 + t) = p then 1 else 0) t ≤ 1 := fun t => by show (if _ then 1 else 0) ≤ 1; split <;> omega
    have e := r_bt_or hf k
    have ih2 := ih (k + 1) (by omega)
    simp only [r_bt] at ih2
    have c3 : 1 * 2 ^ k < 4294967296 := by
      have : 2 ^ k < 2 ^ 4 := Nat.pow_lt_pow_right (by omega) (by omega)
      omega
    by_cases hc : sg r (3 + k) = p
    · simp only [hc, if_true] at ih2
      simp +decide (disch := first | omega | exact c3) only [x116_4, x116_5, x116_6, x116_9, x116_12, x116_13, x116_14, x116_17, x116_18, x116_19, x116_20, x116_21, x116_22, x116_25, x116_26, x116_27, x116_28, x116_31, x116_32, x116_33, x116_34, x116_37, x116_40, x116_41, ↓reduceIte, true_and, and_true, if_true, if_false, ne_eq, not_false_eq_true, am_u_at, am_nb0, am_nb1, am_fb0, am_fb1, am_kc_i, am_kc_r, am_kc_l, am_kc_n, am_wsum_n, am_wsum_i, am_wsum_r, am_wsum_l, am_rs_s, am_rs_n, am_S1_1, am_S1_2, am_S1_3, am_S1_4, am_S1_5, am_S1_6, am_S1_7, am_S1_8, am_S1_9, am_S1_10, am_S1_11, am_S1_12, am_S1_13, am_S1_14, am_S1_15, am_S1_16, am_S1_17, am_S1_18, am_S1_19, am_S1_20, am_S1_21, am_S1_22, am_S1_23, am_S1_24, am_S1_25, am_S1_26, am_S1_27, am_S1_28, am_S1_29, am_S1_30, am_S1_31, am_S1_32, am_S1_33, am_S1_34, am_S1_35, am_S1_36, am_S1_37, am_S1_38, am_S1_39, am_S1_40, am_S1_41, am_S1_42, am_S1_43, am_S1_44, am_S1_45, am_S1_46, am_S1_47, am_S1_48, am_S1_49, am_S1_50, am_S1_51, am_S1_52, am_S1_53, am_S1_54, am_S1_55, am_S1_56, am_S1_57, am_S1_58, am_S1_59, am_S1_60, am_S1_61, am_S1_62, am_S1_63, am_S1_64, am_S1_65, am_S1_66, am_S1_67, am_S1_68, am_S1_69, am_S1_70, am_S1_71, am_S1_72, am_S1_73, am_S1_74, am_S1_75, am_S1_76, am_S1_77, am_PT_3_1, am_PT_3_2, am_PT_3_0, am_PT_3_3, am_PT_3_4, am_PT_3_5, am_PT_3_6, am_PT_3_7, am_PT_3_8, am_PT_3_9, am_PT_3_10, am_PT_4_0, am_PT_6_6, am_PT_6_7, am_PT_6_8, am_PT_6_9, am_PT_6_10, am_PT_6_11, am_PT_13_6, am_PT_13_7, am_PT_13_8, am_PT_13_9, am_PT_13_10, am_PT_13_11, am_PT_20_3, am_PT_22_0, am_PT_23_0, am_PT_23_1, am_PT_23_2, am_PT_23_3, am_PT_23_4, am_PT_23_5, am_PT_23_6, am_PT_23_7, am_PT_23_8, am_PT_23_9, am_PT_24_3, am_PT_26_3, am_PT_28_3, am_PT_30_3, am_PT_32_3, am_PT_34_3, am_PT_36_3, am_PT_38_3, am_PT_40_3, am_PT_42_3, am_PT_44_0, am_PT_44_1, am_PT_46_2, am_PT_46_3, am_PT_46_4, am_PT_46_5, am_PT_51_0, am_PT_51_1, am_PT_51_2, am_PT_51_3, am_PT_51_4, am_PT_59_3, am_PT_61_3, am_PT_63_1, am_PT_63_3, am_PT_63_6, am_PT_63_7, am_PT_63_9, am_PT_63_10, am_PT_63_12, am_PT_63_14, am_PT_63_16, am_PT_63_25, am_PT_63_27, am_PT_63_30, am_PT_63_36, am_PT_63_37, n_c0, n_c1, n_c2, n_c3, n_c4, n_c5, n_c6, n_c7, n_c8, n_c9, n_c10, n_c11, n_c12, n_c14, n_c16, n_c18, n_c20, n_c24, n_c30, n_c31, n_c32, n_c36, n_c48, n_c57, n_c60, n_c63, n_c70, n_c75, n_c97, n_c100, n_c101, n_c104, n_c115, n_c116, n_c59, n_c150, n_c199, n_c200, n_c201, n_c216, n_c255, n_c256, n_c999, n_c1296, n_c4095, n_c6480, n_c100000, n_c1000, n_c65536, n_le, n_lt0, n_lt, n_eq, n_cl, n_add, n_sub, n_mul, n_div, n_rem, n_mo, n_in, n_nb0, n_nb1, n_fb0, n_fb1, n_vb0, n_vb1, hn, c1, c2, v1, hc, n_shl, n_or, e, ih2]
    · simp only [hc, if_false, Nat.zero_mul, Nat.add_zero] at ih2
      simp +decide (disch := first | omega | exact c3) only [x116_4, x116_5, x116_6, x116_9, x116_12, x116_13, x116_14, x116_17, x116_18, x116_19, x116_20, x116_21, x116_22, x116_25, x116_26, x116_27, x116_28, x116_31, x116_32, x116_33, x116_34, x116_37, x116_40, x116_41, ↓reduceIte, true_and, and_true, if_true, if_false, ne_eq, not_false_eq_true, am_u_at, am_nb0, am_nb1, am_fb0, am_fb1, am_kc_i, am_kc_r, am_kc_l, am_kc_n, am_wsum_n, am_wsum_i, am_wsum_r, am_wsum_l, am_rs_s, am_rs_n, am_S1_1, am_S1_2, am_S1_3, am_S1_4, am_S1_5, am_S1_6, am_S1_7, am_S1_8, am_S1_9, am_S1_10, am_S1_11, am_S1_12, am_S1_13, am_S1_14, am_S1_15, am_S1_16, am_S1_17, am_S1_18, am_S1_19, am_S1_20, am_S1_21, am_S1_22, am_S1_23, am_S1_24, am_S1_25, am_S1_26, am_S1_27, am_S1_28, am_S1_29, am_S1_30, am_S1_31, am_S1_32, am_S1_33, am_S1_34, am_S1_35, am_S1_36, am_S1_37, am_S1_38, am_S1_39, am_S1_40, am_S1_41, am_S1_42, am_S1_43, am_S1_44, am_S1_45, am_S1_46, am_S1_47, am_S1_48, am_S1_49, am_S1_50, am_S1_51, am_S1_52, am_S1_53, am_S1_54, am_S1_55, am_S1_56, am_S1_57, am_S1_58, am_S1_59, am_S1_60, am_S1_61, am_S1_62, am_S1_63, am_S1_64, am_S1_65, am_S1_66, am_S1_67, am_S1_68, am_S1_69, am_S1_70, am_S1_71, am_S1_72, am_S1_73, am_S1_74, am_S1_75, am_S1_76, am_S1_77, am_PT_3_1, am_PT_3_2, am_PT_3_0, am_PT_3_3, am_PT_3_4, am_PT_3_5, am_PT_3_6, am_PT_3_7, am_PT_3_8, am_PT_3_9, am_PT_3_10, am_PT_4_0, am_PT_6_6, am_PT_6_7, am_PT_6_8, am_PT_6_9, am_PT_6_10, am_PT_6_11, am_PT_13_6, am_PT_13_7, am_PT_13_8, am_PT_13_9, am_PT_13_10, am_PT_13_11, am_PT_20_3, am_PT_22_0, am_PT_23_0, am_PT_23_1, am_PT_23_2, am_PT_23_3, am_PT_23_4, am_PT_23_5, am_PT_23_6, am_PT_23_7, am_PT_23_8, am_PT_23_9, am_PT_24_3, am_PT_26_3, am_PT_28_3, am_PT_30_3, am_PT_32_3, am_PT_34_3, am_PT_36_3, am_PT_38_3, am_PT_40_3, am_PT_42_3, am_PT_44_0, am_PT_44_1, am_PT_46_2, am_PT_46_3, am_PT_46_4, am_PT_46_5, am_PT_51_0, am_PT_51_1, am_PT_51_2, am_PT_51_3, am_PT_51_4, am_PT_59_3, am_PT_61_3, am_PT_63_1, am_PT_63_3, am_PT_63_6, am_PT_63_7, am_PT_63_9, am_PT_63_10, am_PT_63_12, am_PT_63_14, am_PT_63_16, am_PT_63_25, am_PT_63_27, am_PT_63_30, am_PT_63_36, am_PT_63_37, n_c0, n_c1, n_c2, n_c3, n_c4, n_c5, n_c6, n_c7, n_c8, n_c9, n_c10, n_c11, n_c12, n_c14, n_c16, n_c18, n_c20, n_c24, n_c30, n_c31, n_c32, n_c36, n_c48, n_c57, n_c60, n_c63, n_c70, n_c75, n_c97, n_c100, n_c101, n_c104, n_c115, n_c116, n_c59, n_c150, n_c199, n_c200, n_c201, n_c216, n_c255, n_c256, n_c999, n_c1296, n_c4095, n_c6480, n_c100000, n_c1000, n_c65536, n_le, n_lt0, n_lt, n_eq, n_cl, n_add, n_sub, n_mul, n_div, n_rem, n_mo, n_in, n_nb0, n_nb1, n_fb0, n_fb1, n_vb0, n_vb1, hn, c1, c2, v1, hc, n_shl, n_or, Nat.or_zero, e, ih2]
theorem s116 {p r : Nat} (hn : I 63 2 = nI (sg 0 1)) (h4 : sg 0 1 ≤ 4) (hv : ∀ t, t < sg 0 1 → I 66 (2 + t) = nI (sg r (3 + t)) ∧ sg r (3 + t) < 10) (hp : p < 10) : Ev 116 [.ref 63, .int (nI p)] I L (am_PT h s) (am_S1 Lx) Q ↔ Q (some (.int (nI (r_at sg r p)))) I L (am_PT h s) (am_S1 Lx) := by
  simp only [xe116, x116_0, x116_1, x116_2, x116_3, ↓reduceIte, true_and, and_true, if_true, if_false, ne_eq, not_false_eq_true, am_u_at, am_nb0, am_nb1, am_fb0, am_fb1, am_kc_i, am_kc_r, am_kc_l, am_kc_n, am_wsum_n, am_wsum_i, am_wsum_r, am_wsum_l, am_rs_s, am_rs_n, n_c0, n_c1, n_c2, n_c3, n_c4, n_c5, n_c6, n_c7, n_c8, n_c9, n_c10, n_c11, n_c12, n_c14, n_c16, n_c18, n_c20, n_c24, n_c30, n_c31, n_c32, n_c36, n_c48, n_c57, n_c60, n_c63, n_c70, n_c75, n_c97, n_c100, n_c101, n_c104, n_c115, n_c116, n_c59, n_c150, n_c199, n_c200, n_c201, n_c216, n_c255, n_c256, n_c999, n_c1296, n_c4095, n_c6480, n_c100000, n_c1000, n_c65536]
  exact l116 hn h4 hv hp (sg 0 1) 0 (by omega)
theorem l117 {r : Nat} (hn : I 63 2 = nI (sg 0 1)) (h4 : sg 0 1 ≤ 4) (hv : ∀ t, t < sg 0 1 → I 66 (2 + t) = nI (sg r (3 + t)) ∧ sg r (3 + t) < 10 ∧ I 65 (4 * t) = nI (sg 3 t) ∧ sg 3 t < 10) : ∀ m k, k + m = sg 0 1 →
    (Ex 117 4 [some (.ref 63), some (.int (nI (r_bt (fun t => if sg r (3 + t) = sg 3 t then 0 else 1) k))), some (.int (nI k))] [] I L (am_PT h s) (am_S1 Lx) Q ↔ Q (some (.int (nI (r_st sg r)))) I L (am_PT h s) (am_S1 Lx)) := by
  intro m
  induction m with
  | zero =>
    intro k hk
    obtain rfl : k = sg 0 1 := by omega
    simp +decide (disch := omega) only [xe117, x117_0, x117_1, x117_2, x117_3, x117_4, x117_5, x117_6, x117_9, x117_12, x117_13, x117_14, x117_17, x117_18, x117_19, x117_20, x117_21, x117_22, x117_25, x117_26, x117_27, x117_28, x117_29, x117_32, x117_33, x117_36, x117_37, x117_38, x117_39, x117_40, x117_41, x117_44, x117_47, x117_48, ↓reduceIte, true_and, and_true, if_true, if_false, ne_eq, not_false_eq_true, am_u_at, am_nb0, am_nb1, am_fb0, am_fb1, am_kc_i, am_kc_r, am_kc_l, am_kc_n, am_wsum_n, am_wsum_i, am_wsum_r, am_wsum_l, am_rs_s, am_rs_n, am_S1_1, am_S1_2, am_S1_3, am_S1_4, am_S1_5, am_S1_6, am_S1_7, am_S1_8, am_S1_9, am_S1_10, am_S1_11, am_S1_12, am_S1_13, am_S1_14, am_S1_15, am_S1_16, am_S1_17, am_S1_18, am_S1_19, am_S1_20, am_S1_21, am_S1_22, am_S1_23, am_S1_24, am_S1_25, am_S1_26, am_S1_27, am_S1_28, am_S1_29, am_S1_30, am_S1_31, am_S1_32, am_S1_33, am_S1_34, am_S1_35, am_S1_36, am_S1_37, am_S1_38, am_S1_39, am_S1_40, am_S1_41, am_S1_42, am_S1_43, am_S1_44, am_S1_45, am_S1_46, am_S1_47, am_S1_48, am_S1_49, am_S1_50, am_S1_51, am_S1_52, am_S1_53, am_S1_54, am_S1_55, am_S1_56, am_S1_57, am_S1_58, am_S1_59, am_S1_60, am_S1_61, am_S1_62, am_S1_63, am_S1_64, am_S1_65, am_S1_66, am_S1_67, am_S1_68, am_S1_69, am_S1_70, am_S1_71, am_S1_72, am_S1_73, am_S1_74, am_S1_75, am_S1_76, am_S1_77, am_PT_3_1, am_PT_3_2, am_PT_3_0, am_PT_3_3, am_PT_3_4, am_PT_3_5, am_PT_3_6, am_PT_3_7, am_PT_3_8, am_PT_3_9, am_PT_3_10, am_PT_4_0, am_PT_6_6, am_PT_6_7, am_PT_6_8, am_PT_6_9, am_PT_6_10, am_PT_6_11, am_PT_13_6, am_PT_13_7, am_PT_13_8, am_PT_13_9, am_PT_13_10, am_PT_13_11, am_PT_20_3, am_PT_22_0, am_PT_23_0, am_PT_23_1, am_PT_23_2, am_PT_23_3, am_PT_23_4, am_PT_23_5, am_PT_23_6, am_PT_23_7, am_PT_23_8, am_PT_23_9, am_PT_24_3, am_PT_26_3, am_PT_28_3, am_PT_30_3, am_PT_32_3, am_PT_34_3, am_PT_36_3, am_PT_38_3, am_PT_40_3, am_PT_42_3, am_PT_44_0, am_PT_44_1, am_PT_46_2, am_PT_46_3, am_PT_46_4, am_PT_46_5, am_PT_51_0, am_PT_51_1, am_PT_51_2, am_PT_51_3, am_PT_51_4, am_PT_59_3, am_PT_61_3, am_PT_63_1, am_PT_63_3, am_PT_63_6, am_PT_63_7, am_PT_63_9, am_PT_63_10, am_PT_63_12, am_PT_63_14, am_PT_63_16, am_PT_63_25, am_PT_63_27, am_PT_63_30, am_PT_63_36, am_PT_63_37, n_c0, n_c1, n_c2, n_c3, n_c4, n_c5, n_c6, n_c7, n_c8, n_c9, n_c10, n_c11, n_c12, n_c14, n_c16, n_c18, n_c20, n_c24, n_c30, n_c31, n_c32, n_c36, n_c48, n_c57, n_c60, n_c63, n_c70, n_c75, n_c97, n_c100, n_c101, n_c104, n_c115, n_c116, n_c59, n_c150, n_c199, n_c200, n_c201, n_c216, n_c255, n_c256, n_c999, n_c1296, n_c4095, n_c6480, n_c100000, n_c1000, n_c65536, n_le, n_lt0, n_lt, n_eq, n_cl, n_add, n_sub, n_mul, n_div, n_rem, n_mo, n_in, n_nb0, n_nb1, n_fb0, n_fb1, n_vb0, n_vb1, hn, Nat.le_refl]
    rfl
  | succ m ih =>
    intro k hk
    have c1 : ¬ sg 0 1 ≤ k := by omega
    have c2 : 2 + k < 7 := by omega
    have c4 : 4 * k < 16 := by omega
    obtain ⟨v1, v2, v3, v4⟩ := hv k (by omega)
    have hf : ∀ t, (fun t => if sg r (3 + t) = sg 3 t then 0 else 1) t ≤ 1 := fun t => by show (if _ then 0 else 1) ≤ 1; split <;> omega
    have e := r_bt_or hf k
    have ih2 := ih (k + 1) (by omega)
    simp only [r_bt] at ih2
    have c3 : 1 * 2 ^ k < 4294967296 := by
      have : 2 ^ k < 2 ^ 4 := Nat.pow_lt_pow_right (by omega) (by omega)
      omega
    by_cases hc : sg r (3 + k) = sg 3 k
    · simp only [hc, if_true, Nat.zero_mul, Nat.add_zero] at ih2
      simp +decide (disch := first | omega | exact c3) only [x117_4, x117_5, x117_6, x117_9, x117_12, x117_13, x117_14, x117_17, x117_18, x117_19, x117_20, x117_21, x117_22, x117_25, x117_26, x117_27, x117_28, x117_29, x117_32, x117_33, x117_36, x117_37, x117_38, x117_39, x117_40, x117_41, x117_44, x117_47, x117_48, ↓reduceIte, true_and, and_true, if_true, if_false, ne_eq, not_false_eq_true, am_u_at, am_nb0, am_nb1, am_fb0, am_fb1, am_kc_i, am_kc_r, am_kc_l, am_kc_n, am_wsum_n, am_wsum_i, am_wsum_r, am_wsum_l, am_rs_s, am_rs_n, am_S1_1, am_S1_2, am_S1_3, am_S1_4, am_S1_5, am_S1_6, am_S1_7, am_S1_8, am_S1_9, am_S1_10, am_S1_11, am_S1_12, am_S1_13, am_S1_14, am_S1_15, am_S1_16, am_S1_17, am_S1_18, am_S1_19, am_S1_20, am_S1_21, am_S1_22, am_S1_23, am_S1_24, am_S1_25, am_S1_26, am_S1_27, am_S1_28, am_S1_29, am_S1_30, am_S1_31, am_S1_32, am_S1_33, am_S1_34, am_S1_35, am_S1_36, am_S1_37, am_S1_38, am_S1_39, am_S1_40, am_S1_41, am_S1_42, am_S1_43, am_S1_44, am_S1_45, am_S1_46, am_S1_47, am_S1_48, am_S1_49, am_S1_50, am_S1_51, am_S1_52, am_S1_53, am_S1_54, am_S1_55, am_S1_56, am_S1_57, am_S1_58, am_S1_59, am_S1_60, am_S1_61, am_S1_62, am_S1_63, am_S1_64, am_S1_65, am_S1_66, am_S1_67, am_S1_68, am_S1_69, am_S1_70, am_S1_71, am_S1_72, am_S1_73, am_S1_74, am_S1_75, am_S1_76, am_S1_77, am_PT_3_1, am_PT_3_2, am_PT_3_0, am_PT_3_3, am_PT_3_4, am_PT_3_5, am_PT_3_6, am_PT_3_7, am_PT_3_8, am_PT_3_9, am_PT_3_10, am_PT_4_0, am_PT_6_6, am_PT_6_7, am_PT_6_8, am_PT_6_9, am_PT_6_10, am_PT_6_11, am_PT_13_6, am_PT_13_7, am_PT_13_8, am_PT_13_9, am_PT_13_10, am_PT_13_11, am_PT_20_3, am_PT_22_0, am_PT_23_0, am_PT_23_1, am_PT_23_2, am_PT_23_3, am_PT_23_4, am_PT_23_5, am_PT_23_6, am_PT_23_7, am_PT_23_8, am_PT_23_9, am_PT_24_3, am_PT_26_3, am_PT_28_3, am_PT_30_3, am_PT_32_3, am_PT_34_3, am_PT_36_3, am_PT_38_3, am_PT_40_3, am_PT_42_3, am_PT_44_0, am_PT_44_1, am_PT_46_2, am_PT_46_3, am_PT_46_4, am_PT_46_5, am_PT_51_0, am_PT_51_1, am_PT_51_2, am_PT_51_3, am_PT_51_4, am_PT_59_3, am_PT_61_3, am_PT_63_1, am_PT_63_3, am_PT_63_6, am_PT_63_7, am_PT_63_9, am_PT_63_10, am_PT_63_12, am_PT_63_14, am_PT_63_16, am_PT_63_25, am_PT_63_27, am_PT_63_30, am_PT_63_36, am_PT_63_37, n_c0, n_c1, n_c2, n_c3, n_c4, n_c5, n_c6, n_c7, n_c8, n_c9, n_c10, n_c11, n_c12, n_c14, n_c16, n_c18, n_c20, n_c24, n_c30, n_c31, n_c32, n_c36, n_c48, n_c57, n_c60, n_c63, n_c70, n_c75, n_c97, n_c100, n_c101, n_c104, n_c115, n_c116, n_c59, n_c150, n_c199, n_c200, n_c201, n_c216, n_c255, n_c256, n_c999, n_c1296, n_c4095, n_c6480, n_c100000, n_c1000, n_c65536, n_le, n_lt0, n_lt, n_eq, n_cl, n_add, n_sub, n_mul, n_div, n_rem, n_mo, n_in, n_nb0, n_nb1, n_fb0, n_fb1, n_vb0, n_vb1, hn, c1, c2, c4, v1, v3, hc, n_shl, n_or, Nat.or_zero, e, ih2]
    · simp only [hc, if_false] at ih2
      simp +decide (disch := first | omega | exact c3) only [x117_4, x117_5, x117_6, x117_9, x117_12, x117_13, x117_14, x117_17, x117_18, x117_19, x117_20, x117_21, x117_22, x117_25, x117_26, x117_27, x117_28, x117_29, x117_32, x117_33, x117_36, x117_37, x117_38, x117_39, x117_40, x117_41, x117_44, x117_47, x117_48, ↓reduceIte, true_and, and_true, if_true, if_false, ne_eq, not_false_eq_true, am_u_at, am_nb0, am_nb1, am_fb0, am_fb1, am_kc_i, am_kc_r, am_kc_l, am_kc_n, am_wsum_n, am_wsum_i, am_wsum_r, am_wsum_l, am_rs_s, am_rs_n, am_S1_1, am_S1_2, am_S1_3, am_S1_4, am_S1_5, am_S1_6, am_S1_7, am_S1_8, am_S1_9, am_S1_10, am_S1_11, am_S1_12, am_S1_13, am_S1_14, am_S1_15, am_S1_16, am_S1_17, am_S1_18, am_S1_19, am_S1_20, am_S1_21, am_S1_22, am_S1_23, am_S1_24, am_S1_25, am_S1_26, am_S1_27, am_S1_28, am_S1_29, am_S1_30, am_S1_31, am_S1_32, am_S1_33, am_S1_34, am_S1_35, am_S1_36, am_S1_37, am_S1_38, am_S1_39, am_S1_40, am_S1_41, am_S1_42, am_S1_43, am_S1_44, am_S1_45, am_S1_46, am_S1_47, am_S1_48, am_S1_49, am_S1_50, am_S1_51, am_S1_52, am_S1_53, am_S1_54, am_S1_55, am_S1_56, am_S1_57, am_S1_58, am_S1_59, am_S1_60, am_S1_61, am_S1_62, am_S1_63, am_S1_64, am_S1_65, am_S1_66, am_S1_67, am_S1_68, am_S1_69, am_S1_70, am_S1_71, am_S1_72, am_S1_73, am_S1_74, am_S1_75, am_S1_76, am_S1_77, am_PT_3_1, am_PT_3_2, am_PT_3_0, am_PT_3_3, am_PT_3_4, am_PT_3_5, am_PT_3_6, am_PT_3_7, am_PT_3_8, am_PT_3_9, am_PT_3_10, am_PT_4_0, am_PT_6_6, am_PT_6_7, am_PT_6_8, am_PT_6_9, am_PT_6_10, am_PT_6_11, am_PT_13_6, am_PT_13_7, am_PT_13_8, am_PT_13_9, am_PT_13_10, am_PT_13_11, am_PT_20_3, am_PT_22_0, am_PT_23_0, am_PT_23_1, am_PT_23_2, am_PT_23_3, am_PT_23_4, am_PT_23_5, am_PT_23_6, am_PT_23_7, am_PT_23_8, am_PT_23_9, am_PT_24_3, am_PT_26_3, am_PT_28_3, am_PT_30_3, am_PT_32_3, am_PT_34_3, am_PT_36_3, am_PT_38_3, am_PT_40_3, am_PT_42_3, am_PT_44_0, am_PT_44_1, am_PT_46_2, am_PT_46_3, am_PT_46_4, am_PT_46_5, am_PT_51_0, am_PT_51_1, am_PT_51_2, am_PT_51_3, am_PT_51_4, am_PT_59_3, am_PT_61_3, am_PT_63_1, am_PT_63_3, am_PT_63_6, am_PT_63_7, am_PT_63_9, am_PT_63_10, am_PT_63_12, am_PT_63_14, am_PT_63_16, am_PT_63_25, am_PT_63_27, am_PT_63_30, am_PT_63_36, am_PT_63_37, n_c0, n_c1, n_c2, n_c3, n_c4, n_c5, n_c6, n_c7, n_c8, n_c9, n_c10, n_c11, n_c12, n_c14, n_c16, n_c18, n_c20, n_c24, n_c30, n_c31, n_c32, n_c36, n_c48, n_c57, n_c60, n_c63, n_c70, n_c75, n_c97, n_c100, n_c101, n_c104, n_c115, n_c116, n_c59, n_c150, n_c199, n_c200, n_c201, n_c216, n_c255, n_c256, n_c999, n_c1296, n_c4095, n_c6480, n_c100000, n_c1000, n_c65536, n_le, n_lt0, n_lt, n_eq, n_cl, n_add, n_sub, n_mul, n_div, n_rem, n_mo, n_in, n_nb0, n_nb1, n_fb0, n_fb1, n_vb0, n_vb1, hn, c1, c2, c4, v1, v3, hc, n_shl, n_or, e, ih2]
theorem s117 {r : Nat} (hn : I 63 2 = nI (sg 0 1)) (h4 : sg 0 1 ≤ 4) (hv : ∀ t, t < sg 0 1 → I 66 (2 + t) = nI (sg r (3 + t)) ∧ sg r (3 + t) < 10 ∧ I 65 (4 * t) = nI (sg 3 t) ∧ sg 3 t < 10) : Ev 117 [.ref 63] I L (am_PT h s) (am_S1 Lx) Q ↔ Q (some (.int (nI (r_st sg r)))) I L (am_PT h s) (am_S1 Lx) := by
  simp only [xe117, x117_0, x117_1, x117_2, x117_3, ↓reduceIte, true_and, and_true, if_true, if_false, ne_eq, not_false_eq_true, am_u_at, am_nb0, am_nb1, am_fb0, am_fb1, am_kc_i, am_kc_r, am_kc_l, am_kc_n, am_wsum_n, am_wsum_i, am_wsum_r, am_wsum_l, am_rs_s, am_rs_n, n_c0, n_c1, n_c2, n_c3, n_c4, n_c5, n_c6, n_c7, n_c8, n_c9, n_c10, n_c11, n_c12, n_c14, n_c16, n_c18, n_c20, n_c24, n_c30, n_c31, n_c32, n_c36, n_c48, n_c57, n_c60, n_c63, n_c70, n_c75, n_c97, n_c100, n_c101, n_c104, n_c115, n_c116, n_c59, n_c150, n_c199, n_c200, n_c201, n_c216, n_c255, n_c256, n_c999, n_c1296, n_c4095, n_c6480, n_c100000, n_c1000, n_c65536]
  exact l117 hn h4 hv (sg 0 1) 0 (by omega)
end BJ
