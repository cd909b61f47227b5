/-! longs, and how many bits a long has -/
theorem l_and (a b : Nat) : lN a &&& lN b = lN (a &&& b) := by
  apply Int64.toBitVec_inj.mp
  show BitVec.ofNat 64 a &&& BitVec.ofNat 64 b = BitVec.ofNat 64 (a &&& b)
  exact (BitVec.ofNat_and).symm
theorem l_or (a b : Nat) : lN a ||| lN b = lN (a ||| b) := by
  apply Int64.toBitVec_inj.mp
  show BitVec.ofNat 64 a ||| BitVec.ofNat 64 b = BitVec.ofNat 64 (a ||| b)
  exact (BitVec.ofNat_or).symm
theorem l_k63 : ∀ k, k < 64 → (nI k).toInt64.toUInt64 &&& Int64.toUInt64 63 = UInt64.ofNat k := by decide
theorem l_k64 : ∀ k, k < 64 → ((nI k).toInt64 &&& 63).toBitVec.smod 64 = BitVec.ofNat 64 k := by decide
theorem l_shr {n k : Nat} (hn : n < 18446744073709551616) (hk : k < 64) : ((lN n).toUInt64 >>> ((nI k).toInt64.toUInt64 &&& Int64.toUInt64 63)).toInt64 = lN (n / 2 ^ k) := by
  rw [l_k63 k hk]
  show (UInt64.ofNat n >>> UInt64.ofNat k).toInt64 = (UInt64.ofNat (n / 2 ^ k)).toInt64
  refine congrArg UInt64.toInt64 ?_
  apply UInt64.toNat_inj.mp
  have hs : UInt64.size = 18446744073709551616 := rfl
  rw [UInt64.toNat_shiftRight, UInt64.toNat_ofNat_of_lt' hn, UInt64.toNat_ofNat_of_lt' (by omega), UInt64.toNat_ofNat_of_lt' (by have := Nat.div_le_self n (2 ^ k); omega), Nat.mod_eq_of_lt hk, Nat.shiftRight_eq_div_pow]
theorem l_shl {n k : Nat} (hk : k < 64) : lN n <<< ((nI k).toInt64 &&& 63) = lN (n * 2 ^ k) := by
  apply Int64.toBitVec_inj.mp
  show (BitVec.ofNat 64 n) <<< (((nI k).toInt64 &&& 63).toBitVec.smod 64) = BitVec.ofNat 64 (n * 2 ^ k)
  rw [l_k64 k hk]
  apply BitVec.eq_of_toNat_eq
  show (BitVec.ofNat 64 n <<< (BitVec.ofNat 64 k).toNat).toNat = _
  rw [BitVec.toNat_shiftLeft, BitVec.toNat_ofNat, BitVec.toNat_ofNat, BitVec.toNat_ofNat, Nat.mod_eq_of_lt (a := k) (by omega), Nat.shiftLeft_eq, Nat.mod_mul_mod]
def k_p1 (x : Nat) : Nat := x - ((x / 2 ^ 1) &&& 6148914691236517205)
def k_p2 (y : Nat) : Nat := (y &&& 3689348814741910323) + ((y / 2 ^ 2) &&& 3689348814741910323)
def k_p3 (y : Nat) : Nat := (y + y / 2 ^ 4) &&& 1085102592571150095
def k_p4 (y : Nat) : Nat := y + y / 2 ^ 8
def k_p5 (y : Nat) : Nat := y + y / 2 ^ 16
def k_p6 (y : Nat) : Nat := y + y / 2 ^ 32
def k_pn (x : Nat) : Nat := k_p6 (k_p5 (k_p4 (k_p3 (k_p2 (k_p1 x))))) &&& 127
section LG
variable {I : am_I} {L : am_L} {P : am_P} {S : am_S} {Q : Option Value → am_I → am_L → am_P → am_S → Prop}
theorem s157 {x : Nat} (hx : x < 68719476736) : Ev 157 [.long (lN x)] I L P S Q ↔ Q (some (.int (nI (k_pn x)))) I L P S := by
  have a1 : (x / 2 ^ 1) &&& 6148914691236517205 ≤ x := Nat.le_trans Nat.and_le_left (Nat.div_le_self _ _)
  have b1 : k_p1 x < 68719476736 := by unfold k_p1; omega
  have b2 : k_p2 (k_p1 x) < 200000000000 := by
    have h1 : k_p1 x &&& 3689348814741910323 ≤ k_p1 x := Nat.and_le_left
    have h2 : (k_p1 x / 2 ^ 2) &&& 3689348814741910323 ≤ k_p1 x / 2 ^ 2 := Nat.and_le_left
    have h3 := Nat.div_le_self (k_p1 x) (2 ^ 2)
    unfold k_p2; omega
  have b3 : k_p3 (k_p2 (k_p1 x)) < 2000000000000000000 := by
    have h1 : (k_p2 (k_p1 x) + k_p2 (k_p1 x) / 2 ^ 4) &&& 1085102592571150095 ≤ 1085102592571150095 := Nat.and_le_right
    unfold k_p3; omega
  have b4 : k_p4 (k_p3 (k_p2 (k_p1 x))) < 3000000000000000000 := by unfold k_p4; omega
  have b5 : k_p5 (k_p4 (k_p3 (k_p2 (k_p1 x)))) < 4000000000000000000 := by unfold k_p5; omega
  have c1 : (6148914691236517205 : Int64) = lN 6148914691236517205 := rfl
  have c2 : (3689348814741910323 : Int64) = lN 3689348814741910323 := rfl
  have c3 : (1085102592571150095 : Int64) = lN 1085102592571150095 := rfl
  have c4 : (127 : Int32) = nI 127 := rfl
  have e1 : lN x - lN (x / 2 ^ 1 &&& 6148914691236517205) = lN (k_p1 x) := lN_sub a1
  have d1 : ((lN x).toUInt64 >>> ((nI 1).toInt64.toUInt64 &&& Int64.toUInt64 63)).toInt64 = lN (x / 2 ^ 1) := l_shr (by omega) (by omega)
  have d2 : ((lN (k_p1 x)).toUInt64 >>> ((nI 2).toInt64.toUInt64 &&& Int64.toUInt64 63)).toInt64 = lN (k_p1 x / 2 ^ 2) := l_shr (by omega) (by omega)
  have d3 : ((lN (k_p2 (k_p1 x))).toUInt64 >>> ((nI 4).toInt64.toUInt64 &&& Int64.toUInt64 63)).toInt64 = lN (k_p2 (k_p1 x) / 2 ^ 4) := l_shr (by omega) (by omega)
  have d4 : ((lN (k_p3 (k_p2 (k_p1 x)))).toUInt64 >>> ((nI 8).toInt64.toUInt64 &&& Int64.toUInt64 63)).toInt64 = lN (k_p3 (k_p2 (k_p1 x)) / 2 ^ 8) := l_shr (by omega) (by omega)
  have d5 : ((lN (k_p4 (k_p3 (k_p2 (k_p1 x))))).toUInt64 >>> ((nI 16).toInt64.toUInt64 &&& Int64.toUInt64 63)).toInt64 = lN (k_p4 (k_p3 (k_p2 (k_p1 x))) / 2 ^ 16) := l_shr (by omega) (by omega)
  have d6 : ((lN (k_p5 (k_p4 (k_p3 (k_p2 (k_p1 x)))))).toUInt64 >>> ((nI 32).toInt64.toUInt64 &&& Int64.toUInt64 63)).toInt64 = lN (k_p5 (k_p4 (k_p3 (k_p2 (k_p1 x)))) / 2 ^ 32) := l_shr (by omega) (by omega)
  have f2 : ∀ y, (y &&& 3689348814741910323) + (y / 2 ^ 2 &&& 3689348814741910323) = k_p2 y := fun _ => rfl
  have f3 : ∀ y, (y + y / 2 ^ 4) &&& 1085102592571150095 = k_p3 y := fun _ => rfl
  have f4 : ∀ y, y + y / 2 ^ 8 = k_p4 y := fun _ => rfl
  have f5 : ∀ y, y + y / 2 ^ 16 = k_p5 y := fun _ => rfl
  have f6 : ∀ y, y + y / 2 ^ 32 = k_p6 y := fun _ => rfl
  have f7 : ∀ y, k_p6 (k_p5 (k_p4 (k_p3 (k_p2 (k_p1 y))))) &&& 127 = k_pn y := fun _ => rfl
  simp only [xe157, x157_0, x157_1, x157_2, x157_3, x157_4, x157_7, x157_8, x157_9, x157_10, x157_11, x157_14, x157_15, x157_16, x157_17, x157_18, x157_21, x157_22, x157_23, x157_24, x157_25, x157_26, x157_27, x157_28, x157_29, x157_32, x157_33, x157_34, x157_35, x157_36, x157_38, x157_39, x157_40, x157_41, x157_42, x157_43, x157_45, x157_46, x157_47, x157_48, x157_49, x157_50, x157_52, x157_53, x157_54, x157_55, x157_56, x157_57, x157_59, x157_60, ↓reduceIte, true_and, and_true, if_true, if_false, ne_eq, not_false_eq_true, am_u_at, am_nb0, am_nb1, am_fb0, am_fb1, am_kc_i, am_kc_r, am_kc_l, am_kc_n, am_wsum_n, am_wsum_i, am_wsum_r, am_wsum_l, am_rs_s, am_rs_n, n_c0, n_c1, n_c2, n_c3, n_c4, n_c5, n_c6, n_c7, n_c8, n_c9, n_c10, n_c11, n_c12, n_c14, n_c16, n_c18, n_c20, n_c24, n_c30, n_c31, n_c32, n_c36, n_c48, n_c57, n_c60, n_c63, n_c70, n_c75, n_c97, n_c100, n_c101, n_c104, n_c115, n_c116, n_c59, n_c150, n_c199, n_c200, n_c201, n_c216, n_c255, n_c256, n_c999, n_c1296, n_c4095, n_c6480, n_c100000, n_c1000, n_c65536, c1, c2, c3, c4, d1, l_and, e1, d2, lN_add, f2, d3, f3, d4, f4, d5, f5, d6, f6, lN_i, n_and, f7]
end LG
def k_cd (i : Nat) : Nat := [0, 2, 4, 8, 16, 32, 256, 512, 1024, 2048, 32768, 65536, 131072, 4194304, 8388608, 536870912].getD i 0
def k_ix (a b : Nat) : Nat := if a < b then a * (11 - a) / 2 + (b - a) else b * (11 - b) / 2 + (a - b)
theorem k_ix_1 : ∀ a, a < 6 → ∀ b, b < 6 → a ≠ b → 0 < k_ix a b ∧ k_ix a b < 16 ∧ k_cd (k_ix a b) = 1 * 2 ^ ((if b < a then b else a) * 6 + (if a < b then b else a)) := by decide +kernel
def k_ixb (a b c d : Nat) : Bool := a == b || (c == d || ((k_ix a b == k_ix c d) == ((a == c && b == d) || (a == d && b == c))))
theorem k_ix_2 : ∀ a, a < 6 → ∀ b, b < 6 → ∀ c, c < 6 → ∀ d, d < 6 → k_ixb a b c d = true := by decide +kernel
theorem k_ix_3 {a b c d : Nat} (h : k_ixb a b c d = true) (hab : a ≠ b) (hcd : c ≠ d) : k_ix a b = k_ix c d ↔ (a = c ∧ b = d) ∨ (a = d ∧ b = c) := by
  unfold k_ixb at h
  rw [Bool.or_eq_true, Bool.or_eq_true, beq_iff_eq, beq_iff_eq, beq_iff_eq, Bool.eq_iff_iff, beq_iff_eq, Bool.or_eq_true, Bool.and_eq_true, Bool.and_eq_true, beq_iff_eq, beq_iff_eq, beq_iff_eq, beq_iff_eq] at h
  exact (h.resolve_left hab).resolve_left hcd
theorem k_ix_ok : ∀ a, a < 6 → ∀ b, b < 6 → a ≠ b → (0 < k_ix a b ∧ k_ix a b < 16 ∧ k_cd (k_ix a b) = 1 * 2 ^ ((if b < a then b else a) * 6 + (if a < b then b else a))) ∧ ∀ c, c < 6 → ∀ d, d < 6 → c ≠ d → (k_ix a b = k_ix c d ↔ (a = c ∧ b = d) ∨ (a = d ∧ b = c)) := fun a ha b hb hab => ⟨k_ix_1 a ha b hb hab, fun c hc d hd hcd => k_ix_3 (k_ix_2 a ha b hb c hc d hd) hab hcd⟩
theorem k_cd_lt : ∀ i, i < 16 → k_cd i < 2 ^ 30 := by decide
set_option maxRecDepth 100000 in
theorem k_fin : ∀ i, i < 16 → ∀ j, j < 16 → ∀ k, k < 16 → ∀ l, l < 16 → k_pn (((k_cd i ||| k_cd j) ||| k_cd k) ||| k_cd l) = (if i = 0 then 0 else 1) + (if j = 0 ∨ j = i then 0 else 1) + (if k = 0 ∨ k = i ∨ k = j then 0 else 1) + (if l = 0 ∨ l = i ∨ l = j ∨ l = k then 0 else 1) := by decide +kernel
