/-! what push does to what is held alike -/
def sgP (sg : am_G0) : am_G0 := fun r => if r = 8 then (fun k => if k = 0 then (if sg 8 0 < 10 then sg 8 0 + 1 else 10) else sg 8 k) else if 20 ≤ r ∧ r < 30 then (if sg 8 0 < 10 then (if r = 20 + sg 8 0 then sg 7 else sg r) else (if r = 29 then sg 7 else sg (r + 1))) else sg r
def sgS (sg : am_G0) (nw : Nat → Nat) : am_G0 := fun r => if r = 7 then nw else sgP sg r
theorem sgP_lo {sg : am_G0} {r : Nat} (h : r < 8) : sgP sg r = sg r := by unfold sgP; rw [if_neg (by omega), if_neg (by omega)]
theorem sgP_hi {sg : am_G0} {r : Nat} (h : r ≠ 8) (h2 : ¬ (20 ≤ r ∧ r < 30)) : sgP sg r = sg r := by unfold sgP; rw [if_neg h, if_neg h2]
theorem sgS_lo {sg : am_G0} {nw : Nat → Nat} {r : Nat} (h : r < 7) : sgS sg nw r = sg r := by unfold sgS; rw [if_neg (by omega), sgP_lo (by omega)]
theorem sgS_hi {sg : am_G0} {nw : Nat → Nat} {r : Nat} (h : r ≠ 8) (h2 : ¬ (20 ≤ r ∧ r < 30)) (h7 : r ≠ 7) : sgS sg nw r = sg r := by unfold sgS; rw [if_neg h7, sgP_hi h h2]
theorem sgS_7 {sg : am_G0} {nw : Nat → Nat} : sgS sg nw 7 = nw := if_pos rfl
theorem m_cp_lo {I : am_I} {a b c : Nat} (h1 : c ≠ a) (h2 : c ≠ a + 1) : m_cp I a b c = I c := by
  funext j; unfold m_cp; simp only [am_row_at, am_u_at, h1, h2, if_false]
theorem m_cp_a {I : am_I} {a b : Nat} (sg : am_G0) (r : Nat) (hn : sg 0 1 ≤ 4) (h : r_CM I sg b r) (h2 : b + 1 ≠ a) : r_CM (m_cp I a b) sg a r := by
  obtain ⟨h1, h3, h4, h5⟩ := h
  have e : ¬ a = a + 1 := by omega
  refine ⟨?_, ?_, ?_, fun t ht => ?_⟩
  · unfold m_cp; simp +decide only [am_row_at, am_u_at, e, if_false, if_true]; exact h1
  · unfold m_cp; simp +decide only [am_row_at, am_u_at, e, if_false, if_true]; exact h3
  · unfold m_cp; simp +decide only [am_row_at, am_u_at, e, if_false, if_true]; exact h4
  · have ht4 : t < 4 := by omega
    unfold m_cp; simp +decide only [am_row_at, am_u_at, if_true, ht4]; exact h5 t ht
theorem r_push {I I2 : am_I} {sg : am_G0} {nx : Nat} (rV : sg 0 1 ≤ 4) (rN : r_N I sg) (q1 : sg 8 0 ≤ 10) (hnx : nx < 10) (q6 : ∀ i, i < sg 8 0 → r_VM sg (20 + i) ∧ r_CM I sg (24 + 2 * ((nx + 10 - sg 8 0 + i) % 10)) (20 + i) ∧ r_MM I sg 67 (7 * i) (20 + i))
    (hC : ∀ a, 22 < a → a < 44 → I2 a = m_cp I (24 + 2 * nx) 20 a) (h22 : I2 22 1 = nI (if sg 8 0 < 10 then sg 8 0 + 1 else 10) ∧ I2 22 2 = nI ((nx + 1) % 10)) (h8 : I2 63 8 = nI (if sg 8 0 < 10 then sg 8 0 + 1 else 10))
    (h67 : ∀ j, j < 70 → I2 67 j = if sg 8 0 < 10 then (if 7 * sg 8 0 ≤ j ∧ j < 7 * sg 8 0 + 7 then I 66 (j - 7 * sg 8 0) else I 67 j) else (if j < 63 then I 67 (j + 7) else I 66 (j - 63))) : r_U I2 (sgP sg) := by
  obtain ⟨n1, n2, n3⟩ := rN
  have e8 : sgP sg 8 0 = if sg 8 0 < 10 then sg 8 0 + 1 else 10 := by unfold sgP; simp
  have e0 : sgP sg 0 = sg 0 := sgP_lo (by omega)
  have e3 : sgP sg 3 = sg 3 := sgP_lo (by omega)
  refine ⟨by rw [e8]; split <;> omega, by rw [e8]; exact h22.1, by rw [e8]; exact h8, (nx + 1) % 10, by omega, h22.2, fun i hi => ?_⟩
  rw [e8] at hi ⊢
  by_cases hk : sg 8 0 < 10
  · rw [if_pos hk] at hi ⊢
    by_cases hik : i = sg 8 0
    · have er : sgP sg (20 + i) = sg 7 := by unfold sgP; rw [if_neg (by omega), if_pos (by omega), if_pos hk, if_pos (by omega)]
      have ea : (nx + 1) % 10 + 10 - (sg 8 0 + 1) + i = (nx + 1) % 10 + 9 := by omega
      have eb : ((nx + 1) % 10 + 9) % 10 = nx := by omega
      rw [ea, eb]
      refine ⟨r_VM_c n1 er e0 e3, r_CM_c (m_cp_a sg 7 rV n2 (by omega)) (hC _ (by omega) (by omega)) (hC _ (by omega) (by omega)) er (by rw [e0]), ?_⟩
      subst hik
      obtain ⟨g1, g2, g3, g4⟩ := n3
      refine ⟨?_, ?_, ?_, fun t ht => ?_⟩
      · rw [h67 _ (by omega), if_pos hk, if_pos (by omega), er, ← g1]; congr 1; omega
      · rw [h67 _ (by omega), if_pos hk, if_pos (by omega), er, ← g2]; congr 1; omega
      · rw [h67 _ (by omega), if_pos hk, if_pos (by omega), er, ← g3]; congr 1; omega
      · rw [e0] at ht
        rw [h67 _ (by omega), if_pos hk, if_pos (by omega), er, ← g4 t ht]; congr 1; omega
    · have er : sgP sg (20 + i) = sg (20 + i) := by unfold sgP; rw [if_neg (by omega), if_pos (by omega), if_pos hk, if_neg (by omega)]
      have hi2 : i < sg 8 0 := by omega
      obtain ⟨k1, k2, k3⟩ := q6 i hi2
      have ea : ((nx + 1) % 10 + 10 - (sg 8 0 + 1) + i) % 10 = (nx + 10 - sg 8 0 + i) % 10 := by omega
      have ec : (nx + 10 - sg 8 0 + i) % 10 ≠ nx := by omega
      rw [ea]
      have hb : (nx + 10 - sg 8 0 + i) % 10 < 10 := Nat.mod_lt _ (by omega)
      refine ⟨r_VM_c k1 er e0 e3, r_CM_c k2 ((hC _ (by omega) (by omega)).trans (m_cp_lo (by omega) (by omega))) ((hC _ (by omega) (by omega)).trans (m_cp_lo (by omega) (by omega))) er (by rw [e0]), ?_⟩
      obtain ⟨g1, g2, g3, g4⟩ := k3
      refine ⟨?_, ?_, ?_, fun t ht => ?_⟩
      · rw [h67 _ (by omega), if_pos hk, if_neg (by omega), er, ← g1]
      · rw [h67 _ (by omega), if_pos hk, if_neg (by omega), er, ← g2]
      · rw [h67 _ (by omega), if_pos hk, if_neg (by omega), er, ← g3]
      · rw [e0] at ht
        rw [h67 _ (by omega), if_pos hk, if_neg (by omega), er, ← g4 t ht]
  · rw [if_neg hk] at hi ⊢
    have hk10 : sg 8 0 = 10 := by omega
    by_cases hik : i = 9
    · have er : sgP sg (20 + i) = sg 7 := by unfold sgP; rw [if_neg (by omega), if_pos (by omega), if_neg hk, if_pos (by omega)]
      have eb : ((nx + 1) % 10 + 10 - 10 + i) % 10 = nx := by omega
      rw [eb]
      refine ⟨r_VM_c n1 er e0 e3, r_CM_c (m_cp_a sg 7 rV n2 (by omega)) (hC _ (by omega) (by omega)) (hC _ (by omega) (by omega)) er (by rw [e0]), ?_⟩
      subst hik
      obtain ⟨g1, g2, g3, g4⟩ := n3
      refine ⟨?_, ?_, ?_, fun t ht => ?_⟩
      · rw [h67 _ (by omega), if_neg hk, if_neg (by omega), er, ← g1]
      · rw [h67 _ (by omega), if_neg hk, if_neg (by omega), er, ← g2]
      · rw [h67 _ (by omega), if_neg hk, if_neg (by omega), er, ← g3]
      · rw [e0] at ht
        rw [h67 _ (by omega), if_neg hk, if_neg (by omega), er, ← g4 t ht]; congr 1; omega
    · have er : sgP sg (20 + i) = sg (20 + (i + 1)) := by unfold sgP; rw [if_neg (by omega), if_pos (by omega), if_neg hk, if_neg (by omega)]; rfl
      obtain ⟨k1, k2, k3⟩ := q6 (i + 1) (by omega)
      have ea : ((nx + 1) % 10 + 10 - 10 + i) % 10 = (nx + 10 - sg 8 0 + (i + 1)) % 10 := by omega
      have ec : (nx + 10 - sg 8 0 + (i + 1)) % 10 ≠ nx := by omega
      rw [ea]
      have hb : (nx + 10 - sg 8 0 + (i + 1)) % 10 < 10 := Nat.mod_lt _ (by omega)
      refine ⟨r_VM_c k1 er e0 e3, r_CM_c k2 ((hC _ (by omega) (by omega)).trans (m_cp_lo (by omega) (by omega))) ((hC _ (by omega) (by omega)).trans (m_cp_lo (by omega) (by omega))) er (by rw [e0]), ?_⟩
      obtain ⟨g1, g2, g3, g4⟩ := k3
      refine ⟨?_, ?_, ?_, fun t ht => ?_⟩
      · rw [h67 _ (by omega), if_neg hk, if_pos (by omega), er, ← g1]; first | rfl | (congr 1; omega)
      · rw [h67 _ (by omega), if_neg hk, if_pos (by omega), er, ← g2]; first | rfl | (congr 1; omega)
      · rw [h67 _ (by omega), if_neg hk, if_pos (by omega), er, ← g3]; first | rfl | (congr 1; omega)
      · rw [e0] at ht
        rw [h67 _ (by omega), if_neg hk, if_pos (by omega), er, ← g4 t ht]; congr 1; omega
/-- behind goes, takes, leaves, encores -/
theorem r_done {I I2 : am_I} {L : am_L} {sg : am_G0} {h : Nat} (R : r_R I L sg h) (nw : Nat → Nat) (hfr : ∀ a, a ≠ 20 → a ≠ 21 → ¬ (22 ≤ a ∧ a < 44) → a ≠ 63 → a ≠ 66 → a ≠ 67 → I2 a = I a) (h63 : ∀ k, k ≠ 8 → I2 63 k = I 63 k) (hU : r_U I2 (sgP sg)) (hN : r_VM (sgS sg nw) 7 ∧ r_CM I2 (sgS sg nw) 20 7 ∧ r_MM I2 (sgS sg nw) 66 0 7) : r_R I2 L (sgS sg nw) h := by
  obtain ⟨rH, rN, rU, rK, rC, rT, rL, rW, rV⟩ := R
  refine ⟨r_H_c rH (fun a h1 h2 => hfr a (by omega) (by omega) (by omega) (by omega) (by omega) (by omega)) (fun k hk => h63 k (by omega)) (hfr 64 (by omega) (by omega) (by omega) (by omega) (by omega) (by omega)) (hfr 65 (by omega) (by omega) (by omega) (by omega) (by omega) (by omega)) (fun r hr => sgS_lo hr), hN, r_U_c hU (fun _ _ _ => rfl) rfl rfl ?_ (fun r h1 h2 => ?_) ?_ ?_,
    r_K_c rK (fun a ha => hfr a (by omega) (by omega) (by omega) (by omega) (by omega) (by omega)) (sgS_hi (by omega) (by omega) (by omega)) (sgS_hi (by omega) (by omega) (by omega)) (sgS_hi (by omega) (by omega) (by omega)) (sgS_lo (by omega)) (sgS_lo (by omega)),
    r_C_c rC (fun a h1 h2 => hfr a (by omega) (by omega) (by omega) (by omega) (by omega) (by omega)) ⟨h63 11 (by omega), h63 13 (by omega)⟩ (hfr 70 (by omega) (by omega) (by omega) (by omega) (by omega) (by omega)) (hfr 71 (by omega) (by omega) (by omega) (by omega) (by omega) (by omega)) (fun r h1 h2 => sgS_hi (by omega) (by omega) (by omega)) (sgS_lo (by omega)),
    r_T_c rT (by rw [hfr 4 (by omega) (by omega) (by omega) (by omega) (by omega) (by omega)]) (hfr 5 (by omega) (by omega) (by omega) (by omega) (by omega) (by omega)) (h63 17 (by omega)) (hfr 72 (by omega) (by omega) (by omega) (by omega) (by omega) (by omega)) (sgS_hi (by omega) (by omega) (by omega)) (sgS_hi (by omega) (by omega) (by omega)), rL,
    r_W_c rW (hfr 2 (by omega) (by omega) (by omega) (by omega) (by omega) (by omega)) (by rw [hfr 51 (by omega) (by omega) (by omega) (by omega) (by omega) (by omega)]) rfl (fun r hr => sgS_lo hr),
    r_V_c rV ⟨h63 31 (by omega), h63 32 (by omega)⟩ (hfr 75 (by omega) (by omega) (by omega) (by omega) (by omega) (by omega)) (fun r hr => sgS_lo hr)⟩
  · unfold sgS; rw [if_neg (by omega)]
  · unfold sgS; rw [if_neg (by omega)]
  · rw [sgS_lo (by omega), sgP_lo (by omega)]
  · rw [sgS_lo (by omega), sgP_lo (by omega)]
/-- an int argument: below, above, or one of n -/
theorem r_ix (x : Int32) (n : Nat) (hn : n < 2147483648) : (x < nI 0 ∧ ¬ nI 0 ≤ x) ∨ (nI n ≤ x ∧ ¬ x < nI n ∧ ¬ x < nI 0 ∧ nI 0 ≤ x) ∨ ∃ j, j < n ∧ x = nI j := by
  have h0 : (nI 0).toInt = 0 := nI_toInt (by omega)
  have hN : (nI n).toInt = n := nI_toInt (by omega)
  rcases pk_ix x (n := n) (by omega) with h | h | h
  · left
    simp only [Int32.lt_iff_toInt_lt, Int32.le_iff_toInt_le, Int32.toInt_zero, h0] at h ⊢
    omega
  · right; left
    simp only [Int32.lt_iff_toInt_lt, Int32.le_iff_toInt_le, Int32.toInt_zero, h0, hN] at h ⊢
    omega
  · exact Or.inr (Or.inr h)
theorem n_lm {x : Int32} {n : Nat} (hn : n < 2147483648) : (x ≤ nI n - nI 1) = (x < nI n) := by
  apply propext
  have hN : (nI n).toInt = n := nI_toInt (by omega)
  cases n with
  | zero =>
    have e : nI 0 - nI 1 = -1 := by decide
    rw [e]
    have e1 : (-1 : Int32).toInt = -1 := by decide
    simp only [Int32.lt_iff_toInt_lt, Int32.le_iff_toInt_le, e1, hN]
    omega
  | succ n =>
    rw [show nI (n + 1) - nI 1 = nI n from nI_pred n]
    have hM : (nI n).toInt = n := nI_toInt (by omega)
    simp only [Int32.lt_iff_toInt_lt, Int32.le_iff_toInt_le, hM, hN]
    omega
