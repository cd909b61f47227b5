/-! back: what may be done next -/
theorem v_now_h6e {sg : am_G0} (hV : r_VH sg) (hN : r_VM sg 7) : r_h6 (w_s6 sg) 4 = r_held sg 7 (sg 0 1) := by
  have v1 := hV.2.1
  have v0 := hV.1
  have e : r_sum (fun t => if r_d6 (w_s6 sg) t = 4 then 1 else 0) (sg 0 1 + (4 - sg 0 1)) = r_sum (fun t => if r_d6 (w_s6 sg) t = 4 then 1 else 0) (sg 0 1) := r_sum_z (4 - sg 0 1) (fun t a b => by
    show (if r_d6 (w_s6 sg) t = 4 then 1 else 0) = 0
    rw [v_d6u hV hN (by omega) (fun q => by omega)]; rfl)
  rw [show sg 0 1 + (4 - sg 0 1) = 4 by omega] at e
  rw [r_h6_sum, e, v_held]
  exact r_sum_c (f := fun t => if r_d6 (w_s6 sg) t = 4 then 1 else 0) (g := fun t => if sg 7 (3 + t) = 4 then 1 else 0) (sg 0 1) (fun t ht => by
    show (if r_d6 (w_s6 sg) t = 4 then 1 else 0) = if sg 7 (3 + t) = 4 then 1 else 0
    by_cases z : (sg 7 2).testBit t = true
    · rw [v_d6r hV hN ht z]
    · have p := (hN.2.2.2.1 t ht).2.1 (by simpa using z)
      have o := (hV.2.2.2.2.2 t ht).1
      rw [v_d6u hV hN (by omega) (fun q => z q.2), p, if_neg (by omega), if_neg (by omega)])
/-- no way of no minutes brings a thing back -/
theorem b_zero {sg : am_G0} {n : Nat} (hV : r_VH sg) : ∀ k s c, r_P1 sg n k s c → c = 0 → ∀ t, t < 4 → r_d6 s t = sg 3 t ∨ r_d6 s t = 5
  | 0, s, c, h, _, t, ht => by
    obtain ⟨⟨r, a', h1, h2, h3, h4⟩, -⟩ := h
    have v0 := hV.1
    have v1 := hV.2.1
    have dl : ∀ t, t < 4 → (if r.testBit t = true then sg 3 t else 5) < 6 := by
      intro t ht
      split
      · next hb =>
        have lt : t < sg 0 1 := by
          apply Nat.lt_of_not_le
          intro q
          rw [v_lt_bit h1 q] at hb
          exact absurd hb (by decide)
        have := (hV.2.2.2.2.2 t lt).1
        omega
      · omega
    obtain ⟨e1, e2⟩ := d6_sum dl a'
    rw [h4, r_g6_sum, e2 t ht]
    by_cases z : r.testBit t = true
    · rw [if_pos z]; exact Or.inl rfl
    · rw [if_neg z]; exact Or.inr rfl
  | k + 1, s, c, h, hc, t, ht => by
    obtain ⟨s', w, c', ⟨h0, h1⟩, h2, h3⟩ := h
    have ih := b_zero hV k s' c' h2 (by omega) t ht
    rcases h1 with ⟨q1, q2, q3⟩ | ⟨_, _, q, _⟩ | ⟨_, _, q, _⟩
    · rw [d6_mv q1 t ht]; exact ih
    · omega
    · omega
theorem b_home {sg : am_G0} (hV : r_VH sg) (hN : r_VM sg 7) {v : Nat} (hv : r_least (fun c => c < 256 ∧ ∃ k, r_P1 sg 0 k (w_s6 sg) c) 4095 v) : v = 0 ↔ ∀ t, t < sg 0 1 → sg 7 (3 + t) = sg 3 t := by
  have v1 := hV.2.1
  have v0 := hV.1
  obtain ⟨b1, ⟨kk, b2⟩, b3⟩ := v_one hV (Nat.zero_le _) (v_now_ok hV hN) (v_now_h6 hV hN) hv
  constructor
  · intro h0 t ht
    by_cases z : (sg 7 2).testBit t = true
    · have q := b_zero hV kk _ v b2 h0 t (by omega)
      rw [v_d6r hV hN ht z] at q
      have := (hN.2.2.2.1 t ht).1
      omega
    · exact (hN.2.2.2.1 t ht).2.1 (by simpa using z)
  · intro hh
    have := b3 0 0 ⟨⟨sg 7 2, sg 7 1, hN.2.2.1, Nat.zero_le _, by have := hN.2.1; omega, by
      unfold w_s6
      rw [r_g6_sum]
      congr 1
      refine w_sum_c 4 fun t ht => ?_
      unfold w_dg
      by_cases z : (sg 7 2).testBit t = true
      · have lt : t < sg 0 1 := by
          apply Nat.lt_of_not_le
          intro q
          rw [v_lt_bit hN.2.2.1 q] at z
          exact absurd z (by decide)
        rw [if_pos ⟨lt, z⟩, if_pos z]; exact hh t lt
      · rw [if_neg (fun q => z q.2), if_neg z]⟩, rfl⟩
    omega
theorem b_stray {sg : am_G0} : r_st sg 7 = 0 ↔ ∀ t, t < sg 0 1 → sg 7 (3 + t) = sg 3 t := by
  have hf : ∀ t, (fun t => if sg 7 (3 + t) = sg 3 t then 0 else 1) t ≤ 1 := fun t => by show (if _ then 0 else 1) ≤ 1; split <;> omega
  have tb := r_bt_tb hf
  constructor
  · intro h0 t ht
    have e := tb t (sg 0 1)
    unfold r_st at h0
    rw [h0, Nat.zero_testBit] at e
    by_cases z : sg 7 (3 + t) = sg 3 t
    · exact z
    · simp [ht, z] at e
  · intro hh
    unfold r_st
    apply Nat.eq_of_testBit_eq
    intro t
    rw [tb t (sg 0 1), Nat.zero_testBit]
    by_cases z : t < sg 0 1
    · simp [hh t z]
    · simp [z]
/-- walked, and the model's case -/
theorem b_relw {sg : am_G0} (hV : r_VH sg) {s k i : Nat} (hr : v_rel sg s 0 k) (hi : i < sg 0 0) : v_rel sg (i * 1296 + s % 1296) 0 (k - s / 1296 + i) := by
  have v0 := hV.1
  have v1 := hV.2.1
  obtain ⟨r1, r2, r3⟩ := hr
  have e5 : (k - s / 1296 + i) / 5 = k / 5 := by omega
  obtain ⟨m1, m2⟩ := d5_mv (n := sg 0 1) v1 e5
  refine ⟨by omega, by rw [m1]; exact r2, fun t ht => ?_⟩
  rw [m2 t ht, r3 t ht, ← d6_mv (s := s) (s' := i * 1296 + s % 1296) (by omega) t (by omega)]
theorem w_d5 {st t d : Nat} (h : r_d5 st t = d) : d * 5 ^ (1 + t) ≤ st := by
  unfold r_d5 at h
  have h1 : d ≤ st / 5 ^ (1 + t) := by
    rw [← h]; exact Nat.mod_le _ _
  have := Nat.div_mul_le_self st (5 ^ (1 + t))
  exact Nat.le_trans (Nat.mul_le_mul_right _ h1) this
/-- a thing's place changed, for both -/
theorem b_rels {sg : am_G0} (hV : r_VH sg) {s s' k k' t p q : Nat} (hr : v_rel sg s 0 k) (ht : t < sg 0 1) (hp : r_d5 k t = p) (hq : q < 5) (he : k' + p * 5 ^ (1 + t) = k + q * 5 ^ (1 + t)) (h1 : s' / 1296 = s / 1296) (h2 : r_d6 s' t = q) (h3 : ∀ i, i < 4 → ¬ i = t → r_d6 s' i = r_d6 s i) : v_rel sg s' 0 k' := by
  have v0 := hV.1
  have v1 := hV.2.1
  obtain ⟨r1, r2, r3⟩ := hr
  obtain ⟨d1, d2, d3, d4⟩ := d5_set v1 ht hp hq he
  refine ⟨by omega, by rw [d2]; exact r2, fun i hi => ?_⟩
  by_cases z : i = t
  · rw [z, d3, h2, if_neg (by omega)]
  · rw [d4 i hi z, h3 i (by omega) z]; exact r3 i hi
theorem b_same {s s' : Nat} (h1 : s / 1296 = s' / 1296) (h2 : ∀ i, i < 4 → r_d6 s i = r_d6 s' i) : s = s' := by
  rw [d6_of s, d6_of s', h1, w_sum_c 4 h2]
def b_sw (sg : am_G0) (i : Nat) : Nat := i * 1296 + w_s6 sg % 1296
def b_st (sg : am_G0) (t : Nat) : Nat := w_s6 sg + 4 * 6 ^ t - w_dg sg t * 6 ^ t
def b_sl (sg : am_G0) (t : Nat) : Nat := w_s6 sg + sg 7 1 * 6 ^ t - 4 * 6 ^ t
def b_kw (sg : am_G0) (i : Nat) : Nat := f_s5 sg - sg 7 1 + i
def b_kt (sg : am_G0) (t : Nat) : Nat := f_s5 sg + (4 - sg 7 1) * 5 ^ (1 + t)
def b_kl (sg : am_G0) (t : Nat) : Nat := f_s5 sg - (4 - sg 7 1) * 5 ^ (1 + t)
def b_ok (sg : am_G0) (s k : Nat) : Prop := v_ok sg s ∧ r_h6 s 4 ≤ sg 0 2 ∧ v_rel sg s 0 k
theorem b_eq {sg : am_G0} {F : Nat → Nat → Nat} {M : Nat → Nat} {I : am_I} (hV : r_VH sg) {s k : Nat} (ho : b_ok sg s k) (hF : ∀ x, x < 6480 → r_least (fun c => c < 256 ∧ ∃ k, r_P1 sg 0 k x c) 4095 (F x 0)) (hM : ∀ k, k < 5 ^ (1 + sg 0 1) * 2 ^ sg 0 1 → I 75 k = nI (M k) ∧ M k ≤ 100000 ∧ r_least (fun c => c < 100000 ∧ ∃ j, r_P2 sg (5 ^ (1 + sg 0 1)) j k c) 100000 (M k)) : k < 50000 ∧ I 75 k = nI (F s 0) := by
  obtain ⟨h1, h2, h3⟩ := ho
  have hk := v_fin h3.2.1 (Nat.two_pow_pos _)
  obtain ⟨m1, m2, m3⟩ := hM k hk
  have e := v_zero hV h1 h2 h3 (hF s h1.1) m3
  have := f_all (sg 0 1) hV.2.1
  exact ⟨by omega, by rw [m1, e]⟩
theorem b_lt {sg : am_G0} {F : Nat → Nat → Nat} (hV : r_VH sg) {s k : Nat} (ho : b_ok sg s k) (hF : ∀ x, x < 6480 → r_least (fun c => c < 256 ∧ ∃ k, r_P1 sg 0 k x c) 4095 (F x 0)) : s < 6480 ∧ F s 0 < 256 :=
  ⟨ho.1.1, (v_one hV (Nat.zero_le _) ho.1 ho.2.1 (hF s ho.1.1)).1⟩
theorem b_now {sg : am_G0} (hV : r_VH sg) (hN : r_VM sg 7) : b_ok sg (w_s6 sg) (f_s5 sg) := by
  have e := v_now_rel hV hN 0
  rw [Nat.mul_zero, Nat.add_zero] at e
  exact ⟨v_now_ok hV hN, v_now_h6 hV hN, e⟩
theorem b_walk {sg : am_G0} (hV : r_VH sg) (hN : r_VM sg 7) {i : Nat} (hi : i < sg 0 0) : b_ok sg (b_sw sg i) (b_kw sg i) := by
  obtain ⟨a1, a2, a3⟩ := b_now hV hN
  obtain ⟨w1, w2, w3, w4⟩ := v_walk hV a1 hi
  refine ⟨w1, ?_, ?_⟩
  · show r_h6 (i * 1296 + w_s6 sg % 1296) 4 ≤ _
    rw [r_h6_c w3]; exact a2
  · have e := b_relw hV a3 hi
    rw [(v_s6 hV hN).1] at e
    exact e
theorem b_take {sg : am_G0} (hV : r_VH sg) (hN : r_VM sg 7) {t : Nat} (ht : t < sg 0 1) (h4 : ¬ sg 7 1 = 4) (hw : sg 7 (3 + t) = sg 7 1) (hh : r_held sg 7 (sg 0 1) < sg 0 2) : b_ok sg (b_st sg t) (b_kt sg t) := by
  obtain ⟨a1, a2, a3⟩ := b_now hV hN
  have v0 := hV.1
  have v1 := hV.2.1
  have t4 : t < 4 := by omega
  obtain ⟨s1, s2⟩ := v_s6 hV hN
  have hat : sg 7 1 < sg 0 0 := by have := hN.2.1; omega
  have hd : r_d6 (w_s6 sg) t = sg 7 1 ∨ (r_d6 (w_s6 sg) t = 5 ∧ sg 3 t = sg 7 1) := by
    by_cases z : (sg 7 2).testBit t = true
    · exact Or.inl ((v_d6r hV hN ht z).trans hw)
    · exact Or.inr ⟨v_d6u hV hN t4 (fun q => z q.2), ((hN.2.2.2.1 t ht).2.1 (by simpa using z)).symm.trans hw⟩
  have wy := w_d6 (st := w_s6 sg) (t := t) (s2 t t4)
  obtain ⟨x1, x2, x3⟩ := d6_set (s := w_s6 sg) (s' := b_st sg t) (q := 4) t4 (s2 t t4) (by omega) (by unfold b_st; omega)
  obtain ⟨s', b1, b2, b3, b4, -⟩ := v_take hV a1 ht (by rw [s1]; exact hat) (by rw [s1]; exact hd)
  have es : s' = b_st sg t := b_same (b2.trans x1.symm) (fun i hi => by
    by_cases z : i = t
    · rw [z, b3, x2]
    · rw [b4 i hi z, x3 i hi z])
  rw [es] at b1
  have n4 : ¬ r_d6 (w_s6 sg) t = 4 := by omega
  have up := r_h6_up t4 n4 x2 x3
  rw [v_now_h6e hV hN] at up
  have hp : r_d5 (f_s5 sg) t = sg 7 1 := by
    rw [a3.2.2 t ht]
    rcases hd with p | ⟨p, p2⟩
    · rw [p, if_neg (by omega)]
    · rw [p, if_pos rfl, p2]
  have e4 : (4 - sg 7 1) * 5 ^ (1 + t) + sg 7 1 * 5 ^ (1 + t) = 4 * 5 ^ (1 + t) := by
    rw [← Nat.add_mul]; congr 1; omega
  exact ⟨b1, by omega, b_rels hV a3 ht hp (by omega) (by unfold b_kt; omega) x1 x2 x3⟩
theorem b_leave {sg : am_G0} (hV : r_VH sg) (hN : r_VM sg 7) {t : Nat} (ht : t < sg 0 1) (h4 : ¬ sg 7 1 = 4) (hw : sg 7 (3 + t) = 4) : b_ok sg (b_sl sg t) (b_kl sg t) ∧ 4 * 6 ^ t ≤ w_s6 sg ∧ (4 - sg 7 1) * 5 ^ (1 + t) ≤ f_s5 sg := by
  obtain ⟨a1, a2, a3⟩ := b_now hV hN
  have v0 := hV.1
  have v1 := hV.2.1
  have t4 : t < 4 := by omega
  obtain ⟨s1, s2⟩ := v_s6 hV hN
  have hat : sg 7 1 < sg 0 0 := by have := hN.2.1; omega
  have hd : r_d6 (w_s6 sg) t = 4 := by
    by_cases z : (sg 7 2).testBit t = true
    · exact (v_d6r hV hN ht z).trans hw
    · have q := (hN.2.2.2.1 t ht).2.1 (by simpa using z)
      have := (hV.2.2.2.2.2 t ht).1
      omega
  have wy := w_d6 hd
  obtain ⟨x1, x2, x3⟩ := d6_set (s := w_s6 sg) (s' := b_sl sg t) (q := sg 7 1) t4 hd (by omega) (by unfold b_sl; omega)
  obtain ⟨s', b1, b2, b3, b4, b5, -⟩ := v_leave hV a1 ht (by rw [s1]; exact hat) hd a2
  have es : s' = b_sl sg t := b_same (b2.trans x1.symm) (fun i hi => by
    by_cases z : i = t
    · rw [z, b3, x2, s1]
    · rw [b4 i hi z, x3 i hi z])
  rw [es] at b1 b5
  have hp : r_d5 (f_s5 sg) t = 4 := by
    rw [a3.2.2 t ht, hd, if_neg (by omega)]
  have wz := w_d5 hp
  have e4 : (4 - sg 7 1) * 5 ^ (1 + t) + sg 7 1 * 5 ^ (1 + t) = 4 * 5 ^ (1 + t) := by
    rw [← Nat.add_mul]; congr 1; omega
  exact ⟨⟨b1, by omega, b_rels hV a3 ht hp (by omega) (by unfold b_kl; omega) x1 x2 x3⟩, wy, by omega⟩
