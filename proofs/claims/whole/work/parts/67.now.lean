/-! this moment, for the class and for the model -/
theorem v_held (sg : am_G0) (r : Nat) : ∀ n, r_held sg r n = r_sum (fun t => if sg r (3 + t) = 4 then 1 else 0) n
  | 0 => rfl
  | n + 1 => by simp only [r_held, r_sum, v_held sg r n]
theorem v_s6 {sg : am_G0} (hV : r_VH sg) (hN : r_VM sg 7) : w_s6 sg / 1296 = sg 7 1 ∧ ∀ t, t < 4 → r_d6 (w_s6 sg) t = w_dg sg t := d6_sum (fun t _ => w_dg_lt hV hN t) (sg 7 1)
theorem v_d6r {sg : am_G0} (hV : r_VH sg) (hN : r_VM sg 7) {t : Nat} (ht : t < sg 0 1) (hr : (sg 7 2).testBit t = true) : r_d6 (w_s6 sg) t = sg 7 (3 + t) := by
  have := hV.2.1
  rw [(v_s6 hV hN).2 t (by omega)]; unfold w_dg; rw [if_pos ⟨ht, hr⟩]
theorem v_d6u {sg : am_G0} (hV : r_VH sg) (hN : r_VM sg 7) {t : Nat} (ht : t < 4) (hr : ¬ (t < sg 0 1 ∧ (sg 7 2).testBit t = true)) : r_d6 (w_s6 sg) t = 5 := by
  rw [(v_s6 hV hN).2 t ht]; unfold w_dg; rw [if_neg hr]
theorem v_now_ok {sg : am_G0} (hV : r_VH sg) (hN : r_VM sg 7) : v_ok sg (w_s6 sg) := by
  refine ⟨w_s6_lt hV hN, by rw [(v_s6 hV hN).1]; exact hN.2.1, fun t ht => ?_, fun t ht h4 => v_d6u hV hN h4 (fun q => by omega)⟩
  have := hV.2.1
  by_cases z : (sg 7 2).testBit t = true
  · rw [v_d6r hV hN ht z]
    rcases (hN.2.2.2.1 t ht).1 with p | p
    · exact Or.inl p
    · exact Or.inr (Or.inl p)
  · exact Or.inr (Or.inr (v_d6u hV hN (by omega) (fun q => z q.2)))
theorem v_now_h6 {sg : am_G0} (hV : r_VH sg) (hN : r_VM sg 7) : r_h6 (w_s6 sg) 4 ≤ sg 0 2 := by
  have v1 := hV.2.1
  have v0 := hV.1
  have e : r_sum (fun t => if r_d6 (w_s6 sg) t = 4 then 1 else 0) (sg 0 1 + (4 - sg 0 1)) = r_sum (fun t => if r_d6 (w_s6 sg) t = 4 then 1 else 0) (sg 0 1) := r_sum_z (4 - sg 0 1) (fun t a b => by
    show (if r_d6 (w_s6 sg) t = 4 then 1 else 0) = 0
    rw [v_d6u hV hN (by omega) (fun q => by omega)]; rfl)
  rw [show sg 0 1 + (4 - sg 0 1) = 4 by omega] at e
  rw [r_h6_sum, e]
  have e2 := r_sum_c (f := fun t => if r_d6 (w_s6 sg) t = 4 then 1 else 0) (g := fun t => if sg 7 (3 + t) = 4 then 1 else 0) (sg 0 1) (fun t ht => by
    show (if r_d6 (w_s6 sg) t = 4 then 1 else 0) = if sg 7 (3 + t) = 4 then 1 else 0
    by_cases z : (sg 7 2).testBit t = true
    · rw [v_d6r hV hN ht z]
    · have p := (hN.2.2.2.1 t ht).2.1 (by simpa using z)
      have o := (hV.2.2.2.2.2 t ht).1
      rw [v_d6u hV hN (by omega) (fun q => z q.2), p, if_neg (by omega), if_neg (by omega)])
  rw [e2, ← v_held]
  exact hN.2.2.2.2
theorem v_now_rel {sg : am_G0} (hV : r_VH sg) (hN : r_VM sg 7) (m : Nat) : v_rel sg (w_s6 sg) m (f_s5 sg + 5 ^ (1 + sg 0 1) * m) := by
  have v1 := hV.2.1
  have v0 := hV.1
  have a5 : sg 7 1 < 5 := by have := hN.2.1; omega
  have d5 : ∀ t, t < sg 0 1 → (fun t => sg 7 (3 + t)) t < 5 := fun t ht => by
    have := (hN.2.2.2.1 t ht).1
    show sg 7 (3 + t) < 5
    omega
  obtain ⟨e1, e2, e3⟩ := d5_sum a5 (sg 0 1) d5
  obtain ⟨b1, b2, b3⟩ := d5_add (n := sg 0 1) (k := f_s5 sg) (m := m) v1
  refine ⟨?_, ?_, fun t ht => ?_⟩
  · rw [b1, (v_s6 hV hN).1]; exact e1
  · rw [b2, Nat.div_eq_of_lt (f_s5_lt hV hN), Nat.zero_add]
  · rw [b3 t ht]
    have e := e3 t ht
    rw [show r_d5 (f_s5 sg) t = sg 7 (3 + t) from e]
    by_cases z : (sg 7 2).testBit t = true
    · rw [v_d6r hV hN ht z]
      have := d5 t ht
      rw [if_neg (show ¬ sg 7 (3 + t) = 5 from fun q => by have : sg 7 (3 + t) < 5 := this; omega)]
    · rw [v_d6u hV hN (by omega) (fun q => z q.2), if_pos rfl]
      exact (hN.2.2.2.1 t ht).2.1 (by simpa using z)
theorem v_lt_bit {x n t : Nat} (h : x < 2 ^ n) (ht : n ≤ t) : x.testBit t = false := Nat.testBit_lt_two_pow (Nat.lt_of_lt_of_le h (Nat.pow_le_pow_right (by omega) ht))
theorem v_now {sg : am_G0} (hV : r_VH sg) (hN : r_VM sg 7) {n v : Nat} {M : Nat → Nat} (hn : n ≤ sg 0 1) (hv : r_least (fun c => c < 256 ∧ ∃ k, r_P1 sg n k (w_s6 sg) c) 4095 v) (hM : ∀ k, k < 5 ^ (1 + sg 0 1) * 2 ^ sg 0 1 → M k ≤ 100000 ∧ r_least (fun c => c < 100000 ∧ ∃ j, r_P2 sg (5 ^ (1 + sg 0 1)) j k c) 100000 (M k)) : f_ls sg M n (2 ^ sg 0 1) = v := by
  have v1 := hV.2.1
  have v0 := hV.1
  have hs := v_now_ok hV hN
  have p16 : 2 ^ sg 0 1 ≤ 2 ^ 4 := Nat.pow_le_pow_right (by omega) v1
  have hr2 := hN.2.2.1
  obtain ⟨b1, ⟨kk, b2⟩, b3⟩ := v_one hV hn hs (v_now_h6 hV hN) hv
  obtain ⟨f1, f2, f3⟩ := f_ls_le sg M n (2 ^ sg 0 1)
  have ne5 : ∀ t, t < sg 0 1 → (sg 7 2).testBit t = true → ¬ r_d6 (w_s6 sg) t = 5 := fun t ht z => by
    rw [v_d6r hV hN ht z]
    have := (hN.2.2.2.1 t ht).1
    omega
  obtain ⟨rr, r1, r2, r3, r4⟩ := p12 hV kk _ v hs b2
  have tx : ∀ t, (rr ^^^ sg 7 2).testBit t = (rr.testBit t ^^ (sg 7 2).testBit t) := fun t => Nat.testBit_xor _ _ _
  have sub : ∀ t, (sg 7 2).testBit t = true → t < sg 0 1 ∧ rr.testBit t = true := fun t z => by
    have lt : t < sg 0 1 := by
      apply Nat.lt_of_not_le
      intro q
      rw [v_lt_bit hr2 q] at z
      exact absurd z (by decide)
    exact ⟨lt, r3 t lt (ne5 t lt z)⟩
  have lo : f_ls sg M n (2 ^ sg 0 1) ≤ v := by
    have x1 : rr ^^^ sg 7 2 < 2 ^ sg 0 1 := Nat.xor_lt_two_pow r1 hr2
    have x2 : (rr ^^^ sg 7 2) &&& sg 7 2 = 0 := by
      apply Nat.eq_of_testBit_eq
      intro t
      rw [Nat.testBit_and, tx, Nat.zero_testBit]
      by_cases z : (sg 7 2).testBit t = true
      · rw [z, (sub t z).2]; rfl
      · rw [show (sg 7 2).testBit t = false by simpa using z, Bool.and_false]
    have x3 : (rr ^^^ sg 7 2) ||| sg 7 2 = rr := by
      apply Nat.eq_of_testBit_eq
      intro t
      rw [Nat.testBit_or, tx]
      by_cases z : (sg 7 2).testBit t = true
      · rw [z, (sub t z).2]; rfl
      · rw [show (sg 7 2).testBit t = false by simpa using z, Bool.or_false, Bool.xor_false]
    have q1 := f2 (rr ^^^ sg 7 2) x1 ⟨x2, by rw [x3, w_pc4 rr (by omega)]; exact r2⟩
    have hk := f_idx (x := f_s5 sg) (f_s5_lt hV hN) x1
    obtain ⟨j, hj⟩ := r4 (rr ^^^ sg 7 2) (f_s5 sg + 5 ^ (1 + sg 0 1) * (rr ^^^ sg 7 2)) x1 (fun t ht z => by
      have zn : ¬ (sg 7 2).testBit t = true := fun y => by
        rw [tx, y, (sub t y).2] at z
        exact absurd z (by decide)
      refine ⟨?_, v_d6u hV hN (by omega) (fun q => zn q.2)⟩
      rw [tx, show (sg 7 2).testBit t = false by simpa using zn, Bool.xor_false] at z
      exact z) (v_now_rel hV hN _)
    obtain ⟨m1, m2⟩ := hM _ hk
    have : M (f_s5 sg + 5 ^ (1 + sg 0 1) * (rr ^^^ sg 7 2)) ≤ v := by
      rcases m2 with ⟨-, a⟩ | ⟨-, a⟩
      · exact a v ⟨by omega, j, hj⟩
      · exact absurd ⟨by omega, j, hj⟩ (a v)
    omega
  rcases f3 with f3 | ⟨m, m1, m2, m3⟩
  · omega
  · have hk := f_idx (x := f_s5 sg) (f_s5_lt hV hN) m1
    obtain ⟨m4, m5⟩ := hM _ hk
    have rel := v_now_rel hV hN m
    rcases m5 with ⟨⟨a1, j, a2⟩, -⟩ | ⟨a, -⟩
    · have or16 : m ||| sg 7 2 < 2 ^ sg 0 1 := Nat.or_lt_two_pow m1 hr2
      have nb : ∀ t, m.testBit t = true → ¬ (sg 7 2).testBit t = true := fun t y z => by
        have e : (m &&& sg 7 2).testBit t = true := by rw [Nat.testBit_and, y, z]; rfl
        rw [m2.1, Nat.zero_testBit] at e
        exact absurd e (by decide)
      obtain ⟨k2, h2⟩ := p21 hV (n := n) j _ _ (w_s6 sg) (m ||| sg 7 2) hs hk (by rw [rel.2.1]; exact rel) (fun t ht z => by
        rw [rel.2.1] at z
        exact v_d6u hV hN (by omega) (fun q => nb t z q.2)) (fun t ht z => by
        have lt : t < sg 0 1 := by
          apply Nat.lt_of_not_le
          intro q
          rw [v_lt_bit or16 q] at z
          exact absurd z (by decide)
        refine ⟨lt, ?_⟩
        rw [rel.2.1]
        by_cases y : (sg 7 2).testBit t = true
        · exact Or.inl (ne5 t lt y)
        · rw [Nat.testBit_or, show (sg 7 2).testBit t = false by simpa using y, Bool.or_false] at z
          exact Or.inr z) (by rw [← w_pc4 _ (by omega)]; exact m2.2) a2
      have := b3 _ k2 h2
      omega
    · omega
