/-! the class's paths and the model's -/
def v_ok (sg : am_G0) (s : Nat) : Prop := s < 6480 ∧ (s / 1296 < sg 0 0 ∨ s / 1296 = 4) ∧ (∀ t, t < sg 0 1 → r_d6 s t < sg 0 0 ∨ r_d6 s t = 4 ∨ r_d6 s t = 5) ∧ ∀ t, sg 0 1 ≤ t → t < 4 → r_d6 s t = 5
def v_rel (sg : am_G0) (s M k : Nat) : Prop := k % 5 = s / 1296 ∧ k / 5 ^ (1 + sg 0 1) = M ∧ ∀ t, t < sg 0 1 → r_d5 k t = if r_d6 s t = 5 then sg 3 t else r_d6 s t
theorem r_h6_sum (s : Nat) : ∀ n, r_h6 s n = r_sum (fun t => if r_d6 s t = 4 then 1 else 0) n
  | 0 => rfl
  | n + 1 => by simp only [r_h6, r_sum, r_h6_sum s n]
theorem r_h5_sum (nt k : Nat) : ∀ n, r_h5 nt k n = r_sum (fun t => if r_d5 k t = 4 then 1 else 0) n
  | 0 => rfl
  | n + 1 => by simp only [r_h5, r_sum, r_h5_sum nt k n]
theorem r_sum_z {f : Nat → Nat} {n : Nat} : ∀ m, (∀ t, n ≤ t → t < n + m → f t = 0) → r_sum f (n + m) = r_sum f n
  | 0, _ => rfl
  | m + 1, h => by
    have h1 := r_sum_z (f := f) (n := n) m (fun t a b => h t a (by omega))
    have h2 := h (n + m) (by omega) (by omega)
    show r_sum f (n + m) + f (n + m) = r_sum f n
    omega
theorem r_pc_mono {x y : Nat} : ∀ k, (∀ t, t < k → x.testBit t = true → y.testBit t = true) → r_pc k x ≤ r_pc k y
  | 0, _ => Nat.le_refl _
  | k + 1, h => by
    have h1 := r_pc_mono k (fun t ht => h t (by omega))
    simp only [r_pc]
    by_cases c : x.testBit k = true
    · rw [if_pos c, if_pos (h k (by omega) c)]; omega
    · rw [if_neg c]
      split <;> omega
theorem r_g6_sum (sg : am_G0) (r : Nat) : ∀ n, r_g6 sg r n = w_sum (fun t => if r.testBit t = true then sg 3 t else 5) n
  | 0 => rfl
  | n + 1 => by simp only [r_g6, w_sum, r_g6_sum sg r n]
theorem v_cnt {sg : am_G0} (hV : r_VH sg) {s M k : Nat} (hs : v_ok sg s) (hr : v_rel sg s M k) : r_h5 (sg 0 1) k (sg 0 1) = r_h6 s 4 := by
  have v0 := hV.1
  have v1 := hV.2.1
  rw [r_h5_sum, r_h6_sum]
  have e : r_sum (fun t => if r_d6 s t = 4 then 1 else 0) (sg 0 1 + (4 - sg 0 1)) = r_sum (fun t => if r_d6 s t = 4 then 1 else 0) (sg 0 1) := r_sum_z (4 - sg 0 1) (fun t a b => by
    show (if r_d6 s t = 4 then 1 else 0) = 0
    rw [hs.2.2.2 t a (by omega)]; rfl)
  rw [show sg 0 1 + (4 - sg 0 1) = 4 by omega] at e
  rw [e]
  refine r_sum_c _ fun t ht => ?_
  show (if r_d5 k t = 4 then 1 else 0) = (if r_d6 s t = 4 then 1 else 0)
  rw [hr.2.2 t ht]
  have o := (hV.2.2.2.2.2 t ht).1
  by_cases c : r_d6 s t = 5
  · rw [if_pos c, if_neg (by omega), if_neg (by omega)]
  · rw [if_neg c]
theorem v_big {n M t : Nat} (h : M < 2 ^ n) (hb : M.testBit t = true) : t < n := by
  apply Nat.lt_of_not_le
  intro hle
  rw [Nat.testBit_lt_two_pow (Nat.lt_of_lt_of_le h (Nat.pow_le_pow_right (by omega) hle))] at hb
  exact absurd hb (by decide)
theorem f_bit2a : ∀ M, M < 16 → ∀ t, t < 4 → M.testBit t = true → 2 ^ t ≤ M ∧ (M - 2 ^ t).testBit t = false := by decide
def f_b2 (M t i : Nat) : Bool := !(M.testBit t) || (i == t || (M - 2 ^ t).testBit i == M.testBit i)
theorem f_bit2c : ∀ M, M < 16 → ∀ t, t < 4 → ∀ i, i < 4 → f_b2 M t i = true := by decide +kernel
theorem f_bit2b (M : Nat) (hM : M < 16) (t : Nat) (ht : t < 4) (i : Nat) (hi : i < 4) (h : M.testBit t = true) (hit : ¬ i = t) : (M - 2 ^ t).testBit i = M.testBit i := by
  have q := f_bit2c M hM t ht i hi
  unfold f_b2 at q
  rw [h, Bool.not_true, Bool.false_or, Bool.or_eq_true, beq_iff_eq, beq_iff_eq] at q
  exact q.resolve_left hit
theorem f_bit2 (M : Nat) (hM : M < 16) (t : Nat) (ht : t < 4) (h : M.testBit t = true) : 2 ^ t ≤ M ∧ (M - 2 ^ t).testBit t = false ∧ ∀ i, i < 4 → ¬ i = t → (M - 2 ^ t).testBit i = M.testBit i := ⟨(f_bit2a M hM t ht h).1, (f_bit2a M hM t ht h).2, fun i hi hit => f_bit2b M hM t ht i hi h hit⟩
theorem f_bit3a : ∀ R, R < 16 → ∀ t, t < 4 → R.testBit t = false → (R + 2 ^ t).testBit t = true := by decide
def f_b3 (R t i : Nat) : Bool := R.testBit t || (i == t || (R + 2 ^ t).testBit i == R.testBit i)
theorem f_bit3c : ∀ R, R < 16 → ∀ t, t < 4 → ∀ i, i < 4 → f_b3 R t i = true := by decide +kernel
theorem f_bit3b (R : Nat) (hR : R < 16) (t : Nat) (ht : t < 4) (i : Nat) (hi : i < 4) (h : R.testBit t = false) (hit : ¬ i = t) : (R + 2 ^ t).testBit i = R.testBit i := by
  have q := f_bit3c R hR t ht i hi
  unfold f_b3 at q
  rw [h, Bool.false_or, Bool.or_eq_true, beq_iff_eq, beq_iff_eq] at q
  exact q.resolve_left hit
theorem f_bit3 (R : Nat) (hR : R < 16) (t : Nat) (ht : t < 4) (h : R.testBit t = false) : (R + 2 ^ t).testBit t = true ∧ ∀ i, i < 4 → ¬ i = t → (R + 2 ^ t).testBit i = R.testBit i := ⟨f_bit3a R hR t ht h, fun i hi hit => f_bit3b R hR t ht i hi h hit⟩
/-- a state's step, by its digits -/
theorem v_fin {sg : am_G0} {M k : Nat} (h : k / 5 ^ (1 + sg 0 1) = M) (hM : M < 2 ^ sg 0 1) : k < 5 ^ (1 + sg 0 1) * 2 ^ sg 0 1 := by
  have p5 : 0 < 5 ^ (1 + sg 0 1) := Nat.pow_pos (by omega)
  rw [Nat.mul_comm]
  exact (Nat.div_lt_iff_lt_mul p5).mp (by omega)
theorem v_E1 {sg : am_G0} (hV : r_VH sg) {s s' w : Nat} (hs : v_ok sg s) (hE : r_E1 sg s s' w) : v_ok sg s' ∧ ∀ t, t < sg 0 1 → ¬ r_d6 s t = 5 → ¬ r_d6 s' t = 5 := by
  have v0 := hV.1
  have v1 := hV.2.1
  obtain ⟨s1, s2, s3, s4⟩ := hs
  obtain ⟨a1, hE⟩ := hE
  rcases hE with ⟨q1, q2, q3⟩ | ⟨t, t1, t2, t3, t4⟩ | ⟨t, t1, t2, t3, t4, t5⟩
  · have e := d6_mv q1
    refine ⟨⟨by omega, Or.inl a1, fun i hi => by rw [← e i (by omega)]; exact s3 i hi, fun i hi hi4 => by rw [← e i hi4]; exact s4 i hi hi4⟩, fun i hi h5 => by rw [← e i (by omega)]; exact h5⟩
  · obtain ⟨e1, e2, e3⟩ : s / 1296 = s' / 1296 ∧ (r_d6 s t = s' / 1296 ∨ r_d6 s t = 5) ∧ ∀ i, i < 4 → ¬ i = t → r_d6 s i = r_d6 s' i := by
      rcases t4 with t4 | ⟨t4, t5⟩
      · obtain ⟨z1, z2, z3⟩ := d6_set (s := s') (s' := s) (q := s' / 1296) (by omega) t3 (by omega) t4
        exact ⟨z1, Or.inl z2, z3⟩
      · obtain ⟨z1, z2, z3⟩ := d6_set (s := s') (s' := s) (q := 5) (by omega) t3 (by omega) (by omega)
        exact ⟨z1, Or.inr z2, z3⟩
    refine ⟨⟨by omega, Or.inl a1, fun i hi => ?_, fun i hi hi4 => ?_⟩, fun i hi h5 => ?_⟩
    · by_cases z : i = t
      · subst z; exact Or.inr (Or.inl t3)
      · rw [← e3 i (by omega) z]; exact s3 i hi
    · have z : ¬ i = t := by omega
      rw [← e3 i hi4 z]; exact s4 i hi hi4
    · by_cases z : i = t
      · subst z; omega
      · rw [← e3 i (by omega) z]; exact h5
  · obtain ⟨z1, z2, z3⟩ := d6_set (s := s') (s' := s) (q := 4) (by omega) t3 (by omega) t5
    refine ⟨⟨by omega, Or.inl a1, fun i hi => ?_, fun i hi hi4 => ?_⟩, fun i hi h5 => ?_⟩
    · by_cases z : i = t
      · subst z; rw [t3]; exact Or.inl a1
      · rw [← z3 i (by omega) z]; exact s3 i hi
    · have z : ¬ i = t := by omega
      rw [← z3 i hi4 z]; exact s4 i hi hi4
    · by_cases z : i = t
      · subst z; omega
      · rw [← z3 i (by omega) z]; exact h5
theorem p12 {sg : am_G0} (hV : r_VH sg) {n : Nat} : ∀ kk s c, v_ok sg s → r_P1 sg n kk s c → ∃ rr, rr < 2 ^ sg 0 1 ∧ n ≤ r_pc 4 rr ∧ (∀ t, t < sg 0 1 → ¬ r_d6 s t = 5 → rr.testBit t = true) ∧ ∀ M k, M < 2 ^ sg 0 1 → (∀ t, t < sg 0 1 → M.testBit t = true → rr.testBit t = true ∧ r_d6 s t = 5) → v_rel sg s M k → ∃ j, r_P2 sg (5 ^ (1 + sg 0 1)) j k c
  | 0, s, c, hs, hP => by
    obtain ⟨⟨r, at', h1, h2, h3, h4⟩, hc⟩ := hP
    have v0 := hV.1
    have v1 := hV.2.1
    have dl : ∀ t, t < 4 → (if r.testBit t = true then sg 3 t else 5) < 6 := by
      intro t ht
      split
      · next hb =>
        have := (hV.2.2.2.2.2 t (v_big h1 hb)).1
        omega
      · omega
    rw [r_g6_sum] at h4
    obtain ⟨e1, e2⟩ := d6_sum dl at'
    rw [← h4] at e1 e2
    refine ⟨r, h1, h2, fun t ht h5 => ?_, fun M k hM hMr hrel => ⟨0, ⟨?_, fun t ht => ?_⟩, hc⟩⟩
    · rw [e2 t (by omega)] at h5
      by_cases c : r.testBit t = true
      · exact c
      · rw [if_neg c] at h5; exact absurd rfl h5
    · have M0 : M = 0 := by
        apply Nat.eq_of_testBit_eq
        intro i
        rw [Nat.zero_testBit]
        cases hb : M.testBit i with
        | false => rfl
        | true =>
          have hi := v_big hM hb
          obtain ⟨z1, z2⟩ := hMr i hi hb
          rw [e2 i (by omega), if_pos z1] at z2
          have := (hV.2.2.2.2.2 i hi).1
          omega
      have p5 : 0 < 5 ^ (1 + sg 0 1) := Nat.pow_pos (by omega)
      have := hrel.2.1
      rw [M0] at this
      exact (Nat.div_eq_zero_iff_lt p5).mp this
    · rw [hrel.2.2 t ht, e2 t (by omega)]
      by_cases c : r.testBit t = true
      · rw [if_pos c]
        have := (hV.2.2.2.2.2 t ht).1
        rw [if_neg (by omega)]
      · rw [if_neg c, if_pos rfl]
  | kk + 1, s, c, hs, hP => by
    obtain ⟨s', w, c', hE, hP', he⟩ := hP
    have v0 := hV.1
    have v1 := hV.2.1
    obtain ⟨ok', keep5⟩ := v_E1 hV hs hE
    obtain ⟨rr, r1, r2, r3, r4⟩ := p12 hV kk s' c' ok' hP'
    refine ⟨rr, r1, r2, fun t ht h5 => r3 t ht (keep5 t ht h5), fun M k hM hMr hrel => ?_⟩
    obtain ⟨s1, s2, s3, s4⟩ := hs
    obtain ⟨b1, b2, b3⟩ := hrel
    obtain ⟨a1, hE⟩ := hE
    have p16 : 2 ^ sg 0 1 ≤ 2 ^ 4 := Nat.pow_le_pow_right (by omega) v1
    rcases hE with ⟨q1, q2, q3⟩ | ⟨t, t1, t2, t3, t4⟩ | ⟨t, t1, t2, t3, t4, t5⟩
    · have e := d6_mv q1
      obtain ⟨f1, f2⟩ := d5_mv (n := sg 0 1) (k := k / 5 * 5 + s' / 1296) (k' := k) v1 (by omega)
      obtain ⟨j, hj⟩ := r4 M (k / 5 * 5 + s' / 1296) hM (fun t ht hb => by
        obtain ⟨z1, z2⟩ := hMr t ht hb
        exact ⟨z1, by rw [← e t (by omega)]; exact z2⟩) ⟨by omega, by rw [f1]; exact b2, fun t ht => by rw [f2 t ht, ← e t (by omega)]; exact b3 t ht⟩
      refine ⟨j + 1, k / 5 * 5 + s' / 1296, w, c', v_fin (by rw [f1]; exact b2) hM, ⟨by omega, Or.inl ⟨by omega, by rw [b1]; exact s2, ?_⟩⟩, hj, he⟩
      rw [q3, b1]; congr 1; omega
    · obtain ⟨u1, u2⟩ := f_five (show t < 4 by omega)
      have hk5 : ¬ r_d6 s' t = 5 := by omega
      have take : ∀ x, s' / 1296 = s / 1296 → r_d5 k t = s' / 1296 → (∀ i, i < 4 → ¬ i = t → r_d6 s i = r_d6 s' i) → x = k + 4 * 5 ^ (1 + t) - s' / 1296 * 5 ^ (1 + t) → x % 5 = s' / 1296 ∧ x / 5 ^ (1 + sg 0 1) = M ∧ k + 4 * 5 ^ (1 + t) = x + x % 5 * 5 ^ (1 + t) ∧ r_d5 x t = 4 ∧ ∀ i, i < sg 0 1 → r_d5 x i = if r_d6 s' i = 5 then sg 3 i else r_d6 s' i := by
        intro x h1 h2 h3 hx
        have le : s' / 1296 * 5 ^ (1 + t) ≤ 4 * 5 ^ (1 + t) := Nat.mul_le_mul_right _ (by omega)
        obtain ⟨g1, g2, g3, g4⟩ := d5_set (n := sg 0 1) (k := k) (k' := x) (q := 4) v1 t1 h2 (by omega) (by omega)
        have gx : x % 5 = s' / 1296 := by rw [g1, b1, h1]
        refine ⟨gx, by rw [g2]; exact b2, ?_, g3, fun i hi => ?_⟩
        · rw [gx]; omega
        · by_cases z : i = t
          · subst z; rw [g3, if_neg hk5, t3]
          · rw [g4 i hi z, b3 i hi, h3 i (by omega) z]
      rcases t4 with t4 | ⟨t4, t5⟩
      · obtain ⟨z1, z2, z3⟩ := d6_set (s := s') (s' := s) (q := s' / 1296) (by omega) t3 (by omega) t4
        have zn : ¬ r_d6 s t = 5 := by omega
        have hd := b3 t t1
        rw [if_neg zn, z2] at hd
        obtain ⟨x1, x2, x3, x4, x5⟩ := take _ z1.symm hd z3 rfl
        have hbf : M.testBit t = false := by
          cases hb : M.testBit t with
          | false => rfl
          | true => exact absurd (hMr t t1 hb).2 zn
        obtain ⟨j, hj⟩ := r4 M _ hM (fun i hi hb => by
          obtain ⟨y1, y2⟩ := hMr i hi hb
          refine ⟨y1, ?_⟩
          by_cases z : i = t
          · rw [z, hbf] at hb; exact absurd hb (by decide)
          · rw [← z3 i (by omega) z]; exact y2) ⟨x1, x2, x5⟩
        exact ⟨j + 1, _, w, c', v_fin x2 hM, ⟨by rw [x1]; exact a1, Or.inr (Or.inl ⟨t, t1, t2, x4, by rw [x2]; exact hbf, Or.inl x3⟩)⟩, hj, he⟩
      · obtain ⟨z1, z2, z3⟩ := d6_set (s := s') (s' := s) (q := 5) (by omega) t3 (by omega) (by omega)
        have hd := b3 t t1
        rw [if_pos z2, t4] at hd
        obtain ⟨x1, x2, x3, x4, x5⟩ := take _ z1.symm hd z3 rfl
        cases hb : M.testBit t with
        | false =>
          obtain ⟨j, hj⟩ := r4 M _ hM (fun i hi hbi => by
            obtain ⟨y1, y2⟩ := hMr i hi hbi
            refine ⟨y1, ?_⟩
            by_cases z : i = t
            · rw [z, hb] at hbi; exact absurd hbi (by decide)
            · rw [← z3 i (by omega) z]; exact y2) ⟨x1, x2, x5⟩
          exact ⟨j + 1, _, w, c', v_fin x2 hM, ⟨by rw [x1]; exact a1, Or.inr (Or.inl ⟨t, t1, t2, x4, by rw [x2]; exact hb, Or.inl x3⟩)⟩, hj, he⟩
        | true =>
          obtain ⟨m1, m2, m3⟩ := f_bit2 M (by omega) t (by omega) hb
          generalize hX : k + 4 * 5 ^ (1 + t) - s' / 1296 * 5 ^ (1 + t) = x at *
          have le : 5 ^ (1 + sg 0 1) * 2 ^ t ≤ x := by
            have h1 : 5 ^ (1 + sg 0 1) * 2 ^ t ≤ 5 ^ (1 + sg 0 1) * (x / 5 ^ (1 + sg 0 1)) := Nat.mul_le_mul_left _ (by rw [x2]; exact m1)
            exact Nat.le_trans h1 (Nat.mul_div_le _ _)
          obtain ⟨g1, g2, g3⟩ := d5_add (n := sg 0 1) (k := x - 5 ^ (1 + sg 0 1) * 2 ^ t) (m := 2 ^ t) v1
          rw [Nat.sub_add_cancel le] at g1 g2 g3
          have hM2 : M - 2 ^ t < 2 ^ sg 0 1 := Nat.lt_of_le_of_lt (Nat.sub_le _ _) hM
          have y2 : (x - 5 ^ (1 + sg 0 1) * 2 ^ t) / 5 ^ (1 + sg 0 1) = M - 2 ^ t := by omega
          obtain ⟨j, hj⟩ := r4 (M - 2 ^ t) (x - 5 ^ (1 + sg 0 1) * 2 ^ t) hM2 (fun i hi hbi => by
            by_cases z : i = t
            · rw [z, m2] at hbi; exact absurd hbi (by decide)
            · rw [m3 i (by omega) z] at hbi
              obtain ⟨y1, y2⟩ := hMr i hi hbi
              exact ⟨y1, by rw [← z3 i (by omega) z]; exact y2⟩) ⟨by rw [← g1]; exact x1, y2, fun i hi => by rw [← g3 i hi]; exact x5 i hi⟩
          refine ⟨j + 1, _, w, c', v_fin y2 hM2, ⟨by rw [← g1, x1]; exact a1, Or.inr (Or.inl ⟨t, t1, t2, by rw [← g3 t t1]; exact x4, by rw [y2]; exact m2, Or.inr ?_⟩)⟩, hj, he⟩
          rw [← g1]; omega
    · obtain ⟨z1, z2, z3⟩ := d6_set (s := s') (s' := s) (q := 4) (by omega) t3 (by omega) t5
      have hd := b3 t t1
      rw [if_neg (by omega), z2] at hd
      have le := f_d5 hd
      obtain ⟨g1, g2, g3, g4⟩ := d5_set (n := sg 0 1) (k := k) (k' := k + s' / 1296 * 5 ^ (1 + t) - 4 * 5 ^ (1 + t)) (q := s' / 1296) v1 t1 hd (by omega) (by omega)
      have gx : (k + s' / 1296 * 5 ^ (1 + t) - 4 * 5 ^ (1 + t)) % 5 = s' / 1296 := by rw [g1, b1, z1]
      have hbf : M.testBit t = false := by
        cases hb : M.testBit t with
        | false => rfl
        | true =>
          have := (hMr t t1 hb).2
          omega
      have rel : v_rel sg s' M (k + s' / 1296 * 5 ^ (1 + t) - 4 * 5 ^ (1 + t)) := ⟨gx, by rw [g2]; exact b2, fun i hi => by
        by_cases z : i = t
        · subst z; rw [g3, if_neg (by omega), t3]
        · rw [g4 i hi z, b3 i hi, z3 i (by omega) z]⟩
      obtain ⟨j, hj⟩ := r4 M _ hM (fun i hi hb => by
        obtain ⟨y1, y2⟩ := hMr i hi hb
        refine ⟨y1, ?_⟩
        by_cases z : i = t
        · rw [z, hbf] at hb; exact absurd hb (by decide)
        · rw [← z3 i (by omega) z]; exact y2) rel
      refine ⟨j + 1, _, w, c', v_fin rel.2.1 hM, ⟨by rw [gx]; exact a1, Or.inr (Or.inr ⟨t, t1, t2, by rw [gx, g3], by rw [v_cnt hV ok' rel]; exact t4, ?_⟩)⟩, hj, he⟩
      rw [gx]; omega
