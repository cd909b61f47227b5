/-! the model's paths are the class's; a path is always there -/
theorem p21 {sg : am_G0} (hV : r_VH sg) {n : Nat} : ∀ j k c s U, v_ok sg s → k < 5 ^ (1 + sg 0 1) * 2 ^ sg 0 1 → v_rel sg s (k / 5 ^ (1 + sg 0 1)) k → (∀ t, t < sg 0 1 → (k / 5 ^ (1 + sg 0 1)).testBit t = true → r_d6 s t = 5) → (∀ t, t < 4 → U.testBit t = true → t < sg 0 1 ∧ (¬ r_d6 s t = 5 ∨ (k / 5 ^ (1 + sg 0 1)).testBit t = true)) → n ≤ r_pc 4 U → r_P2 sg (5 ^ (1 + sg 0 1)) j k c → ∃ kk, r_P1 sg n kk s c
  | 0, k, c, s, U, hs, hk, hrel, hM, hU, hn, hP => by
    have v0 := hV.1
    have v1 := hV.2.1
    obtain ⟨s1, s2, s3, s4⟩ := hs
    obtain ⟨⟨h1, h2⟩, hc⟩ := hP
    have k0 : k / 5 ^ (1 + sg 0 1) = 0 := Nat.div_eq_of_lt h1
    have hf : ∀ t, (fun t => if r_d6 s t = 5 then 0 else 1) t ≤ 1 := fun t => by show (if _ then 0 else 1) ≤ 1; split <;> omega
    have tb := r_bt_tb hf
    have bit : ∀ t, t < sg 0 1 → ((r_bt (fun t => if r_d6 s t = 5 then 0 else 1) (sg 0 1)).testBit t = true ↔ ¬ r_d6 s t = 5) := by
      intro t ht
      rw [tb, Bool.and_eq_true, decide_eq_true_iff, decide_eq_true_iff]
      by_cases z : r_d6 s t = 5
      · rw [if_pos z]; exact ⟨fun q => absurd q.2 (by omega), fun q => absurd z q⟩
      · rw [if_neg z]; exact ⟨fun _ => z, fun _ => ⟨ht, rfl⟩⟩
    refine ⟨0, ⟨r_bt (fun t => if r_d6 s t = 5 then 0 else 1) (sg 0 1), s / 1296, r_bt_lt hf _, Nat.le_trans hn (r_pc_mono 4 fun t ht hb => ?_), by omega, ?_⟩, hc⟩
    · obtain ⟨y1, y2⟩ := hU t ht hb
      rw [bit t y1]
      rw [k0, Nat.zero_testBit] at y2
      exact y2.resolve_right (by decide)
    · have e := d6_of s
      rw [r_g6_sum]
      have e2 : w_sum (r_d6 s) 4 = w_sum (fun t => if (r_bt (fun t => if r_d6 s t = 5 then 0 else 1) (sg 0 1)).testBit t = true then sg 3 t else 5) 4 := by
        refine w_sum_c 4 fun t ht => ?_
        by_cases z : t < sg 0 1
        · by_cases y : r_d6 s t = 5
          · rw [if_neg (fun q => (bit t z).mp q y)]; exact y
          · rw [if_pos ((bit t z).mpr y)]
            have a := hrel.2.2 t z
            have b := h2 t z
            rw [if_neg y] at a
            omega
        · have q : (r_bt (fun t => if r_d6 s t = 5 then 0 else 1) (sg 0 1)).testBit t = false := by
            rw [tb, decide_eq_false z, Bool.false_and]
          rw [if_neg (by rw [q]; decide)]
          exact s4 t (by omega) ht
      rw [← e2]; exact e
  | j + 1, k, c, s, U, hs, hk, hrel, hM, hU, hn, hP => by
    obtain ⟨k', w, c', hk', hE, hP', he⟩ := hP
    have v0 := hV.1
    have v1 := hV.2.1
    have hs0 := hs
    obtain ⟨s1, s2, s3, s4⟩ := hs
    obtain ⟨b1, -, b3⟩ := hrel
    obtain ⟨a1, hE⟩ := hE
    have p16 : 2 ^ sg 0 1 ≤ 2 ^ 4 := Nat.pow_le_pow_right (by omega) v1
    have R' : k' / 5 ^ (1 + sg 0 1) < 2 ^ sg 0 1 := Nat.div_lt_of_lt_mul hk'
    rcases hE with ⟨q1, q2, q3⟩ | ⟨t, t1, t2, t3, t4, t5⟩ | ⟨t, t1, t2, t3, t4, t5⟩
    · obtain ⟨f1, f2⟩ := d5_mv (n := sg 0 1) (k := k') (k' := k) v1 (by omega)
      have e := d6_mv (s := k' % 5 * 1296 + s % 1296) (s' := s) (by omega)
      have at' : (k' % 5 * 1296 + s % 1296) / 1296 = k' % 5 := by omega
      have ok' : v_ok sg (k' % 5 * 1296 + s % 1296) := ⟨by omega, Or.inl (by rw [at']; exact a1), fun t ht => by rw [e t (by omega)]; exact s3 t ht, fun t ht h4 => by rw [e t h4]; exact s4 t ht h4⟩
      obtain ⟨kk, hkk⟩ := p21 hV j k' c' _ U ok' hk' ⟨at'.symm, rfl, fun t ht => by rw [f2 t ht, e t (by omega)]; exact b3 t ht⟩ (fun t ht hb => by rw [e t (by omega)]; rw [f1] at hb; exact hM t ht hb) (fun t ht hb => by rw [e t ht, f1]; exact hU t ht hb) hn hP'
      refine ⟨kk + 1, _, w, c', ⟨by rw [at']; exact a1, Or.inl ⟨by omega, by rw [← b1]; exact q2, ?_⟩⟩, hkk, he⟩
      rw [at', q3, b1]
    · obtain ⟨u1, u2⟩ := w_six (show t < 4 by omega)
      have go : ∀ s', s / 1296 = k' % 5 → r_d5 k t = k' % 5 → (∀ i, i < sg 0 1 → ¬ i = t → r_d5 k i = r_d5 k' i) → s' / 1296 = s / 1296 → r_d6 s' t = 4 → (∀ i, i < 4 → ¬ i = t → r_d6 s' i = r_d6 s i) → (∀ i, i < sg 0 1 → ¬ i = t → ((k' / 5 ^ (1 + sg 0 1)).testBit i = true ↔ (k / 5 ^ (1 + sg 0 1)).testBit i = true)) → r_E1 sg s s' 1 → ∃ kk, r_P1 sg n kk s c := by
        intro s' g1 g2 g3 g4 g5 g6 g7 g8
        have ok' : v_ok sg s' := ⟨by omega, Or.inl (by rw [g4, g1]; exact a1), fun i hi => by
          by_cases z : i = t
          · subst z; exact Or.inr (Or.inl g5)
          · rw [g6 i (by omega) z]; exact s3 i hi, fun i hi h4 => by
          have z : ¬ i = t := by omega
          rw [g6 i h4 z]; exact s4 i hi h4⟩
        obtain ⟨kk, hkk⟩ := p21 hV j k' c' s' U ok' hk' ⟨by rw [g4, g1], rfl, fun i hi => by
          by_cases z : i = t
          · subst z; rw [t3, g5]; rfl
          · rw [← g3 i hi z, b3 i hi, g6 i (by omega) z]⟩ (fun i hi hb => by
          by_cases z : i = t
          · subst z; rw [t4] at hb; exact absurd hb (by decide)
          · rw [g6 i (by omega) z]; exact hM i hi ((g7 i hi z).mp hb)) (fun i hi hb => by
          obtain ⟨y1, y2⟩ := hU i hi hb
          refine ⟨y1, ?_⟩
          by_cases z : i = t
          · subst z; left; omega
          · rw [g6 i hi z, g7 i y1 z]; exact y2) hn hP'
        subst t2
        exact ⟨kk + 1, s', 1, c', g8, hkk, he⟩
      rcases t5 with t5 | t5
      · obtain ⟨z1, z2, z3, z4⟩ := d5_set (n := sg 0 1) (k := k') (k' := k) (q := k' % 5) v1 t1 t3 (by omega) t5
        have sat : s / 1296 = k' % 5 := by rw [← b1]; exact z1
        have hd := b3 t t1
        rw [z3] at hd
        by_cases y : r_d6 s t = 5
        · rw [if_pos y] at hd
          have wy := w_d6 y
          obtain ⟨x1, x2, x3⟩ := d6_set (s := s) (s' := s - 6 ^ t) (q := 4) (by omega) y (by omega) (by omega)
          exact go (s - 6 ^ t) sat z3 z4 x1 x2 x3 (fun i _ _ => by rw [z2]) ⟨by rw [x1, sat]; exact a1, Or.inr (Or.inl ⟨t, t1, rfl, x2, Or.inr ⟨by rw [x1, sat]; exact hd.symm, by omega⟩⟩)⟩
        · rw [if_neg y] at hd
          have le : k' % 5 * 6 ^ t ≤ 4 * 6 ^ t := Nat.mul_le_mul_right _ (by omega)
          obtain ⟨x1, x2, x3⟩ := d6_set (s := s) (s' := s + 4 * 6 ^ t - k' % 5 * 6 ^ t) (q := 4) (by omega) hd.symm (by omega) (by omega)
          exact go _ sat z3 z4 x1 x2 x3 (fun i _ _ => by rw [z2]) ⟨by rw [x1, sat]; exact a1, Or.inr (Or.inl ⟨t, t1, rfl, x2, Or.inl (by rw [x1, sat]; omega)⟩)⟩
      · obtain ⟨y1, y2, y3⟩ := d5_add (n := sg 0 1) (k := k') (m := 2 ^ t) v1
        obtain ⟨z1, z2, z3, z4⟩ := d5_set (n := sg 0 1) (k := k' + 5 ^ (1 + sg 0 1) * 2 ^ t) (k' := k) (p := 4) (q := k' % 5) v1 t1 (by rw [y3 t t1]; exact t3) (by omega) (by omega)
        have sat : s / 1296 = k' % 5 := by rw [← b1, z1, y1]
        obtain ⟨m1, m2⟩ := f_bit3 (k' / 5 ^ (1 + sg 0 1)) (by omega) t (by omega) t4
        rw [y2] at z2
        have y5 : r_d6 s t = 5 := hM t t1 (by rw [z2]; exact m1)
        have hd := b3 t t1
        rw [z3, if_pos y5] at hd
        have wy := w_d6 y5
        obtain ⟨x1, x2, x3⟩ := d6_set (s := s) (s' := s - 6 ^ t) (q := 4) (by omega) y5 (by omega) (by omega)
        exact go (s - 6 ^ t) sat z3 (fun i hi z => by rw [z4 i hi z, y3 i hi]) x1 x2 x3 (fun i hi z => by rw [z2, m2 i (by omega) z]) ⟨by rw [x1, sat]; exact a1, Or.inr (Or.inl ⟨t, t1, rfl, x2, Or.inr ⟨by rw [x1, sat]; exact hd.symm, by omega⟩⟩)⟩
    · obtain ⟨z1, z2, z3, z4⟩ := d5_set (n := sg 0 1) (k := k') (k' := k) (q := 4) v1 t1 t3 (by omega) t5
      have sat : s / 1296 = k' % 5 := by rw [← b1]; exact z1
      have hd := b3 t t1
      rw [z3] at hd
      have o := (hV.2.2.2.2.2 t t1).1
      have y : r_d6 s t = 4 := by
        by_cases y : r_d6 s t = 5
        · rw [if_pos y] at hd; omega
        · rw [if_neg y] at hd; omega
      have wy := w_d6 y
      obtain ⟨x1, x2, x3⟩ := d6_set (s := s) (s' := s + k' % 5 * 6 ^ t - 4 * 6 ^ t) (q := k' % 5) (by omega) y (by omega) (by omega)
      have ok' : v_ok sg (s + k' % 5 * 6 ^ t - 4 * 6 ^ t) := by
        have hat : (s + k' % 5 * 6 ^ t - 4 * 6 ^ t) / 1296 = k' % 5 := by rw [x1, sat]
        refine ⟨by omega, Or.inl (by rw [hat]; exact a1), fun i hi => ?_, fun i hi h4 => ?_⟩
        · by_cases z : i = t
          · subst z; rw [x2]; exact Or.inl a1
          · rw [x3 i (by omega) z]; exact s3 i hi
        · have z : ¬ i = t := by omega
          rw [x3 i h4 z]; exact s4 i hi h4
      have rel : v_rel sg (s + k' % 5 * 6 ^ t - 4 * 6 ^ t) (k' / 5 ^ (1 + sg 0 1)) k' := ⟨by rw [x1, sat], rfl, fun i hi => by
        by_cases z : i = t
        · subst z; rw [t3, x2, if_neg (by omega)]
        · rw [← z4 i hi z, b3 i hi, x3 i (by omega) z]⟩
      obtain ⟨kk, hkk⟩ := p21 hV j k' c' _ U ok' hk' rel (fun i hi hb => by
        rw [← z2] at hb
        have := hM i hi hb
        by_cases z : i = t
        · subst z; omega
        · rw [x3 i (by omega) z]; exact this) (fun i hi hb => by
        obtain ⟨y1, y2⟩ := hU i hi hb
        refine ⟨y1, ?_⟩
        rw [z2] at y2
        by_cases z : i = t
        · subst z; left; rw [x2]; omega
        · rw [x3 i hi z]; exact y2) hn hP'
      subst t2
      refine ⟨kk + 1, _, 1, c', ⟨by rw [x1, sat]; exact a1, Or.inr (Or.inr ⟨t, t1, rfl, by rw [x2, x1, sat], ?_, ?_⟩)⟩, hkk, he⟩
      · rw [← v_cnt hV ok' rel]; exact t4
      · rw [x1, sat]; omega
theorem r_way_18 {sg : am_G0} (hV : r_VH sg) (a b : Nat) : r_way sg a b ≤ 18 := by
  have hx : ∀ c, r_px sg c ≤ 9 ∧ r_py sg c ≤ 9 := by
    intro c
    unfold r_px r_py
    by_cases h : c < sg 0 0
    · rw [if_pos h, if_pos h]; exact hV.2.2.2.2.1 c h
    · rw [if_neg h, if_neg h]; omega
  have h1 := hx a
  have h2 := hx b
  have hab : ∀ x y, x ≤ 9 → y ≤ 9 → r_ab x y ≤ 9 := by
    intro x y hx hy
    unfold r_ab; split <;> omega
  have h3 := hab _ _ h1.1 h2.1
  have h4 := hab _ _ h1.2 h2.2
  unfold r_way; omega
def v_nh (sg : am_G0) (s t : Nat) : Nat := if r_d6 s t = sg 3 t then 0 else 1
/-- she walks -/
theorem v_walk {sg : am_G0} (hV : r_VH sg) {s a : Nat} (hs : v_ok sg s) (ha : a < sg 0 0) : v_ok sg (a * 1296 + s % 1296) ∧ (a * 1296 + s % 1296) / 1296 = a ∧ (∀ i, i < 4 → r_d6 (a * 1296 + s % 1296) i = r_d6 s i) ∧ r_E1 sg s (a * 1296 + s % 1296) (r_way sg (s / 1296) a) := by
  have v0 := hV.1
  have v1 := hV.2.1
  obtain ⟨s1, s2, s3, s4⟩ := hs
  have e := d6_mv (s := a * 1296 + s % 1296) (s' := s) (by omega)
  have at' : (a * 1296 + s % 1296) / 1296 = a := by omega
  exact ⟨⟨by omega, Or.inl (by rw [at']; exact ha), fun t ht => by rw [e t (by omega)]; exact s3 t ht, fun t ht h4 => by rw [e t h4]; exact s4 t ht h4⟩, at', e, ⟨by rw [at']; exact ha, Or.inl ⟨by omega, s2, by rw [at']⟩⟩⟩
/-- she takes -/
theorem v_take {sg : am_G0} (hV : r_VH sg) {s t : Nat} (hs : v_ok sg s) (ht : t < sg 0 1) (hat : s / 1296 < sg 0 0) (hd : r_d6 s t = s / 1296 ∨ (r_d6 s t = 5 ∧ sg 3 t = s / 1296)) : ∃ s', v_ok sg s' ∧ s' / 1296 = s / 1296 ∧ r_d6 s' t = 4 ∧ (∀ i, i < 4 → ¬ i = t → r_d6 s' i = r_d6 s i) ∧ r_E1 sg s s' 1 := by
  have v0 := hV.1
  have v1 := hV.2.1
  obtain ⟨s1, s2, s3, s4⟩ := hs
  have ok : ∀ s', s' / 1296 = s / 1296 → r_d6 s' t = 4 → (∀ i, i < 4 → ¬ i = t → r_d6 s' i = r_d6 s i) → v_ok sg s' := fun s' g1 g2 g3 => ⟨by omega, Or.inl (by rw [g1]; exact hat), fun i hi => by
    by_cases z : i = t
    · subst z; exact Or.inr (Or.inl g2)
    · rw [g3 i (by omega) z]; exact s3 i hi, fun i hi h4 => by
    have z : ¬ i = t := by omega
    rw [g3 i h4 z]; exact s4 i hi h4⟩
  rcases hd with y | ⟨y, yo⟩
  · have le : s / 1296 * 6 ^ t ≤ 4 * 6 ^ t := Nat.mul_le_mul_right _ (by omega)
    obtain ⟨x1, x2, x3⟩ := d6_set (s := s) (s' := s + 4 * 6 ^ t - s / 1296 * 6 ^ t) (q := 4) (by omega) y (by omega) (by omega)
    exact ⟨_, ok _ x1 x2 x3, x1, x2, x3, ⟨by rw [x1]; exact hat, Or.inr (Or.inl ⟨t, ht, rfl, x2, Or.inl (by rw [x1]; omega)⟩)⟩⟩
  · have wy := w_d6 y
    obtain ⟨x1, x2, x3⟩ := d6_set (s := s) (s' := s - 6 ^ t) (q := 4) (by omega) y (by omega) (by omega)
    exact ⟨_, ok _ x1 x2 x3, x1, x2, x3, ⟨by rw [x1]; exact hat, Or.inr (Or.inl ⟨t, ht, rfl, x2, Or.inr ⟨by rw [x1]; exact yo, by omega⟩⟩)⟩⟩
/-- she leaves a thing -/
theorem v_leave {sg : am_G0} (hV : r_VH sg) {s t : Nat} (hs : v_ok sg s) (ht : t < sg 0 1) (hat : s / 1296 < sg 0 0) (hd : r_d6 s t = 4) (hh : r_h6 s 4 ≤ sg 0 2) : ∃ s', v_ok sg s' ∧ s' / 1296 = s / 1296 ∧ r_d6 s' t = s / 1296 ∧ (∀ i, i < 4 → ¬ i = t → r_d6 s' i = r_d6 s i) ∧ r_h6 s' 4 + 1 = r_h6 s 4 ∧ r_E1 sg s s' 1 := by
  have v0 := hV.1
  have v1 := hV.2.1
  obtain ⟨s1, s2, s3, s4⟩ := hs
  have wy := w_d6 hd
  obtain ⟨x1, x2, x3⟩ := d6_set (s := s) (s' := s + s / 1296 * 6 ^ t - 4 * 6 ^ t) (q := s / 1296) (by omega) hd (by omega) (by omega)
  have cnt : r_h6 (s + s / 1296 * 6 ^ t - 4 * 6 ^ t) 4 + 1 = r_h6 s 4 := by
    rw [r_h6_sum, r_h6_sum]
    have q := r_sum_one (f := fun i => if (if i < 4 then r_d6 s i else 0) = 4 then 1 else 0) (g := fun i => if (if i < 4 then r_d6 (s + s / 1296 * 6 ^ t - 4 * 6 ^ t) i else 0) = 4 then 1 else 0) (j := t) (d := 1) 4 (by omega) (fun i hi => by
      by_cases z : i < 4
      · simp only [if_pos z, x3 i z hi]
      · simp only [if_neg z]) (by
      have t4 : t < 4 := by omega
      simp only [if_pos t4, x2, hd]
      rw [if_pos trivial, if_neg (by omega)])
    have e1 := r_sum_c (f := fun i => if (if i < 4 then r_d6 s i else 0) = 4 then 1 else 0) (g := fun i => if r_d6 s i = 4 then 1 else 0) 4 (fun i hi => by simp only [if_pos hi])
    have e2 := r_sum_c (f := fun i => if (if i < 4 then r_d6 (s + s / 1296 * 6 ^ t - 4 * 6 ^ t) i else 0) = 4 then 1 else 0) (g := fun i => if r_d6 (s + s / 1296 * 6 ^ t - 4 * 6 ^ t) i = 4 then 1 else 0) 4 (fun i hi => by simp only [if_pos hi])
    omega
  refine ⟨_, ⟨by omega, Or.inl (by rw [x1]; exact hat), fun i hi => ?_, fun i hi h4 => ?_⟩, x1, x2, x3, cnt, ⟨by rw [x1]; exact hat, Or.inr (Or.inr ⟨t, ht, rfl, by rw [x2, x1], by omega, by rw [x1]; omega⟩)⟩⟩
  · by_cases z : i = t
    · subst z; rw [x2]; exact Or.inl hat
    · rw [x3 i (by omega) z]; exact s3 i hi
  · have z : ¬ i = t := by omega
    rw [x3 i h4 z]; exact s4 i hi h4
