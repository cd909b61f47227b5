/-! a path is always there -/
theorem r_h6_c {s s' : Nat} (h : ∀ i, i < 4 → r_d6 s' i = r_d6 s i) : r_h6 s' 4 = r_h6 s 4 := by
  rw [r_h6_sum, r_h6_sum]
  refine r_sum_c 4 fun t ht => ?_
  show (if r_d6 s' t = 4 then 1 else 0) = (if r_d6 s t = 4 then 1 else 0)
  rw [h t ht]
theorem r_h6_up {s s' t : Nat} (ht : t < 4) (h4 : ¬ r_d6 s t = 4) (h5 : r_d6 s' t = 4) (h : ∀ i, i < 4 → ¬ i = t → r_d6 s' i = r_d6 s i) : r_h6 s' 4 = r_h6 s 4 + 1 := by
  rw [r_h6_sum, r_h6_sum]
  have q := r_sum_one (f := fun i => if (if i < 4 then r_d6 s' i else 0) = 4 then 1 else 0) (g := fun i => if (if i < 4 then r_d6 s i else 0) = 4 then 1 else 0) (j := t) (d := 1) 4 ht (fun i hi => by
    by_cases z : i < 4
    · simp only [if_pos z, h i z hi]
    · simp only [if_neg z]) (by
    simp only [if_pos ht, h5, if_neg h4]; rfl)
  have e1 := r_sum_c (f := fun i => if (if i < 4 then r_d6 s' i else 0) = 4 then 1 else 0) (g := fun i => if r_d6 s' i = 4 then 1 else 0) 4 (fun i hi => by simp only [if_pos hi])
  have e2 := r_sum_c (f := fun i => if (if i < 4 then r_d6 s i else 0) = 4 then 1 else 0) (g := fun i => if r_d6 s i = 4 then 1 else 0) 4 (fun i hi => by simp only [if_pos hi])
  omega
theorem r_sum_pos {f : Nat → Nat} : ∀ n, 0 < r_sum f n → ∃ t, t < n ∧ 0 < f t
  | 0, h => absurd h (by show ¬ 0 < 0; omega)
  | n + 1, h => by
    by_cases c : 0 < f n
    · exact ⟨n, by omega, c⟩
    · have e : r_sum f (n + 1) = r_sum f n + f n := rfl
      obtain ⟨t, h1, h2⟩ := r_sum_pos (f := f) n (by omega)
      exact ⟨t, by omega, h2⟩
theorem v_full : ∀ n, n < 5 → r_pc 4 (2 ^ n - 1) = n ∧ 2 ^ n - 1 < 2 ^ n := by decide
theorem v_nh_dn {sg : am_G0} {s s' t : Nat} (ht : t < sg 0 1) (hn : sg 0 1 ≤ 4) (h1 : ¬ r_d6 s t = sg 3 t) (h2 : r_d6 s' t = sg 3 t) (h : ∀ i, i < 4 → ¬ i = t → r_d6 s' i = r_d6 s i) : r_sum (v_nh sg s') (sg 0 1) + 1 = r_sum (v_nh sg s) (sg 0 1) := by
  have q := r_sum_one (f := fun i => if i < 4 then v_nh sg s i else 0) (g := fun i => if i < 4 then v_nh sg s' i else 0) (j := t) (d := 1) (sg 0 1) ht (fun i hi => by
    by_cases z : i < 4
    · simp only [if_pos z]; unfold v_nh; rw [h i z hi]
    · simp only [if_neg z]) (by
    have t4 : t < 4 := by omega
    simp only [if_pos t4]; unfold v_nh; rw [if_neg h1, if_pos h2])
  have e1 := r_sum_c (f := fun i => if i < 4 then v_nh sg s i else 0) (g := v_nh sg s) (sg 0 1) (fun i hi => by simp only [if_pos (show i < 4 by omega)])
  have e2 := r_sum_c (f := fun i => if i < 4 then v_nh sg s' i else 0) (g := v_nh sg s') (sg 0 1) (fun i hi => by simp only [if_pos (show i < 4 by omega)])
  omega
theorem v_path {sg : am_G0} (hV : r_VH sg) {n : Nat} (hn : n ≤ sg 0 1) : ∀ m s, v_ok sg s → r_h6 s 4 ≤ sg 0 2 → r_sum (v_nh sg s) (sg 0 1) ≤ m → ∃ kk c, r_P1 sg n kk s c ∧ c ≤ 38 * m := by
  have v0 := hV.1
  have v1 := hV.2.1
  have v2 := hV.2.2.1.1
  intro m
  induction m with
  | zero =>
    intro s hs hh hm
    have home : ∀ t, t < sg 0 1 → r_d6 s t = sg 3 t := by
      intro t ht
      by_cases z : r_d6 s t = sg 3 t
      · exact z
      · have q := r_sum_lt (f := fun i => if i = t then 0 else v_nh sg s i) (g := v_nh sg s) (k := t) (fun i => by
          show (if i = t then 0 else v_nh sg s i) ≤ _
          split <;> omega) (by
          show (if t = t then 0 else v_nh sg s t) < v_nh sg s t
          rw [if_pos rfl]; unfold v_nh; rw [if_neg z]; omega) (sg 0 1) ht
        omega
    obtain ⟨f1, f2⟩ := v_full (sg 0 1) (by omega)
    have tb : ∀ t, (2 ^ sg 0 1 - 1).testBit t = decide (t < sg 0 1) := fun t => Nat.testBit_two_pow_sub_one _ _
    refine ⟨0, 0, ⟨⟨2 ^ sg 0 1 - 1, s / 1296, f2, by omega, by have := hs.2.1; omega, ?_⟩, rfl⟩, by omega⟩
    have e := d6_of s
    rw [r_g6_sum]
    have e2 : w_sum (r_d6 s) 4 = w_sum (fun t => if (2 ^ sg 0 1 - 1).testBit t = true then sg 3 t else 5) 4 := by
      refine w_sum_c 4 fun t ht => ?_
      rw [tb]
      by_cases z : t < sg 0 1
      · rw [if_pos (decide_eq_true z)]; exact home t z
      · rw [if_neg (by rw [decide_eq_false z]; decide)]; exact hs.2.2.2 t (by omega) ht
    rw [← e2]; exact e
  | succ m ih =>
    intro s hs hh hm
    by_cases hle : r_sum (v_nh sg s) (sg 0 1) ≤ m
    · obtain ⟨kk, c, h1, h2⟩ := ih s hs hh hle
      exact ⟨kk, c, h1, by omega⟩
    by_cases hA : ∃ t, t < sg 0 1 ∧ r_d6 s t = 4
    · obtain ⟨t, ht, h4⟩ := hA
      have o := (hV.2.2.2.2.2 t ht).1
      obtain ⟨a1, a2, a3, a4⟩ := v_walk hV hs o
      obtain ⟨s2, b1, b2, b3, b4, b5, b6⟩ := v_leave hV a1 ht (by rw [a2]; exact o) (by rw [a3 t (by omega)]; exact h4) (by rw [r_h6_c a3]; exact hh)
      rw [r_h6_c a3] at b5
      have dn := v_nh_dn (sg := sg) (s := s) (s' := s2) ht v1 (by omega) (by rw [b3, a2]) (fun i hi hit => by rw [b4 i hi hit, a3 i hi])
      obtain ⟨kk, c, h1, h2⟩ := ih s2 b1 (by omega) (by omega)
      have w := r_way_18 hV (s / 1296) (sg 3 t)
      exact ⟨kk + 1 + 1, _, ⟨_, _, _, a4, ⟨s2, 1, c, b6, h1, rfl⟩, rfl⟩, by omega⟩
    · have no4 : ∀ t, t < sg 0 1 → ¬ r_d6 s t = 4 := fun t ht h4 => hA ⟨t, ht, h4⟩
      obtain ⟨t, ht, hp⟩ := r_sum_pos (f := v_nh sg s) (sg 0 1) (by omega)
      have hne : ¬ r_d6 s t = sg 3 t := fun q => by
        unfold v_nh at hp
        rw [if_pos q] at hp
        omega
      have o := (hV.2.2.2.2.2 t ht).1
      have t4 : t < 4 := by omega
      have h60 : r_h6 s 4 = 0 := by
        rw [r_h6_sum]
        have e := r_sum_z (f := fun i => if r_d6 s i = 4 then 1 else 0) (n := 0) 4 (fun i _ hi => by
          show (if r_d6 s i = 4 then 1 else 0) = 0
          by_cases z : i < sg 0 1
          · rw [if_neg (no4 i z)]
          · rw [hs.2.2.2 i (by omega) (by omega)]; rfl)
        rw [Nat.zero_add] at e
        rw [e]; rfl
      have fin : ∀ s1, v_ok sg s1 → r_d6 s1 t = 4 → r_h6 s1 4 = 1 → (∀ i, i < 4 → ¬ i = t → r_d6 s1 i = r_d6 s i) → s1 / 1296 < sg 0 0 → ∃ kk c, r_P1 sg n kk s1 c ∧ c ≤ 19 + 38 * m := by
        intro s1 g1 g2 g3 g4 g5
        obtain ⟨a1, a2, a3, a4⟩ := v_walk hV g1 o
        obtain ⟨s2, b1, b2, b3, b4, b5, b6⟩ := v_leave hV a1 ht (by rw [a2]; exact o) (by rw [a3 t t4]; exact g2) (by rw [r_h6_c a3]; omega)
        rw [r_h6_c a3] at b5
        have dn := v_nh_dn (sg := sg) (s := s) (s' := s2) ht v1 hne (by rw [b3, a2]) (fun i hi hit => by rw [b4 i hi hit, a3 i hi, g4 i hi hit])
        obtain ⟨kk, c, h1, h2⟩ := ih s2 b1 (by omega) (by omega)
        have w := r_way_18 hV (s1 / 1296) (sg 3 t)
        exact ⟨kk + 1 + 1, _, ⟨_, _, _, a4, ⟨s2, 1, c, b6, h1, rfl⟩, rfl⟩, by omega⟩
      rcases hs.2.2.1 t ht with p | p | p
      · obtain ⟨a1, a2, a3, a4⟩ := v_walk hV hs p
        obtain ⟨s1, b1, b2, b3, b4, b5⟩ := v_take hV a1 ht (by rw [a2]; exact p) (Or.inl (by rw [a3 t t4, a2]))
        have up := r_h6_up t4 (by rw [a3 t t4]; exact no4 t ht) b3 b4
        rw [r_h6_c a3] at up
        obtain ⟨kk, c, h1, h2⟩ := fin s1 b1 b3 (by omega) (fun i hi hit => by rw [b4 i hi hit, a3 i hi]) (by rw [b2, a2]; exact p)
        have w := r_way_18 hV (s / 1296) (r_d6 s t)
        exact ⟨kk + 1 + 1, _, ⟨_, _, _, a4, ⟨s1, 1, c, b5, h1, rfl⟩, rfl⟩, by omega⟩
      · exact absurd p (no4 t ht)
      · obtain ⟨a1, a2, a3, a4⟩ := v_walk hV hs o
        obtain ⟨s1, b1, b2, b3, b4, b5⟩ := v_take hV a1 ht (by rw [a2]; exact o) (Or.inr ⟨by rw [a3 t t4]; exact p, a2.symm⟩)
        have up := r_h6_up t4 (by rw [a3 t t4]; exact no4 t ht) b3 b4
        rw [r_h6_c a3] at up
        obtain ⟨kk, c, h1, h2⟩ := fin s1 b1 b3 (by omega) (fun i hi hit => by rw [b4 i hi hit, a3 i hi]) (by rw [b2, a2]; exact o)
        have w := r_way_18 hV (s / 1296) (sg 3 t)
        exact ⟨kk + 1 + 1, _, ⟨_, _, _, a4, ⟨s1, 1, c, b5, h1, rfl⟩, rfl⟩, by omega⟩
/-! the two tables, one beside the other -/
theorem v_one {sg : am_G0} (hV : r_VH sg) {n s : Nat} (hn : n ≤ sg 0 1) (hs : v_ok sg s) (hh : r_h6 s 4 ≤ sg 0 2) {v : Nat} (hv : r_least (fun c => c < 256 ∧ ∃ k, r_P1 sg n k s c) 4095 v) : v < 256 ∧ (∃ k, r_P1 sg n k s v) ∧ ∀ c k, r_P1 sg n k s c → v ≤ c := by
  have v1 := hV.2.1
  have sle : r_sum (v_nh sg s) (sg 0 1) ≤ sg 0 1 := r_sum_le (fun t => by unfold v_nh; split <;> omega) _
  obtain ⟨kk, c, h1, h2⟩ := v_path hV hn (sg 0 1) s hs hh sle
  rcases hv with ⟨⟨a1, a2⟩, a3⟩ | ⟨-, a3⟩
  · refine ⟨a1, a2, fun c k hP => ?_⟩
    by_cases z : c < 256
    · exact a3 c ⟨z, k, hP⟩
    · omega
  · exact absurd ⟨by omega, kk, h1⟩ (a3 c)
/-- n = 0: any state and its case -/
theorem v_zero {sg : am_G0} (hV : r_VH sg) {s k v w : Nat} (hs : v_ok sg s) (hh : r_h6 s 4 ≤ sg 0 2) (hr : v_rel sg s 0 k) (hv : r_least (fun c => c < 256 ∧ ∃ k, r_P1 sg 0 k s c) 4095 v) (hw : r_least (fun c => c < 100000 ∧ ∃ j, r_P2 sg (5 ^ (1 + sg 0 1)) j k c) 100000 w) : v = w := by
  obtain ⟨b1, ⟨kk, b2⟩, b3⟩ := v_one hV (Nat.zero_le _) hs hh hv
  have hk := v_fin hr.2.1 (Nat.two_pow_pos _)
  obtain ⟨rr, r1, r2, r3, r4⟩ := p12 hV kk s v hs b2
  obtain ⟨j, hj⟩ := r4 0 k (Nat.two_pow_pos _) (fun t _ hb => by rw [Nat.zero_testBit] at hb; exact absurd hb (by decide)) hr
  have le : w ≤ v := by
    rcases hw with ⟨-, a⟩ | ⟨-, a⟩
    · exact a v ⟨by omega, j, hj⟩
    · exact absurd ⟨by omega, j, hj⟩ (a v)
  rcases hw with ⟨⟨a1, j2, a2⟩, -⟩ | ⟨a, -⟩
  · obtain ⟨k2, h2⟩ := p21 hV (n := 0) j2 k w s 0 hs hk (by rw [hr.2.1]; exact hr) (fun t _ hb => by rw [hr.2.1, Nat.zero_testBit] at hb; exact absurd hb (by decide)) (fun t _ hb => by rw [Nat.zero_testBit] at hb; exact absurd hb (by decide)) (Nat.zero_le _) a2
    have := b3 w k2 h2
    omega
  · omega
