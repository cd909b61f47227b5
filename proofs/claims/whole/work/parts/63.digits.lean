/-! digits changed -/
theorem d6_set {s s' t p q : Nat} (ht : t < 4) (hp : r_d6 s t = p) (hq : q < 6) (he : s' + p * 6 ^ t = s + q * 6 ^ t) : s' / 1296 = s / 1296 ∧ r_d6 s' t = q ∧ ∀ i, i < 4 → ¬ i = t → r_d6 s' i = r_d6 s i := by
  unfold r_d6 at *
  match t, ht with
  | 0, _ =>
    have hp' : s / 1 % 6 = p := hp
    have he' : s' + p * 1 = s + q * 1 := he
    refine ⟨by omega, show s' / 1 % 6 = q by omega, fun i hi hit => ?_⟩
    match i, hi with
    | 0, _ => exact absurd rfl hit
    | 1, _ => show s' / 6 % 6 = s / 6 % 6; omega
    | 2, _ => show s' / 36 % 6 = s / 36 % 6; omega
    | 3, _ => show s' / 216 % 6 = s / 216 % 6; omega
    | i + 4, z => exact absurd z (by omega)
  | 1, _ =>
    have hp' : s / 6 % 6 = p := hp
    have he' : s' + p * 6 = s + q * 6 := he
    refine ⟨by omega, show s' / 6 % 6 = q by omega, fun i hi hit => ?_⟩
    match i, hi with
    | 0, _ => show s' / 1 % 6 = s / 1 % 6; omega
    | 1, _ => exact absurd rfl hit
    | 2, _ => show s' / 36 % 6 = s / 36 % 6; omega
    | 3, _ => show s' / 216 % 6 = s / 216 % 6; omega
    | i + 4, z => exact absurd z (by omega)
  | 2, _ =>
    have hp' : s / 36 % 6 = p := hp
    have he' : s' + p * 36 = s + q * 36 := he
    refine ⟨by omega, show s' / 36 % 6 = q by omega, fun i hi hit => ?_⟩
    match i, hi with
    | 0, _ => show s' / 1 % 6 = s / 1 % 6; omega
    | 1, _ => show s' / 6 % 6 = s / 6 % 6; omega
    | 2, _ => exact absurd rfl hit
    | 3, _ => show s' / 216 % 6 = s / 216 % 6; omega
    | i + 4, z => exact absurd z (by omega)
  | 3, _ =>
    have hp' : s / 216 % 6 = p := hp
    have he' : s' + p * 216 = s + q * 216 := he
    refine ⟨by omega, show s' / 216 % 6 = q by omega, fun i hi hit => ?_⟩
    match i, hi with
    | 0, _ => show s' / 1 % 6 = s / 1 % 6; omega
    | 1, _ => show s' / 6 % 6 = s / 6 % 6; omega
    | 2, _ => show s' / 36 % 6 = s / 36 % 6; omega
    | 3, _ => exact absurd rfl hit
    | i + 4, z => exact absurd z (by omega)
  | t + 4, z => exact absurd z (by omega)
theorem d6_mv {s s' : Nat} (h : s % 1296 = s' % 1296) : ∀ i, i < 4 → r_d6 s i = r_d6 s' i := by
  intro i hi
  unfold r_d6
  match i, hi with
  | 0, _ => show s / 1 % 6 = s' / 1 % 6; omega
  | 1, _ => show s / 6 % 6 = s' / 6 % 6; omega
  | 2, _ => show s / 36 % 6 = s' / 36 % 6; omega
  | 3, _ => show s / 216 % 6 = s' / 216 % 6; omega
  | i + 4, z => exact absurd z (by omega)
/-- a number by its digits -/
theorem d6_of (s : Nat) : s = s / 1296 * 1296 + w_sum (r_d6 s) 4 := by
  have e : w_sum (r_d6 s) 4 = 0 + s / 1 % 6 * 1 + s / 6 % 6 * 6 + s / 36 % 6 * 36 + s / 216 % 6 * 216 := rfl
  rw [e]; omega
theorem w_sum_c {d e : Nat → Nat} : ∀ n, (∀ t, t < n → d t = e t) → w_sum d n = w_sum e n
  | 0, _ => rfl
  | n + 1, h => by simp only [w_sum, w_sum_c n (fun t ht => h t (by omega)), h n (by omega)]
theorem d6_sum {d : Nat → Nat} (hd : ∀ t, t < 4 → d t < 6) (a : Nat) : (a * 1296 + w_sum d 4) / 1296 = a ∧ ∀ t, t < 4 → r_d6 (a * 1296 + w_sum d 4) t = d t := by
  have d0 := hd 0 (by omega)
  have d1 := hd 1 (by omega)
  have d2 := hd 2 (by omega)
  have d3 := hd 3 (by omega)
  have e : w_sum d 4 = 0 + d 0 * 1 + d 1 * 6 + d 2 * 36 + d 3 * 216 := rfl
  rw [e]
  refine ⟨by omega, fun t ht => ?_⟩
  unfold r_d6
  match t, ht with
  | 0, _ => show _ / 1 % 6 = d 0; omega
  | 1, _ => show _ / 6 % 6 = d 1; omega
  | 2, _ => show _ / 36 % 6 = d 2; omega
  | 3, _ => show _ / 216 % 6 = d 3; omega
  | t + 4, z => exact absurd z (by omega)
theorem d5_set {n k k' t p q : Nat} (hn : n ≤ 4) (ht : t < n) (hp : r_d5 k t = p) (hq : q < 5) (he : k' + p * 5 ^ (1 + t) = k + q * 5 ^ (1 + t)) : k' % 5 = k % 5 ∧ k' / 5 ^ (1 + n) = k / 5 ^ (1 + n) ∧ r_d5 k' t = q ∧ ∀ i, i < n → ¬ i = t → r_d5 k' i = r_d5 k i := by
  have ht4 : t < 4 := by omega
  have core : k' % 5 = k % 5 ∧ r_d5 k' t = q ∧ (∀ i, i < 4 → ¬ i = t → r_d5 k' i = r_d5 k i) ∧ ∀ m, m ≤ 4 → t < m → k' / 5 ^ (1 + m) = k / 5 ^ (1 + m) := by
    unfold r_d5 at *
    match t, ht4 with
    | 0, _ =>
      have hp' : k / 5 % 5 = p := hp
      have he' : k' + p * 5 = k + q * 5 := he
      refine ⟨by omega, show k' / 5 % 5 = q by omega, fun i hi hit => ?_, fun m hm htm => ?_⟩
      · match i, hi with
        | 0, _ => exact absurd rfl hit
        | 1, _ => show k' / 25 % 5 = k / 25 % 5; omega
        | 2, _ => show k' / 125 % 5 = k / 125 % 5; omega
        | 3, _ => show k' / 625 % 5 = k / 625 % 5; omega
        | i + 4, z => exact absurd z (by omega)
      · match m, hm with
        | 0, _ => exact absurd htm (by omega)
        | 1, _ => show k' / 25 = k / 25; omega
        | 2, _ => show k' / 125 = k / 125; omega
        | 3, _ => show k' / 625 = k / 625; omega
        | 4, _ => show k' / 3125 = k / 3125; omega
        | m + 5, z => exact absurd z (by omega)
    | 1, _ =>
      have hp' : k / 25 % 5 = p := hp
      have he' : k' + p * 25 = k + q * 25 := he
      refine ⟨by omega, show k' / 25 % 5 = q by omega, fun i hi hit => ?_, fun m hm htm => ?_⟩
      · match i, hi with
        | 0, _ => show k' / 5 % 5 = k / 5 % 5; omega
        | 1, _ => exact absurd rfl hit
        | 2, _ => show k' / 125 % 5 = k / 125 % 5; omega
        | 3, _ => show k' / 625 % 5 = k / 625 % 5; omega
        | i + 4, z => exact absurd z (by omega)
      · match m, hm with
        | 0, _ => exact absurd htm (by omega)
        | 1, _ => exact absurd htm (by omega)
        | 2, _ => show k' / 125 = k / 125; omega
        | 3, _ => show k' / 625 = k / 625; omega
        | 4, _ => show k' / 3125 = k / 3125; omega
        | m + 5, z => exact absurd z (by omega)
    | 2, _ =>
      have hp' : k / 125 % 5 = p := hp
      have he' : k' + p * 125 = k + q * 125 := he
      refine ⟨by omega, show k' / 125 % 5 = q by omega, fun i hi hit => ?_, fun m hm htm => ?_⟩
      · match i, hi with
        | 0, _ => show k' / 5 % 5 = k / 5 % 5; omega
        | 1, _ => show k' / 25 % 5 = k / 25 % 5; omega
        | 2, _ => exact absurd rfl hit
        | 3, _ => show k' / 625 % 5 = k / 625 % 5; omega
        | i + 4, z => exact absurd z (by omega)
      · match m, hm with
        | 0, _ => exact absurd htm (by omega)
        | 1, _ => exact absurd htm (by omega)
        | 2, _ => exact absurd htm (by omega)
        | 3, _ => show k' / 625 = k / 625; omega
        | 4, _ => show k' / 3125 = k / 3125; omega
        | m + 5, z => exact absurd z (by omega)
    | 3, _ =>
      have hp' : k / 625 % 5 = p := hp
      have he' : k' + p * 625 = k + q * 625 := he
      refine ⟨by omega, show k' / 625 % 5 = q by omega, fun i hi hit => ?_, fun m hm htm => ?_⟩
      · match i, hi with
        | 0, _ => show k' / 5 % 5 = k / 5 % 5; omega
        | 1, _ => show k' / 25 % 5 = k / 25 % 5; omega
        | 2, _ => show k' / 125 % 5 = k / 125 % 5; omega
        | 3, _ => exact absurd rfl hit
        | i + 4, z => exact absurd z (by omega)
      · match m, hm with
        | 0, _ => exact absurd htm (by omega)
        | 1, _ => exact absurd htm (by omega)
        | 2, _ => exact absurd htm (by omega)
        | 3, _ => exact absurd htm (by omega)
        | 4, _ => show k' / 3125 = k / 3125; omega
        | m + 5, z => exact absurd z (by omega)
    | t + 4, z => exact absurd z (by omega)
  exact ⟨core.1, core.2.2.2 n hn ht, core.2.1, fun i hi hit => core.2.2.1 i (by omega) hit⟩
/-- more to be read -/
theorem d5_add {n k m : Nat} (hn : n ≤ 4) : (k + 5 ^ (1 + n) * m) % 5 = k % 5 ∧ (k + 5 ^ (1 + n) * m) / 5 ^ (1 + n) = k / 5 ^ (1 + n) + m ∧ ∀ i, i < n → r_d5 (k + 5 ^ (1 + n) * m) i = r_d5 k i := by
  unfold r_d5
  match n, hn with
  | 0, _ => exact ⟨by show (k + 5 * m) % 5 = k % 5; omega, by show (k + 5 * m) / 5 = k / 5 + m; omega, fun i hi => absurd hi (by omega)⟩
  | 1, _ =>
    refine ⟨by show (k + 25 * m) % 5 = k % 5; omega, by show (k + 25 * m) / 25 = k / 25 + m; omega, fun i hi => ?_⟩
    match i, hi with
    | 0, _ => show (k + 25 * m) / 5 % 5 = k / 5 % 5; omega
    | i + 1, z => exact absurd z (by omega)
  | 2, _ =>
    refine ⟨by show (k + 125 * m) % 5 = k % 5; omega, by show (k + 125 * m) / 125 = k / 125 + m; omega, fun i hi => ?_⟩
    match i, hi with
    | 0, _ => show (k + 125 * m) / 5 % 5 = k / 5 % 5; omega
    | 1, _ => show (k + 125 * m) / 25 % 5 = k / 25 % 5; omega
    | i + 2, z => exact absurd z (by omega)
  | 3, _ =>
    refine ⟨by show (k + 625 * m) % 5 = k % 5; omega, by show (k + 625 * m) / 625 = k / 625 + m; omega, fun i hi => ?_⟩
    match i, hi with
    | 0, _ => show (k + 625 * m) / 5 % 5 = k / 5 % 5; omega
    | 1, _ => show (k + 625 * m) / 25 % 5 = k / 25 % 5; omega
    | 2, _ => show (k + 625 * m) / 125 % 5 = k / 125 % 5; omega
    | i + 3, z => exact absurd z (by omega)
  | 4, _ =>
    refine ⟨by show (k + 3125 * m) % 5 = k % 5; omega, by show (k + 3125 * m) / 3125 = k / 3125 + m; omega, fun i hi => ?_⟩
    match i, hi with
    | 0, _ => show (k + 3125 * m) / 5 % 5 = k / 5 % 5; omega
    | 1, _ => show (k + 3125 * m) / 25 % 5 = k / 25 % 5; omega
    | 2, _ => show (k + 3125 * m) / 125 % 5 = k / 125 % 5; omega
    | 3, _ => show (k + 3125 * m) / 625 % 5 = k / 625 % 5; omega
    | i + 4, z => exact absurd z (by omega)
  | n + 5, z => exact absurd z (by omega)
theorem d5_mv {n k k' : Nat} (hn : n ≤ 4) (h : k / 5 = k' / 5) : k / 5 ^ (1 + n) = k' / 5 ^ (1 + n) ∧ ∀ i, i < n → r_d5 k i = r_d5 k' i := by
  have e : ∀ x m, x / 5 ^ (1 + m) = x / 5 / 5 ^ m := fun x m => by rw [Nat.div_div_eq_div_mul, Nat.pow_add, Nat.pow_one]
  refine ⟨by rw [e k, e k', h], fun i hi => ?_⟩
  unfold r_d5
  rw [e k, e k', h]
theorem d5_sum {d : Nat → Nat} {a : Nat} (ha : a < 5) : ∀ n, (∀ t, t < n → d t < 5) → (a + f_sum d n) % 5 = a ∧ a + f_sum d n < 5 ^ (1 + n) ∧ ∀ t, t < n → r_d5 (a + f_sum d n) t = d t
  | 0, _ => ⟨Nat.mod_eq_of_lt ha, ha, fun t ht => absurd ht (by omega)⟩
  | n + 1, h => by
    obtain ⟨h1, h2, h3⟩ := d5_sum ha n (fun t ht => h t (by omega))
    have hd := h n (by omega)
    have e : a + f_sum d (n + 1) = (a + f_sum d n) + 5 ^ (1 + n) * d n := by
      simp only [f_sum]; rw [Nat.mul_comm (d n)]; omega
    have z := Nat.two_pow_pos 0
    have p5 : 0 < 5 ^ (1 + n) := Nat.pow_pos (by omega)
    have m5 : 5 ^ (1 + n) * d n % 5 = 0 := by
      rw [Nat.pow_add, Nat.pow_one, Nat.mul_assoc]; exact Nat.mul_mod_right _ _
    refine ⟨by rw [e]; omega, f_sum_lt (n + 1) h a ha, fun t ht => ?_⟩
    rw [e]
    by_cases q : t = n
    · subst q
      unfold r_d5
      rw [Nat.add_mul_div_left _ _ p5, Nat.div_eq_of_lt h2]
      omega
    · have ht2 : t < n := by omega
      rw [← h3 t ht2]
      unfold r_d5
      obtain ⟨j, hj⟩ : ∃ j, n = t + (1 + j) := ⟨n - t - 1, by omega⟩
      have e2 : 5 ^ (1 + n) * d n = 5 ^ (1 + t) * (5 * (5 ^ j * d n)) := by
        rw [hj, show 1 + (t + (1 + j)) = (1 + t) + (1 + j) by omega, Nat.pow_add, Nat.pow_add 5 1 j, Nat.pow_one]
        simp only [Nat.mul_assoc]
      rw [e2, Nat.add_mul_div_left _ _ (Nat.pow_pos (by omega))]
      omega
