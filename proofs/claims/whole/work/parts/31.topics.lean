/-! topics joined: the class's groups, the model's ways through, the same -/
def k_q (sg : am_G0) (t : Nat) : Nat := if (sg 7 2).testBit t then k_ix (sg 5 t) (sg 6 t) else 0
def k_mem (q : Nat → Nat) : Nat → Nat → Bool
  | 0, _ => false
  | t + 1, x => k_mem q t x || q t == x
def k_or (q : Nat → Nat) : Nat → Nat
  | 0 => 0
  | t + 1 => k_or q t ||| k_cd (q t)
def k_al (q : Nat → Nat) : Nat → Nat
  | 0 => 0
  | t + 1 => k_al q t + (if q t = 0 ∨ k_mem q t (q t) = true then 0 else 1)
theorem k_al_pn {q : Nat → Nat} (hq : ∀ t, t < 4 → q t < 16) : ∀ n, n ≤ 4 → (∀ t, n ≤ t → q t = 0) → k_pn (k_or q n) = k_al q n := by
  intro n hn hz
  have z : k_cd 0 = 0 := rfl
  have e1 : ∀ m, n + m ≤ 4 → k_or q (n + m) = k_or q n ∧ k_al q (n + m) = k_al q n := by
    intro m
    induction m with
    | zero => intro _; exact ⟨rfl, rfl⟩
    | succ m ih =>
      intro h
      obtain ⟨h1, h2⟩ := ih (by omega)
      have h3 := hz (n + m) (by omega)
      refine ⟨?_, ?_⟩
      · show k_or q (n + m) ||| k_cd (q (n + m)) = _
        rw [h3, z, Nat.or_zero, h1]
      · show k_al q (n + m) + (if q (n + m) = 0 ∨ _ then 0 else 1) = _
        rw [if_pos (Or.inl h3), h2]; rfl
  obtain ⟨h1, h2⟩ := e1 (4 - n) (by omega)
  rw [← h1, ← h2, show n + (4 - n) = 4 by omega]
  have f := k_fin (q 0) (hq 0 (by omega)) (q 1) (hq 1 (by omega)) (q 2) (hq 2 (by omega)) (q 3) (hq 3 (by omega))
  have c1 : (q 1 = 0 ∨ k_mem q 1 (q 1) = true) = (q 1 = 0 ∨ q 1 = q 0) := by
    simp only [k_mem, Bool.false_or, beq_iff_eq]
    apply propext; omega
  have c2 : (q 2 = 0 ∨ k_mem q 2 (q 2) = true) = (q 2 = 0 ∨ q 2 = q 0 ∨ q 2 = q 1) := by
    simp only [k_mem, Bool.false_or, Bool.or_eq_true, beq_iff_eq]
    apply propext; omega
  have c3 : (q 3 = 0 ∨ k_mem q 3 (q 3) = true) = (q 3 = 0 ∨ q 3 = q 0 ∨ q 3 = q 1 ∨ q 3 = q 2) := by
    simp only [k_mem, Bool.false_or, Bool.or_eq_true, beq_iff_eq]
    apply propext; omega
  have c0 : (q 0 = 0 ∨ k_mem q 0 (q 0) = true) = (q 0 = 0) := by
    simp only [k_mem, Bool.false_eq_true, or_false]
  show k_pn ((((0 ||| k_cd (q 0)) ||| k_cd (q 1)) ||| k_cd (q 2)) ||| k_cd (q 3)) = 0 + (if _ then 0 else 1) + (if _ then 0 else 1) + (if _ then 0 else 1) + (if _ then 0 else 1)
  rw [Nat.zero_or, f, Nat.zero_add]
  simp only [c0, c1, c2, c3]
/-- the class's groups -/
def k_J (T : Nat → Nat) (a b : Nat) : Nat → Nat := fun c => if (T a ||| T b).testBit c = true then T a ||| T b else T c
def k_T (sg : am_G0) : Nat → Nat → Nat
  | 0 => fun c => 1 * 2 ^ c
  | t + 1 => if (sg 7 2).testBit t = true then k_J (k_T sg t) (if sg 6 t < sg 5 t then sg 6 t else sg 5 t) (if sg 5 t < sg 6 t then sg 6 t else sg 5 t) else k_T sg t
/-- what the model writes of the twos -/
def k_A (sg : am_G0) : Nat → Nat → Nat
  | 0 => fun c => 1 * 2 ^ c
  | t + 1 => if (sg 7 2).testBit t = true then (fun c => if c = sg 6 t then k_A sg t c ||| 1 * 2 ^ sg 5 t else if c = sg 5 t then k_A sg t c ||| 1 * 2 ^ sg 6 t else k_A sg t c) else k_A sg t
def k_W (A : Nat → Nat) : Nat → Nat → Nat
  | 0 => A
  | k + 1 => fun c => if (k_W A k c).testBit k = true then k_W A k c ||| k_W A k k else k_W A k c
/-- row c holds d -/
def k_R (T : Nat → Nat) (c d : Nat) : Prop := c < 6 ∧ d < 6 ∧ (T c).testBit d = true
def k_eqv (R : Nat → Nat → Prop) : Prop := (∀ c, c < 6 → R c c) ∧ (∀ c d, R c d → R d c) ∧ ∀ c d e, R c d → R d e → R c e
theorem k_tb2 (c d : Nat) : (1 * 2 ^ c).testBit d = decide (c = d) := by
  rw [Nat.one_mul, Nat.testBit_two_pow]
theorem k_lt2 {c : Nat} (h : c < 6) : 1 * 2 ^ c < 64 := by
  have : 2 ^ c < 2 ^ 6 := Nat.pow_lt_pow_right (by omega) h
  omega
theorem k_or64 {a b : Nat} (ha : a < 64) (hb : b < 64) : a ||| b < 64 := Nat.or_lt_two_pow (n := 6) ha hb
theorem k_J_tb {T : Nat → Nat} {a b c d : Nat} : (k_J T a b c).testBit d = if ((T a).testBit c || (T b).testBit c) = true then ((T a).testBit d || (T b).testBit d) else (T c).testBit d := by
  unfold k_J
  rw [Nat.testBit_or]
  split
  · rw [Nat.testBit_or]
  · rfl
theorem k_J_ok {T : Nat → Nat} {a b : Nat} (ha : a < 6) (hb : b < 6) (hT : ∀ c, c < 6 → T c < 64) (hE : k_eqv (k_R T)) : (∀ c, c < 6 → k_J T a b c < 64) ∧ k_eqv (k_R (k_J T a b)) ∧ k_R (k_J T a b) a b ∧ (∀ c d, k_R T c d → k_R (k_J T a b) c d) ∧ ∀ R : Nat → Nat → Prop, k_eqv R → R a b → (∀ c d, k_R T c d → R c d) → ∀ c d, k_R (k_J T a b) c d → R c d := by
  obtain ⟨e1, e2, e3⟩ := hE
  have me : ∀ c, ((T a).testBit c || (T b).testBit c) = true ↔ ((T a).testBit c = true ∨ (T b).testBit c = true) := fun c => Bool.or_eq_true_iff
  have jr : ∀ c d, k_R (k_J T a b) c d ↔ c < 6 ∧ d < 6 ∧ (((k_R T a c ∨ k_R T b c) ∧ (k_R T a d ∨ k_R T b d)) ∨ (¬ (k_R T a c ∨ k_R T b c) ∧ k_R T c d)) := by
    intro c d
    unfold k_R
    rw [k_J_tb]
    constructor
    · rintro ⟨h1, h2, h3⟩
      refine ⟨h1, h2, ?_⟩
      split at h3
      · next h4 =>
        rw [me] at h4 h3
        left
        exact ⟨h4.imp (fun q => ⟨ha, h1, q⟩) (fun q => ⟨hb, h1, q⟩), h3.imp (fun q => ⟨ha, h2, q⟩) (fun q => ⟨hb, h2, q⟩)⟩
      · next h4 =>
        rw [me] at h4
        right
        exact ⟨fun q => h4 (q.imp (fun p => p.2.2) (fun p => p.2.2)), h1, h2, h3⟩
    · rintro ⟨h1, h2, h3⟩
      refine ⟨h1, h2, ?_⟩
      rcases h3 with ⟨h3, h4⟩ | ⟨h3, h4⟩
      · rw [if_pos ((me c).mpr (h3.imp (fun p => p.2.2) (fun p => p.2.2)))]
        exact (me d).mpr (h4.imp (fun p => p.2.2) (fun p => p.2.2))
      · rw [if_neg (fun q => h3 (((me c).mp q).imp (fun p => ⟨ha, h1, p⟩) (fun p => ⟨hb, h1, p⟩)))]
        exact h4.2.2
  have cl : ∀ c d, (k_R T a c ∨ k_R T b c) → k_R T c d → (k_R T a d ∨ k_R T b d) := fun c d h h2 => h.imp (fun p => e3 _ _ _ p h2) (fun p => e3 _ _ _ p h2)
  refine ⟨fun c hc => ?_, ⟨fun c hc => ?_, fun c d h => ?_, fun c d e h1 h2 => ?_⟩, ?_, fun c d h => ?_, fun R r1 r2 r3 c d h => ?_⟩
  · unfold k_J
    split
    · exact k_or64 (hT a ha) (hT b hb)
    · exact hT c hc
  · rw [jr]
    refine ⟨hc, hc, ?_⟩
    by_cases h : k_R T a c ∨ k_R T b c
    · exact Or.inl ⟨h, h⟩
    · exact Or.inr ⟨h, e1 c hc⟩
  · rw [jr] at h ⊢
    obtain ⟨h1, h2, h3⟩ := h
    refine ⟨h2, h1, ?_⟩
    rcases h3 with ⟨h3, h4⟩ | ⟨h3, h4⟩
    · exact Or.inl ⟨h4, h3⟩
    · exact Or.inr ⟨fun q => h3 (cl d c q (e2 _ _ h4)), e2 _ _ h4⟩
  · rw [jr] at h1 h2 ⊢
    obtain ⟨p1, p2, p3⟩ := h1
    obtain ⟨q1, q2, q3⟩ := h2
    refine ⟨p1, q2, ?_⟩
    rcases p3 with ⟨p3, p4⟩ | ⟨p3, p4⟩
    · rcases q3 with ⟨q3, q4⟩ | ⟨q3, q4⟩
      · exact Or.inl ⟨p3, q4⟩
      · exact absurd p4 q3
    · rcases q3 with ⟨q3, q4⟩ | ⟨q3, q4⟩
      · exact absurd (cl d c q3 (e2 _ _ p4)) p3
      · exact Or.inr ⟨p3, e3 _ _ _ p4 q4⟩
  · rw [jr]
    exact ⟨ha, hb, Or.inl ⟨Or.inl (e1 a ha), Or.inr (e1 b hb)⟩⟩
  · rw [jr]
    refine ⟨h.1, h.2.1, ?_⟩
    by_cases h2 : k_R T a c ∨ k_R T b c
    · exact Or.inl ⟨h2, cl c d h2 h⟩
    · exact Or.inr ⟨h2, h⟩
  · obtain ⟨s1, s2, s3⟩ := r1
    rw [jr] at h
    obtain ⟨h1, h2, h3⟩ := h
    rcases h3 with ⟨h3, h4⟩ | ⟨h3, h4⟩
    · have u : R c a := by
        rcases h3 with h3 | h3
        · exact s2 _ _ (r3 _ _ h3)
        · exact s3 _ _ _ (s2 _ _ (r3 _ _ h3)) (s2 _ _ r2)
      have v : R a d := by
        rcases h4 with h4 | h4
        · exact r3 _ _ h4
        · exact s3 _ _ _ r2 (r3 _ _ h4)
      exact s3 _ _ _ u v
    · exact r3 _ _ h4
def k_has (sg : am_G0) (n : Nat) (R : Nat → Nat → Prop) : Prop := ∀ u, u < n → (sg 7 2).testBit u = true → R (sg 5 u) (sg 6 u)
theorem k_T_ok {sg : am_G0} {n : Nat} (hp : ∀ t, t < n → sg 5 t < 6 ∧ sg 6 t < 6 ∧ sg 5 t ≠ sg 6 t) : ∀ t, t ≤ n → (∀ c, c < 6 → k_T sg t c < 64) ∧ k_eqv (k_R (k_T sg t)) ∧ k_has sg t (k_R (k_T sg t)) ∧ ∀ R : Nat → Nat → Prop, k_eqv R → k_has sg t R → ∀ c d, k_R (k_T sg t) c d → R c d := by
  intro t
  induction t with
  | zero =>
    intro _
    have h0 : ∀ c d, k_R (k_T sg 0) c d ↔ c < 6 ∧ c = d := by
      intro c d
      unfold k_R
      show _ ∧ _ ∧ (1 * 2 ^ c).testBit d = true ↔ _
      rw [k_tb2, decide_eq_true_iff]
      omega
    refine ⟨fun c hc => k_lt2 hc, ⟨fun c hc => ?_, fun c d h => ?_, fun c d e h1 h2 => ?_⟩, fun u hu => absurd hu (by omega), fun R r1 _ c d h => ?_⟩
    · rw [h0]; exact ⟨hc, rfl⟩
    · rw [h0] at h ⊢; omega
    · rw [h0] at h1 h2 ⊢; omega
    · rw [h0] at h
      obtain ⟨h1, rfl⟩ := h
      exact r1.1 c h1
  | succ t ih =>
    intro ht
    obtain ⟨i1, i2, i3, i4⟩ := ih (by omega)
    by_cases hb : (sg 7 2).testBit t = true
    · obtain ⟨p1, p2, p3⟩ := hp t (by omega)
      have e : k_T sg (t + 1) = k_J (k_T sg t) (if sg 6 t < sg 5 t then sg 6 t else sg 5 t) (if sg 5 t < sg 6 t then sg 6 t else sg 5 t) := by
        simp only [k_T]; rw [if_pos hb]
      obtain ⟨j1, j2, j3, j4, j5⟩ := k_J_ok (T := k_T sg t) (a := if sg 6 t < sg 5 t then sg 6 t else sg 5 t) (b := if sg 5 t < sg 6 t then sg 6 t else sg 5 t) (by split <;> omega) (by split <;> omega) i1 i2
      rw [← e] at j1 j2 j3 j4 j5
      have jn : k_R (k_T sg (t + 1)) (sg 5 t) (sg 6 t) := by
        by_cases hc : sg 5 t < sg 6 t
        · rw [if_pos hc, if_neg (by omega)] at j3; exact j3
        · rw [if_neg hc, if_pos (by omega)] at j3; exact j2.2.1 _ _ j3
      refine ⟨j1, j2, fun u hu hr => ?_, fun R r1 r2 => ?_⟩
      · by_cases hut : u = t
        · subst hut; exact jn
        · exact j4 _ _ (i3 u (by omega) hr)
      · refine j5 R r1 ?_ (i4 R r1 (fun u hu hr => r2 u (by omega) hr))
        have := r2 t (by omega) hb
        by_cases hc : sg 5 t < sg 6 t
        · rw [if_pos hc, if_neg (by omega)]; exact this
        · rw [if_neg hc, if_pos (by omega)]; exact r1.2.1 _ _ this
    · have e : k_T sg (t + 1) = k_T sg t := by
        simp only [k_T]; rw [if_neg hb]
      rw [e]
      refine ⟨i1, i2, fun u hu hr => ?_, fun R r1 r2 => i4 R r1 (fun u hu hr => r2 u (by omega) hr)⟩
      by_cases hut : u = t
      · subst hut; exact absurd hr hb
      · exact i3 u (by omega) hr
theorem k_A_tb {sg : am_G0} {t c d : Nat} (hb : (sg 7 2).testBit t = true) : (k_A sg (t + 1) c).testBit d = ((k_A sg t c).testBit d || (decide (c = sg 6 t) && decide (sg 5 t = d)) || (decide (c = sg 5 t ∧ c ≠ sg 6 t) && decide (sg 6 t = d))) := by
  have e : k_A sg (t + 1) c = if c = sg 6 t then k_A sg t c ||| 1 * 2 ^ sg 5 t else if c = sg 5 t then k_A sg t c ||| 1 * 2 ^ sg 6 t else k_A sg t c := by
    simp only [k_A]; rw [if_pos hb]
  rw [e]
  by_cases h1 : c = sg 6 t
  · rw [if_pos h1, Nat.testBit_or, k_tb2]
    simp [h1]
  · rw [if_neg h1]
    by_cases h2 : c = sg 5 t
    · have h3 : ¬ sg 5 t = sg 6 t := by omega
      rw [if_pos h2, Nat.testBit_or, k_tb2]
      simp [h2, h3]
    · rw [if_neg h2]
      simp [h1, h2]
theorem k_A_ok {sg : am_G0} {n : Nat} (hp : ∀ t, t < n → sg 5 t < 6 ∧ sg 6 t < 6 ∧ sg 5 t ≠ sg 6 t) : ∀ t, t ≤ n → (∀ c, c < 6 → k_A sg t c < 64) ∧ (∀ c, c < 6 → k_R (k_A sg t) c c) ∧ (∀ c d, k_R (k_A sg t) c d → k_R (k_A sg t) d c) ∧ k_has sg t (k_R (k_A sg t)) ∧ (∀ R : Nat → Nat → Prop, k_eqv R → k_has sg t R → ∀ c d, k_R (k_A sg t) c d → R c d) ∧ ∀ a b, a < 6 → b < 6 → a ≠ b → (k_A sg t a).testBit b = k_mem (k_q sg) t (k_ix a b) := by
  intro t
  induction t with
  | zero =>
    intro _
    have h0 : ∀ c d, k_R (k_A sg 0) c d ↔ c < 6 ∧ c = d := by
      intro c d
      unfold k_R
      show _ ∧ _ ∧ (1 * 2 ^ c).testBit d = true ↔ _
      rw [k_tb2, decide_eq_true_iff]
      omega
    refine ⟨fun c hc => k_lt2 hc, fun c hc => ?_, fun c d h => ?_, fun u hu => absurd hu (by omega), fun R r1 _ c d h => ?_, fun a b ha hb hab => ?_⟩
    · rw [h0]; exact ⟨hc, rfl⟩
    · rw [h0] at h ⊢; omega
    · rw [h0] at h
      obtain ⟨h1, rfl⟩ := h
      exact r1.1 c h1
    · show (1 * 2 ^ a).testBit b = false
      rw [k_tb2]; exact decide_eq_false hab
  | succ t ih =>
    intro ht
    obtain ⟨i1, i2, i3, i4, i5, i6⟩ := ih (by omega)
    by_cases hb : (sg 7 2).testBit t = true
    · obtain ⟨p1, p2, p3⟩ := hp t (by omega)
      have tb := fun c d => k_A_tb (sg := sg) (t := t) (c := c) (d := d) hb
      have jr : ∀ c d, k_R (k_A sg (t + 1)) c d ↔ k_R (k_A sg t) c d ∨ (c = sg 6 t ∧ d = sg 5 t) ∨ (c = sg 5 t ∧ d = sg 6 t) := by
        intro c d
        unfold k_R
        rw [tb]
        simp only [Bool.or_eq_true, Bool.and_eq_true, decide_eq_true_iff]
        by_cases hX : (k_A sg t c).testBit d = true
        · simp only [hX, true_or, and_true]; omega
        · simp only [hX, Bool.false_eq_true, false_or, and_false]; omega
      refine ⟨fun c hc => ?_, fun c hc => ?_, fun c d h => ?_, fun u hu hr => ?_, fun R r1 r2 c d h => ?_, fun a b ha hb2 hab => ?_⟩
      · have e : k_A sg (t + 1) c = if c = sg 6 t then k_A sg t c ||| 1 * 2 ^ sg 5 t else if c = sg 5 t then k_A sg t c ||| 1 * 2 ^ sg 6 t else k_A sg t c := by
          simp only [k_A]; rw [if_pos hb]
        rw [e]
        split
        · exact k_or64 (i1 c hc) (k_lt2 p1)
        · split
          · exact k_or64 (i1 c hc) (k_lt2 p2)
          · exact i1 c hc
      · rw [jr]; exact Or.inl (i2 c hc)
      · rw [jr] at h ⊢
        rcases h with h | h | h
        · exact Or.inl (i3 _ _ h)
        · exact Or.inr (Or.inr ⟨h.2, h.1⟩)
        · exact Or.inr (Or.inl ⟨h.2, h.1⟩)
      · rw [jr]
        by_cases hut : u = t
        · subst hut; exact Or.inr (Or.inr ⟨rfl, rfl⟩)
        · exact Or.inl (i4 u (by omega) hr)
      · rw [jr] at h
        have := r2 t (by omega) hb
        rcases h with h | ⟨rfl, rfl⟩ | ⟨rfl, rfl⟩
        · exact i5 R r1 (fun u hu hr => r2 u (by omega) hr) c d h
        · exact r1.2.1 _ _ this
        · exact this
      · rw [tb, i6 a b ha hb2 hab]
        have k := (k_ix_ok (sg 5 t) p1 (sg 6 t) p2 p3).2 a ha b hb2 hab
        have e : k_q sg t = k_ix (sg 5 t) (sg 6 t) := by unfold k_q; rw [if_pos hb]
        show _ = (k_mem (k_q sg) t (k_ix a b) || k_q sg t == k_ix a b)
        rw [e, Bool.or_assoc]
        refine congrArg (fun X => k_mem (k_q sg) t (k_ix a b) || X) ?_
        rw [Bool.eq_iff_iff, beq_iff_eq, k]
        simp only [Bool.or_eq_true, Bool.and_eq_true, decide_eq_true_iff]
        omega
    · have e : k_A sg (t + 1) = k_A sg t := by
        simp only [k_A]; rw [if_neg hb]
      have eq : k_q sg t = 0 := by unfold k_q; rw [if_neg hb]
      rw [e]
      refine ⟨i1, i2, i3, fun u hu hr => ?_, fun R r1 r2 => i5 R r1 (fun u hu hr => r2 u (by omega) hr), fun a b ha hb2 hab => ?_⟩
      · by_cases hut : u = t
        · subst hut; exact absurd hr hb
        · exact i4 u (by omega) hr
      · rw [i6 a b ha hb2 hab]
        show _ = (k_mem (k_q sg) t (k_ix a b) || k_q sg t == k_ix a b)
        have k := (k_ix_ok a ha b hb2 hab).1.1
        have f : (k_q sg t == k_ix a b) = false := by
          rw [eq, beq_eq_false_iff_ne]; omega
        rw [f, Bool.or_false]
theorem k_W_ok {A : Nat → Nat} (hA : ∀ c, c < 6 → A c < 64) (h1 : ∀ c, c < 6 → k_R A c c) (h2 : ∀ c d, k_R A c d → k_R A d c) : ∀ k, k ≤ 6 → (∀ c, c < 6 → k_W A k c < 64) ∧ (∀ c, c < 6 → k_R (k_W A k) c c) ∧ (∀ c d, k_R (k_W A k) c d → k_R (k_W A k) d c) ∧ (∀ c d, k_R A c d → k_R (k_W A k) c d) ∧ (∀ R : Nat → Nat → Prop, k_eqv R → (∀ c d, k_R A c d → R c d) → ∀ c d, k_R (k_W A k) c d → R c d) ∧ ∀ j, j < k → ∀ c d, k_R (k_W A k) c j → k_R (k_W A k) j d → k_R (k_W A k) c d := by
  intro k
  induction k with
  | zero =>
    intro _
    exact ⟨hA, h1, h2, fun _ _ h => h, fun R r1 r2 => r2, fun j hj => absurd hj (by omega)⟩
  | succ k ih =>
    intro hk
    obtain ⟨i1, i2, i3, i4, i5, i6⟩ := ih (by omega)
    have jr : ∀ c d, k_R (k_W A (k + 1)) c d ↔ k_R (k_W A k) c d ∨ (k_R (k_W A k) c k ∧ k_R (k_W A k) k d) := by
      intro c d
      have e : k_W A (k + 1) c = if (k_W A k c).testBit k = true then k_W A k c ||| k_W A k k else k_W A k c := rfl
      unfold k_R
      rw [e]
      split
      · next h =>
        rw [Nat.testBit_or, Bool.or_eq_true]
        constructor
        · rintro ⟨g1, g2, g3⟩
          rcases g3 with g3 | g3
          · exact Or.inl ⟨g1, g2, g3⟩
          · exact Or.inr ⟨⟨g1, by omega, h⟩, by omega, g2, g3⟩
        · rintro (⟨g1, g2, g3⟩ | ⟨⟨g1, g2, g3⟩, g4, g5, g6⟩)
          · exact ⟨g1, g2, Or.inl g3⟩
          · exact ⟨g1, g5, Or.inr g6⟩
      · next h =>
        constructor
        · intro g; exact Or.inl g
        · rintro (g | ⟨⟨g1, g2, g3⟩, g4, g5, g6⟩)
          · exact g
          · exact absurd g3 h
    refine ⟨fun c hc => ?_, fun c hc => ?_, fun c d h => ?_, fun c d h => ?_, fun R r1 r2 c d h => ?_, fun j hj c d g1 g2 => ?_⟩
    · show (if (k_W A k c).testBit k = true then k_W A k c ||| k_W A k k else k_W A k c) < 64
      split
      · exact k_or64 (i1 c hc) (i1 k (by omega))
      · exact i1 c hc
    · rw [jr]; exact Or.inl (i2 c hc)
    · rw [jr] at h ⊢
      rcases h with h | ⟨h, h'⟩
      · exact Or.inl (i3 _ _ h)
      · exact Or.inr ⟨i3 _ _ h', i3 _ _ h⟩
    · rw [jr]; exact Or.inl (i4 _ _ h)
    · rw [jr] at h
      rcases h with h | ⟨h, h'⟩
      · exact i5 R r1 r2 _ _ h
      · exact r1.2.2 _ _ _ (i5 R r1 r2 _ _ h) (i5 R r1 r2 _ _ h')
    · rw [jr] at g1 g2 ⊢
      by_cases hjk : j = k
      · subst hjk
        have a1 : k_R (k_W A j) c j := by rcases g1 with g | ⟨g, _⟩ <;> exact g
        have a2 : k_R (k_W A j) j d := by rcases g2 with g | ⟨_, g⟩ <;> exact g
        exact Or.inr ⟨a1, a2⟩
      · have hj2 : j < k := by omega
        rcases g1 with g1 | ⟨g1, g1'⟩
        · rcases g2 with g2 | ⟨g2, g2'⟩
          · exact Or.inl (i6 j hj2 c d g1 g2)
          · exact Or.inr ⟨i6 j hj2 c k g1 g2, g2'⟩
        · rcases g2 with g2 | ⟨g2, g2'⟩
          · exact Or.inr ⟨g1, i6 j hj2 k d g1' g2⟩
          · exact Or.inr ⟨g1, g2'⟩
theorem k_same {sg : am_G0} {n : Nat} (hp : ∀ t, t < n → sg 5 t < 6 ∧ sg 6 t < 6 ∧ sg 5 t ≠ sg 6 t) (c : Nat) (hc : c < 6) : k_W (k_A sg n) 6 c = k_T sg n c := by
  obtain ⟨t1, t2, t3, t4⟩ := k_T_ok hp n (Nat.le_refl n)
  obtain ⟨a1, a2, a3, a4, a5, a6⟩ := k_A_ok hp n (Nat.le_refl n)
  obtain ⟨w1, w2, w3, w4, w5, w6⟩ := k_W_ok a1 a2 a3 6 (Nat.le_refl 6)
  have we : k_eqv (k_R (k_W (k_A sg n) 6)) := ⟨w2, w3, fun c d e g1 g2 => w6 d g1.2.1 c e g1 g2⟩
  apply Nat.eq_of_testBit_eq
  intro d
  by_cases hd : d < 6
  · rw [Bool.eq_iff_iff]
    constructor
    · intro h
      exact (w5 _ t2 (a5 _ t2 t3) c d ⟨hc, hd, h⟩).2.2
    · intro h
      exact (t4 _ we (fun u hu hr => w4 _ _ (a4 u hu hr)) c d ⟨hc, hd, h⟩).2.2
  · have e : 64 ≤ 2 ^ d := Nat.pow_le_pow_right (n := 2) (by omega) (show 6 ≤ d by omega)
    rw [Nat.testBit_lt_two_pow (Nat.lt_of_lt_of_le (w1 c hc) e), Nat.testBit_lt_two_pow (Nat.lt_of_lt_of_le (t1 c hc) e)]
