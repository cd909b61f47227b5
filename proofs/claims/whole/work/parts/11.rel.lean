/-! what both sides hold: sg is the hall, the moments, what is told, in plain numbers.
    sg 0: seats, things, hands, ten; 1 x; 2 y; 3 owners; 4 marks; 5, 6 topics; 7 now; 8 0 how many may be undone; 9 which images are kept; 10 0 felt, 11 its marks; 12 0 told, 13 things, 14 from, 15 to; 16 0 letters, 17 the text; 20.. what may be undone; 30, 31 the images -/
abbrev am_G0 : Type := Nat → Nat → Nat
def r_VH (sg : am_G0) : Prop := sg 0 0 ≤ 4 ∧ sg 0 1 ≤ 4 ∧ (1 ≤ sg 0 2 ∧ sg 0 2 ≤ 4) ∧ (1 ≤ sg 0 3 ∧ sg 0 3 ≤ 200) ∧ (∀ i, i < sg 0 0 → sg 1 i ≤ 9 ∧ sg 2 i ≤ 9) ∧ ∀ t, t < sg 0 1 → sg 3 t < sg 0 0 ∧ sg 4 t ≤ 31 ∧ sg 5 t ≤ 5 ∧ sg 6 t ≤ 5 ∧ sg 5 t ≠ sg 6 t
def r_held (sg : am_G0) (r : Nat) : Nat → Nat
  | 0 => 0
  | t + 1 => r_held sg r t + (if sg r (3 + t) = 4 then 1 else 0)
/-- a moment: row r; 0 the minute, 1 where she is, 2 what is read, 3 + t where thing t is -/
def r_VM (sg : am_G0) (r : Nat) : Prop := sg r 0 ≤ 999 ∧ (sg r 1 < sg 0 0 ∨ sg r 1 = 4) ∧ sg r 2 < 2 ^ sg 0 1 ∧ (∀ t, t < sg 0 1 → (sg r (3 + t) < sg 0 0 ∨ sg r (3 + t) = 4) ∧ ((sg r 2).testBit t = false → sg r (3 + t) = sg 3 t) ∧ (sg r 1 = 4 → sg r (3 + t) ≠ 4)) ∧ r_held sg r (sg 0 1) ≤ sg 0 2
def r_CM (I : am_I) (sg : am_G0) (a r : Nat) : Prop := I a 0 = nI (sg r 0) ∧ I a 1 = nI (sg r 1) ∧ I a 2 = nI (sg r 2) ∧ ∀ t, t < sg 0 1 → I (a + 1) t = nI (sg r (3 + t))
def r_MM (I : am_I) (sg : am_G0) (b o r : Nat) : Prop := I b o = nI (sg r 0) ∧ I b (o + 1) = nI (sg r 1) ∧ I b (o + 6) = nI (sg r 2) ∧ ∀ t, t < sg 0 1 → I b (o + 2 + t) = nI (sg r (3 + t))
def r_H (I : am_I) (sg : am_G0) (h : Nat) : Prop := (h = 6 ∨ h = 13) ∧ r_VH sg ∧ I h 0 = nI (sg 0 0) ∧ I h 1 = nI (sg 0 1) ∧ I h 2 = nI (sg 0 2) ∧ I h 3 = nI (sg 0 3) ∧ (I 63 0 = nI (sg 0 0) ∧ I 63 2 = nI (sg 0 1) ∧ I 63 4 = nI (sg 0 2) ∧ I 63 5 = nI (sg 0 3)) ∧
  (∀ i, i < sg 0 0 → I (h + 1) i = nI (sg 1 i) ∧ I (h + 2) i = nI (sg 2 i) ∧ I 64 (2 * i) = nI (sg 1 i) ∧ I 64 (2 * i + 1) = nI (sg 2 i)) ∧
  (∀ t, t < sg 0 1 → I (h + 3) t = nI (sg 3 t) ∧ I (h + 4) t = nI (sg 4 t) ∧ I (h + 5) t = nI (sg 5 t) ∧ I (h + 6) t = nI (sg 6 t) ∧ I 65 (4 * t) = nI (sg 3 t) ∧ I 65 (4 * t + 1) = nI (sg 4 t) ∧ I 65 (4 * t + 2) = nI (sg 5 t) ∧ I 65 (4 * t + 3) = nI (sg 6 t)) ∧
  I 7 4 = 0 ∧ I 8 4 = 0 ∧ I 14 4 = 0 ∧ I 15 4 = 0
def r_N (I : am_I) (sg : am_G0) : Prop := r_VM sg 7 ∧ r_CM I sg 20 7 ∧ r_MM I sg 66 0 7
/-- what may be undone: the class's ring, the model's row -/
def r_U (I : am_I) (sg : am_G0) : Prop := sg 8 0 ≤ 10 ∧ I 22 1 = nI (sg 8 0) ∧ I 63 8 = nI (sg 8 0) ∧ ∃ nx, nx < 10 ∧ I 22 2 = nI nx ∧ ∀ i, i < sg 8 0 → r_VM sg (20 + i) ∧ r_CM I sg (24 + 2 * ((nx + 10 - sg 8 0 + i) % 10)) (20 + i) ∧ r_MM I sg 67 (7 * i) (20 + i)
def r_K (I : am_I) (sg : am_G0) : Prop := ∀ i, i < 2 → sg 9 i ≤ 1 ∧ I 45 i = nI (sg 9 i) ∧ I 69 i = nI (sg 9 i) ∧ (sg 9 i = 1 → r_VM sg (30 + i) ∧ r_CM I sg (59 + 2 * i) (30 + i) ∧ r_MM I sg 68 (7 * i) (30 + i))
def r_C (I : am_I) (sg : am_G0) : Prop := sg 10 0 ≤ 6 ∧ I 46 0 = nI (sg 10 0) ∧ I 63 11 = nI (sg 10 0) ∧ (∀ i, i < sg 10 0 → sg 11 i ≤ 31 ∧ I 47 i = nI (sg 11 i) ∧ I 70 i = nI (sg 11 i)) ∧ sg 12 0 ≤ 6 ∧ I 46 1 = nI (sg 12 0) ∧ I 63 13 = nI (sg 12 0) ∧
  ∀ i, i < sg 12 0 → (sg 13 i < sg 0 1 ∧ sg 14 i < sg 0 0 ∧ sg 15 i < sg 0 0) ∧ I 48 i = nI (sg 13 i) ∧ I 49 i = nI (sg 14 i) ∧ I 50 i = nI (sg 15 i) ∧ I 71 (3 * i) = nI (sg 13 i) ∧ I 71 (3 * i + 1) = nI (sg 14 i) ∧ I 71 (3 * i + 2) = nI (sg 15 i)
def r_T (I : am_I) (sg : am_G0) : Prop := sg 16 0 ≤ 150 ∧ I 4 1 = nI (sg 16 0) ∧ I 63 17 = nI (sg 16 0) ∧ ∀ i, i < sg 16 0 → sg 17 i < 256 ∧ I 5 i = nI (sg 17 i) ∧ I 72 i = nI (sg 17 i)
/-! ways: one step's cost, the class's states (six digits a thing: 4 with her, 5 not read), the model's (five figures a thing, and what is to be read) -/
def r_ab (a b : Nat) : Nat := if a ≤ b then b - a else a - b
def r_px (sg : am_G0) (s : Nat) : Nat := if s < sg 0 0 then sg 1 s else 0
def r_py (sg : am_G0) (s : Nat) : Nat := if s < sg 0 0 then sg 2 s else 0
def r_way (sg : am_G0) (a b : Nat) : Nat := r_ab (r_px sg a) (r_px sg b) + r_ab (r_py sg a) (r_py sg b)
def r_d6 (s t : Nat) : Nat := s / 6 ^ t % 6
def r_h6 (s : Nat) : Nat → Nat
  | 0 => 0
  | t + 1 => r_h6 s t + (if r_d6 s t = 4 then 1 else 0)
/-- s leads to s' by one step of w minutes, in the class's table -/
def r_E1 (sg : am_G0) (s s' w : Nat) : Prop := s' / 1296 < sg 0 0 ∧
  ((s % 1296 = s' % 1296 ∧ (s / 1296 < sg 0 0 ∨ s / 1296 = 4) ∧ w = r_way sg (s / 1296) (s' / 1296)) ∨
   (∃ t, t < sg 0 1 ∧ w = 1 ∧ r_d6 s' t = 4 ∧ (s + 4 * 6 ^ t = s' + (s' / 1296) * 6 ^ t ∨ (sg 3 t = s' / 1296 ∧ s = s' + 6 ^ t))) ∨
   (∃ t, t < sg 0 1 ∧ w = 1 ∧ r_d6 s' t = s' / 1296 ∧ r_h6 s' 4 < sg 0 2 ∧ s + (s' / 1296) * 6 ^ t = s' + 4 * 6 ^ t))
def r_pc : Nat → Nat → Nat
  | 0, _ => 0
  | k + 1, r => (if r.testBit k then 1 else 0) + r_pc k r
def r_g6 (sg : am_G0) (r : Nat) : Nat → Nat
  | 0 => 0
  | t + 1 => r_g6 sg r t + (if r.testBit t then sg 3 t else 5) * 6 ^ t
/-- a state with all back and n read at least -/
def r_F1 (sg : am_G0) (n s : Nat) : Prop := ∃ r at', r < 2 ^ sg 0 1 ∧ n ≤ r_pc 4 r ∧ at' ≤ 4 ∧ s = at' * 1296 + r_g6 sg r 4
def r_P1 (sg : am_G0) (n : Nat) : Nat → Nat → Nat → Prop
  | 0, s, c => r_F1 sg n s ∧ c = 0
  | k + 1, s, c => ∃ s' w c', r_E1 sg s s' w ∧ r_P1 sg n k s' c' ∧ c = w + c'
def r_least (P : Nat → Prop) (far v : Nat) : Prop := (P v ∧ ∀ c, P c → v ≤ c) ∨ (v = far ∧ ∀ c, ¬ P c)
def r_W (I : am_I) (L : am_L) (sg : am_G0) : Prop := I 2 0 = 1 ∧ I 2 1 = 6 ∧ I 2 2 = 36 ∧ I 2 3 = 216 ∧ ∃ kb, kb < 32 ∧ I 51 5 = nI kb ∧ ∃ f : Nat → Nat → Nat, ∀ s, s < 6480 → (∀ n, n < 5 → f s n < 4096) ∧ L 52 s = lN (f s 0 + 4096 * f s 1 + 16777216 * f s 2 + 68719476736 * f s 3 + 281474976710656 * f s 4) ∧ ∀ n, n < 5 → kb.testBit n = true → r_least (fun c => c < 256 ∧ ∃ k, r_P1 sg n k s c) 4095 (f s n)
def r_d5 (k t : Nat) : Nat := k / 5 ^ (1 + t) % 5
def r_h5 (nt k : Nat) : Nat → Nat
  | 0 => 0
  | t + 1 => r_h5 nt k t + (if r_d5 k t = 4 then 1 else 0)
/-- the model's steps; cs is how many cases there are for one set to be read -/
def r_E2 (sg : am_G0) (cs k k' w : Nat) : Prop := k' % 5 < sg 0 0 ∧
  ((k + k' % 5 = k' + k % 5 ∧ (k % 5 < sg 0 0 ∨ k % 5 = 4) ∧ w = r_way sg (k % 5) (k' % 5)) ∨
   (∃ t, t < sg 0 1 ∧ w = 1 ∧ r_d5 k' t = 4 ∧ (k' / cs).testBit t = false ∧ (k + 4 * 5 ^ (1 + t) = k' + (k' % 5) * 5 ^ (1 + t) ∨ k + 4 * 5 ^ (1 + t) = k' + (k' % 5) * 5 ^ (1 + t) + cs * 2 ^ t)) ∨
   (∃ t, t < sg 0 1 ∧ w = 1 ∧ r_d5 k' t = k' % 5 ∧ r_h5 (sg 0 1) k' (sg 0 1) < sg 0 2 ∧ k + (k' % 5) * 5 ^ (1 + t) = k' + 4 * 5 ^ (1 + t)))
def r_F2 (sg : am_G0) (cs k : Nat) : Prop := k < cs ∧ ∀ t, t < sg 0 1 → r_d5 k t = sg 3 t
def r_P2 (sg : am_G0) (cs : Nat) : Nat → Nat → Nat → Prop
  | 0, k, c => r_F2 sg cs k ∧ c = 0
  | j + 1, k, c => ∃ k' w c', k' < cs * 2 ^ sg 0 1 ∧ r_E2 sg cs k k' w ∧ r_P2 sg cs j k' c' ∧ c = w + c'
def r_V (I : am_I) (sg : am_G0) : Prop := (I 63 31 = 0 ∨ I 63 31 = 1) ∧ (I 63 31 = 1 → I 63 32 = nI (5 ^ (1 + sg 0 1)) ∧ ∀ k, k < 5 ^ (1 + sg 0 1) * 2 ^ sg 0 1 → ∃ v, v ≤ 100000 ∧ I 75 k = nI v ∧ r_least (fun c => c < 100000 ∧ ∃ j, r_P2 sg (5 ^ (1 + sg 0 1)) j k c) 100000 v)
/-- class and model hold the same -/
def r_R (I : am_I) (L : am_L) (sg : am_G0) (h : Nat) : Prop := r_H I sg h ∧ r_N I sg ∧ r_U I sg ∧ r_K I sg ∧ r_C I sg ∧ r_T I sg ∧ L 3 11 = L 63 15 ∧ r_W I L sg ∧ r_V I sg
/-- an operation: the class answers, then the model, alike, and they hold the same again; the script stays -/
def r_op (c d : Nat) (as : List Value) (I : am_I) (L : am_L) (h Lx : Nat) : Prop :=
  Ev c (.ref 3 :: as) I L (am_PT h (19 - h)) (am_S1 Lx) (fun v I1 L1 P1 S1 => Ev d (.ref 63 :: as) I1 L1 P1 S1 (fun v2 I2 L2 P2 S2 => (∃ y, v = some y ∧ v2 = some y) ∧ S2 = am_S1 Lx ∧ I2 1 = I 1 ∧ ∃ sg h2, r_R I2 L2 sg h2 ∧ P2 = am_PT h2 (19 - h2)))
theorem r_CM_c {I I' : am_I} {sg sg' : am_G0} {a r r' : Nat} (h : r_CM I sg a r) (h1 : I' a = I a) (h2 : I' (a + 1) = I (a + 1)) (h3 : sg' r' = sg r) (h4 : sg' 0 1 = sg 0 1) : r_CM I' sg' a r' := by
  unfold r_CM at *
  rw [h1, h2, h3, h4]; exact h
theorem r_MM_c {I I' : am_I} {sg sg' : am_G0} {b o r r' : Nat} (h : r_MM I sg b o r) (h1 : I' b = I b) (h3 : sg' r' = sg r) (h4 : sg' 0 1 = sg 0 1) : r_MM I' sg' b o r' := by
  unfold r_MM at *
  rw [h1, h3, h4]; exact h
theorem r_held_c {sg sg' : am_G0} {r r' : Nat} (h3 : sg' r' = sg r) : ∀ n, r_held sg' r' n = r_held sg r n
  | 0 => rfl
  | n + 1 => by simp only [r_held, r_held_c h3 n, h3]
theorem r_VM_c {sg sg' : am_G0} {r r' : Nat} (h : r_VM sg r) (h3 : sg' r' = sg r) (h4 : sg' 0 = sg 0) (h5 : sg' 3 = sg 3) : r_VM sg' r' := by
  unfold r_VM at *
  rw [h3, h4, h5, r_held_c h3]; exact h
theorem r_VH_c {sg sg' : am_G0} (h : r_VH sg) (h0 : ∀ r, r < 7 → sg' r = sg r) : r_VH sg' := by
  unfold r_VH at *
  rw [h0 0 (by omega), h0 1 (by omega), h0 2 (by omega), h0 3 (by omega), h0 4 (by omega), h0 5 (by omega), h0 6 (by omega)]; exact h
theorem r_H_c {I I' : am_I} {sg sg' : am_G0} {h : Nat} (q : r_H I sg h) (hc : ∀ a, 6 ≤ a → a < 20 → I' a = I a) (h63 : ∀ k, k = 0 ∨ k = 2 ∨ k = 4 ∨ k = 5 → I' 63 k = I 63 k) (h64 : I' 64 = I 64) (h65 : I' 65 = I 65) (h0 : ∀ r, r < 7 → sg' r = sg r) : r_H I' sg' h := by
  obtain ⟨q1, q2, q3⟩ := q
  refine ⟨q1, r_VH_c q2 h0, ?_⟩
  have hh : 6 ≤ h ∧ h + 6 < 20 := by omega
  rw [hc h (by omega) (by omega), hc (h + 1) (by omega) (by omega), hc (h + 2) (by omega) (by omega), hc (h + 3) (by omega) (by omega), hc (h + 4) (by omega) (by omega), hc (h + 5) (by omega) (by omega), hc (h + 6) (by omega) (by omega), hc 7 (by omega) (by omega), hc 8 (by omega) (by omega), hc 14 (by omega) (by omega), hc 15 (by omega) (by omega), h63 0 (by simp), h63 2 (by simp), h63 4 (by simp), h63 5 (by simp), h64, h65, h0 0 (by omega), h0 1 (by omega), h0 2 (by omega), h0 3 (by omega), h0 4 (by omega), h0 5 (by omega), h0 6 (by omega)]
  exact q3
theorem r_N_c {I I' : am_I} {sg sg' : am_G0} (q : r_N I sg) (h20 : I' 20 = I 20) (h21 : I' 21 = I 21) (h66 : I' 66 = I 66) (h7 : sg' 7 = sg 7) (h0 : sg' 0 = sg 0) (h3 : sg' 3 = sg 3) : r_N I' sg' :=
  ⟨r_VM_c q.1 h7 h0 h3, r_CM_c q.2.1 h20 h21 h7 (by rw [h0]), r_MM_c q.2.2 h66 h7 (by rw [h0])⟩
theorem r_U_c {I I' : am_I} {sg sg' : am_G0} (q : r_U I sg) (hc : ∀ a, 22 ≤ a → a < 44 → I' a = I a) (h63 : I' 63 8 = I 63 8) (h67 : I' 67 = I 67) (h8 : sg' 8 = sg 8) (hr : ∀ r, 20 ≤ r → r < 30 → sg' r = sg r) (h0 : sg' 0 = sg 0) (h3 : sg' 3 = sg 3) : r_U I' sg' := by
  obtain ⟨q1, q2, q3, nx, q4, q5, q6⟩ := q
  refine ⟨by rw [h8]; exact q1, by rw [hc 22 (by omega) (by omega), h8]; exact q2, by rw [h63, h8]; exact q3, nx, q4, by rw [hc 22 (by omega) (by omega)]; exact q5, fun i hi => ?_⟩
  rw [h8] at hi ⊢
  obtain ⟨g1, g2, g3⟩ := q6 i hi
  exact ⟨r_VM_c g1 (hr _ (by omega) (by omega)) h0 h3, r_CM_c g2 (hc _ (by omega) (by omega)) (hc _ (by omega) (by omega)) (hr _ (by omega) (by omega)) (by rw [h0]), r_MM_c g3 h67 (hr _ (by omega) (by omega)) (by rw [h0])⟩
theorem r_K_c {I I' : am_I} {sg sg' : am_G0} (q : r_K I sg) (hc : ∀ a, (a = 45 ∨ a = 59 ∨ a = 60 ∨ a = 61 ∨ a = 62 ∨ a = 68 ∨ a = 69) → I' a = I a) (h9 : sg' 9 = sg 9) (h30 : sg' 30 = sg 30) (h31 : sg' 31 = sg 31) (h0 : sg' 0 = sg 0) (h3 : sg' 3 = sg 3) : r_K I' sg' := by
  intro i hi
  obtain ⟨g1, g2, g3, g4⟩ := q i hi
  refine ⟨by rw [h9]; exact g1, by rw [hc 45 (by simp), h9]; exact g2, by rw [hc 69 (by simp), h9]; exact g3, fun h => ?_⟩
  rw [h9] at h
  obtain ⟨k1, k2, k3⟩ := g4 h
  have hr : sg' (30 + i) = sg (30 + i) := by
    match i, hi with
    | 0, _ => exact h30
    | 1, _ => exact h31
  have hA : I' (59 + 2 * i) = I (59 + 2 * i) := hc _ (by omega)
  have hB : I' (59 + 2 * i + 1) = I (59 + 2 * i + 1) := hc _ (by omega)
  exact ⟨r_VM_c k1 hr h0 h3, r_CM_c k2 hA hB hr (by rw [h0]), r_MM_c k3 (hc 68 (by simp)) hr (by rw [h0])⟩
theorem r_C_c {I I' : am_I} {sg sg' : am_G0} (q : r_C I sg) (hc : ∀ a, 46 ≤ a → a ≤ 50 → I' a = I a) (h63 : I' 63 11 = I 63 11 ∧ I' 63 13 = I 63 13) (h70 : I' 70 = I 70) (h71 : I' 71 = I 71) (hr : ∀ r, 10 ≤ r → r < 16 → sg' r = sg r) (h0 : sg' 0 = sg 0) : r_C I' sg' := by
  unfold r_C at *
  rw [hc 46 (by omega) (by omega), hc 47 (by omega) (by omega), hc 48 (by omega) (by omega), hc 49 (by omega) (by omega), hc 50 (by omega) (by omega), h63.1, h63.2, h70, h71, hr 10 (by omega) (by omega), hr 11 (by omega) (by omega), hr 12 (by omega) (by omega), hr 13 (by omega) (by omega), hr 14 (by omega) (by omega), hr 15 (by omega) (by omega), h0]
  exact q
theorem r_T_c {I I' : am_I} {sg sg' : am_G0} (q : r_T I sg) (h4 : I' 4 1 = I 4 1) (h5 : I' 5 = I 5) (h63 : I' 63 17 = I 63 17) (h72 : I' 72 = I 72) (h16 : sg' 16 = sg 16) (h17 : sg' 17 = sg 17) : r_T I' sg' := by
  unfold r_T at *
  rw [h4, h5, h63, h72, h16, h17]; exact q
theorem r_way_c {sg sg' : am_G0} (h0 : ∀ r, r < 7 → sg' r = sg r) (a b : Nat) : r_way sg' a b = r_way sg a b := by
  unfold r_way r_px r_py
  rw [h0 0 (by omega), h0 1 (by omega), h0 2 (by omega)]
theorem r_E1_c {sg sg' : am_G0} (h0 : ∀ r, r < 7 → sg' r = sg r) (s s' w : Nat) : r_E1 sg' s s' w ↔ r_E1 sg s s' w := by
  unfold r_E1
  rw [r_way_c h0, h0 0 (by omega), h0 3 (by omega)]
theorem r_g6_c {sg sg' : am_G0} (h0 : ∀ r, r < 7 → sg' r = sg r) (r : Nat) : ∀ n, r_g6 sg' r n = r_g6 sg r n
  | 0 => rfl
  | n + 1 => by simp only [r_g6, r_g6_c h0 r n, h0 3 (by omega)]
theorem r_P1_c {sg sg' : am_G0} (h0 : ∀ r, r < 7 → sg' r = sg r) (n : Nat) : ∀ k s c, r_P1 sg' n k s c ↔ r_P1 sg n k s c
  | 0, s, c => by
    unfold r_P1 r_F1
    rw [h0 0 (by omega)]
    simp only [r_g6_c h0]
  | k + 1, s, c => by
    unfold r_P1
    simp only [r_E1_c h0, r_P1_c h0 n k]
theorem r_W_c {I I' : am_I} {L L' : am_L} {sg sg' : am_G0} (q : r_W I L sg) (h2 : I' 2 = I 2) (h51 : I' 51 5 = I 51 5) (h52 : L' 52 = L 52) (h0 : ∀ r, r < 7 → sg' r = sg r) : r_W I' L' sg' := by
  unfold r_W at *
  rw [h2, h51, h52]
  simp only [r_P1_c h0]
  exact q
theorem r_E2_c {sg sg' : am_G0} (h0 : ∀ r, r < 7 → sg' r = sg r) (cs s s' w : Nat) : r_E2 sg' cs s s' w ↔ r_E2 sg cs s s' w := by
  unfold r_E2
  rw [r_way_c h0, h0 0 (by omega)]
theorem r_P2_c {sg sg' : am_G0} (h0 : ∀ r, r < 7 → sg' r = sg r) (cs : Nat) : ∀ k s c, r_P2 sg' cs k s c ↔ r_P2 sg cs k s c
  | 0, s, c => by
    unfold r_P2 r_F2
    rw [h0 0 (by omega), h0 3 (by omega)]
  | k + 1, s, c => by
    unfold r_P2
    simp only [r_E2_c h0, r_P2_c h0 cs k, h0 0 (by omega)]
theorem r_V_c {I I' : am_I} {sg sg' : am_G0} (q : r_V I sg) (h63 : I' 63 31 = I 63 31 ∧ I' 63 32 = I 63 32) (h75 : I' 75 = I 75) (h0 : ∀ r, r < 7 → sg' r = sg r) : r_V I' sg' := by
  unfold r_V at *
  rw [h63.1, h63.2, h75, h0 0 (by omega)]
  simp only [r_P2_c h0]
  exact q
