/-! the text, token by token: w the letters, n how many -/
def p_dig (w : Nat → Nat) (n i : Nat) : Bool := decide (i < n) && (decide (48 ≤ w i) && decide (w i ≤ 57))
def p_spc (w : Nat → Nat) (n i : Nat) : Bool := decide (i < n) && decide (w i = 32)
def p_to (p : Nat → Bool) : Nat → Nat → Nat
  | 0, i => i
  | f + 1, i => if p i = true then p_to p f (i + 1) else i
def p_S (w : Nat → Nat) (n b : Nat) : Nat := p_to (p_spc w n) (n - b) b
def p_E (w : Nat → Nat) (n s : Nat) : Nat := p_to (p_dig w n) (n - s) s
def p_num (w : Nat → Nat) (n : Nat) : Nat → Nat → Nat → Nat
  | 0, _, v => v
  | f + 1, i, v => if p_dig w n i = true then p_num w n f (i + 1) (if 200 < v then v else 10 * v + (w i - 48)) else v
def p_V (w : Nat → Nat) (n s : Nat) : Nat := p_num w n (n - s) s 0
def p_K (w : Nat → Nat) (n b : Nat) : Nat := if n ≤ p_S w n b then 258 else if p_dig w n (p_S w n b) = true then (if (w (p_S w n b) = 48 ∧ 1 < p_E w n (p_S w n b) - p_S w n b) ∨ 200 < p_V w n (p_S w n b) then 257 else 256) else w (p_S w n b)
def p_N (w : Nat → Nat) (n b : Nat) : Nat := if p_dig w n (p_S w n b) = true then p_E w n (p_S w n b) else p_S w n b + 1
theorem p_dig_lt {w : Nat → Nat} {n i : Nat} (h : p_dig w n i = true) : i < n ∧ 48 ≤ w i ∧ w i ≤ 57 := by
  unfold p_dig at h
  rw [Bool.and_eq_true, Bool.and_eq_true, decide_eq_true_iff, decide_eq_true_iff, decide_eq_true_iff] at h
  exact h
theorem p_dig_of {w : Nat → Nat} {n i : Nat} (h1 : i < n) (h2 : 48 ≤ w i) (h3 : w i ≤ 57) : p_dig w n i = true := by
  unfold p_dig
  rw [Bool.and_eq_true, Bool.and_eq_true, decide_eq_true_iff, decide_eq_true_iff, decide_eq_true_iff]
  exact ⟨h1, h2, h3⟩
theorem p_spc_lt {w : Nat → Nat} {n i : Nat} : p_spc w n i = true ↔ i < n ∧ w i = 32 := by
  unfold p_spc
  rw [Bool.and_eq_true, decide_eq_true_iff, decide_eq_true_iff]
theorem p_to_ge {p : Nat → Bool} : ∀ f i, i ≤ p_to p f i
  | 0, i => Nat.le_refl _
  | f + 1, i => by
    have := p_to_ge (p := p) f (i + 1)
    simp only [p_to]; split <;> omega
theorem p_to_le {p : Nat → Bool} {n : Nat} (hp : ∀ i, p i = true → i < n) : ∀ f i, i ≤ n → p_to p f i ≤ n
  | 0, i, h => h
  | f + 1, i, h => by
    simp only [p_to]
    split
    · next h2 => exact p_to_le hp f (i + 1) (hp i h2)
    · exact h
theorem p_S_ge (w : Nat → Nat) (n b : Nat) : b ≤ p_S w n b := p_to_ge _ _
theorem p_S_le {w : Nat → Nat} {n b : Nat} (h : b ≤ n) : p_S w n b ≤ n := p_to_le (fun i hi => (p_spc_lt.mp hi).1) _ _ h
theorem p_E_le {w : Nat → Nat} {n s : Nat} (h : s ≤ n) : p_E w n s ≤ n := p_to_le (fun i hi => (p_dig_lt hi).1) _ _ h
theorem p_E_gt {w : Nat → Nat} {n s : Nat} (h : p_dig w n s = true) : s < p_E w n s := by
  have h1 := (p_dig_lt h).1
  unfold p_E
  obtain ⟨f, hf⟩ : ∃ f, n - s = f + 1 := ⟨n - s - 1, by omega⟩
  rw [hf]
  simp only [p_to]
  rw [if_pos h]
  exact p_to_ge _ _
theorem p_N_gt (w : Nat → Nat) (n b : Nat) : b < p_N w n b := by
  have h := p_S_ge w n b
  unfold p_N
  split
  · next h2 => have := p_E_gt h2; omega
  · omega
theorem p_N_le {w : Nat → Nat} {n b : Nat} (h : b ≤ n) (hk : ¬ p_K w n b = 258) : p_N w n b ≤ n := by
  have hs : ¬ n ≤ p_S w n b := by
    intro q; apply hk; unfold p_K; rw [if_pos q]
  unfold p_N
  split
  · exact p_E_le (p_S_le h)
  · omega
theorem p_num_le {w : Nat → Nat} {n : Nat} : ∀ f i v, v < 3000 → p_num w n f i v < 3000
  | 0, _, v, h => h
  | f + 1, i, v, h => by
    simp only [p_num]
    split
    · next h2 =>
      have := p_dig_lt h2
      exact p_num_le f (i + 1) _ (by split <;> omega)
    · exact h
theorem p_V_lt (w : Nat → Nat) (n s : Nat) : p_V w n s < 3000 := p_num_le _ _ _ (by omega)
/-- a number that may stand there -/
def p_ok (w : Nat → Nat) (n b lo hi : Nat) : Prop := p_K w n b = 256 ∧ lo ≤ p_V w n (p_S w n b) ∧ p_V w n (p_S w n b) < hi
theorem p_K_256 {w : Nat → Nat} {n b : Nat} (hw : ∀ i, i < n → w i < 256) (h : p_K w n b = 256) : p_dig w n (p_S w n b) = true ∧ p_S w n b < n ∧ ¬ ((w (p_S w n b) = 48 ∧ 1 < p_E w n (p_S w n b) - p_S w n b) ∨ 200 < p_V w n (p_S w n b)) := by
  unfold p_K at h
  split at h
  · exact absurd h (by decide)
  · next h1 =>
    split at h
    · next h2 =>
      split at h
      · exact absurd h (by decide)
      · next h3 => exact ⟨h2, by omega, h3⟩
    · have := hw (p_S w n b) (by omega)
      omega
def p_1 (w : Nat → Nat) (n b lo hi : Nat) (Bad : Nat → Prop) (Go : Nat → Nat → Prop) : Prop := (p_ok w n b lo hi ∧ Go (p_N w n b) (p_V w n (p_S w n b))) ∨ (¬ p_ok w n b lo hi ∧ Bad (p_S w n b))
def g_seat (g : am_G0) (v u : Nat) : am_G0 := fun r k => if r = 0 then (if k = 0 then g 0 0 + 1 else g 0 k) else if r = 1 then (if k = g 0 0 then v else g 1 k) else if r = 2 then (if k = g 0 0 then u else g 2 k) else g r k
def g_thing (g : am_G0) (o m x y : Nat) : am_G0 := fun r k => if r = 0 then (if k = 1 then g 0 1 + 1 else g 0 k) else if r = 3 then (if k = g 0 1 then o else g 3 k) else if r = 4 then (if k = g 0 1 then m else g 4 k) else if r = 5 then (if k = g 0 1 then x else g 5 k) else if r = 6 then (if k = g 0 1 then y else g 6 k) else g r k
def g_hands (g : am_G0) (v : Nat) : am_G0 := fun r k => if r = 0 then (if k = 2 then v else g 0 k) else if r = 8 then (if k = 0 then 1 else g 8 k) else g r k
def g_ten (g : am_G0) (v : Nat) : am_G0 := fun r k => if r = 0 then (if k = 3 then v else g 0 k) else if r = 8 then (if k = 1 then 1 else g 8 k) else g r k
def p_semi (w : Nat → Nat) (n b : Nat) (g : am_G0) (Bad : Nat → Prop) (Ok : Nat → am_G0 → Prop) : Prop := (p_K w n b = 59 ∧ Ok (p_N w n b) g) ∨ (¬ p_K w n b = 59 ∧ Bad (p_S w n b))
def p_iS (w : Nat → Nat) (n b : Nat) (g : am_G0) (Bad : Nat → Prop) (Ok : Nat → am_G0 → Prop) : Prop := (4 ≤ g 0 0 ∧ Bad (p_S w n b)) ∨ (¬ 4 ≤ g 0 0 ∧ p_1 w n (p_N w n b) 0 10 Bad (fun b2 v => p_1 w n b2 0 10 Bad (fun b3 u => p_semi w n b3 (g_seat g v u) Bad Ok)))
def p_iT (w : Nat → Nat) (n b : Nat) (g : am_G0) (Bad : Nat → Prop) (Ok : Nat → am_G0 → Prop) : Prop := (4 ≤ g 0 1 ∧ Bad (p_S w n b)) ∨ (¬ 4 ≤ g 0 1 ∧ p_1 w n (p_N w n b) 0 (g 0 0) Bad (fun b2 o => p_1 w n b2 0 32 Bad (fun b3 m => p_1 w n b3 0 6 Bad (fun b4 x => p_1 w n b4 0 6 Bad (fun b5 y => (x = y ∧ Bad (p_S w n b4)) ∨ (¬ x = y ∧ p_semi w n b5 (g_thing g o m x y) Bad Ok))))))
def p_iH (w : Nat → Nat) (n b : Nat) (g : am_G0) (Bad : Nat → Prop) (Ok : Nat → am_G0 → Prop) : Prop := (g 8 0 = 1 ∧ Bad (p_S w n b)) ∨ (¬ g 8 0 = 1 ∧ p_1 w n (p_N w n b) 1 5 Bad (fun b2 v => p_semi w n b2 (g_hands g v) Bad Ok))
def p_iE (w : Nat → Nat) (n b : Nat) (g : am_G0) (Bad : Nat → Prop) (Ok : Nat → am_G0 → Prop) : Prop := (g 8 1 = 1 ∧ Bad (p_S w n b)) ∨ (¬ g 8 1 = 1 ∧ p_1 w n (p_N w n b) 1 201 Bad (fun b2 v => p_semi w n b2 (g_ten g v) Bad Ok))
def p_item (w : Nat → Nat) (n b : Nat) (g : am_G0) (Bad : Nat → Prop) (Ok : Nat → am_G0 → Prop) : Prop := (p_K w n b = 115 ∧ p_iS w n b g Bad Ok) ∨ (p_K w n b = 116 ∧ p_iT w n b g Bad Ok) ∨ (p_K w n b = 104 ∧ p_iH w n b g Bad Ok) ∨ (p_K w n b = 101 ∧ p_iE w n b g Bad Ok) ∨ ((¬ p_K w n b = 115 ∧ ¬ p_K w n b = 116 ∧ ¬ p_K w n b = 104 ∧ ¬ p_K w n b = 101) ∧ Bad (p_S w n b))
/-- all that a hall's numbers keep to -/
def p_g (g : am_G0) : Prop := r_VH g ∧ g 8 0 ≤ 1 ∧ g 8 1 ≤ 1 ∧ (g 8 0 = 0 → g 0 2 = 2) ∧ (g 8 1 = 0 → g 0 3 = 60)
/-- one outcome and no other: a fault, or another item behind -/
theorem p_1_tot {w : Nat → Nat} {n b lo hi : Nat} (hw : ∀ i, i < n → w i < 256) (hb : b ≤ n) {Z : ((Nat → Prop) → (Nat → am_G0 → Prop) → Prop)} {G : Nat → Nat → (Nat → Prop) → (Nat → am_G0 → Prop) → Prop} {C : Prop} (hz : ∀ Bad Ok, p_1 w n b lo hi Bad (fun b2 v => G b2 v Bad Ok) → Z Bad Ok) (h1 : ∀ p, p ≤ n → (∀ Bad Ok, Bad p → Z Bad Ok) → C) (h2 : ∀ b2 v, b < b2 → b2 ≤ n → lo ≤ v → v < hi → (∀ Bad Ok, G b2 v Bad Ok → Z Bad Ok) → C) : C := by
  by_cases hk : p_ok w n b lo hi
  · exact h2 (p_N w n b) (p_V w n (p_S w n b)) (p_N_gt w n b) (p_N_le hb (by rw [hk.1]; decide)) hk.2.1 hk.2.2 (fun Bad Ok h => hz Bad Ok (Or.inl ⟨hk, h⟩))
  · exact h1 (p_S w n b) (p_S_le hb) (fun Bad Ok h => hz Bad Ok (Or.inr ⟨hk, h⟩))
theorem p_semi_tot {w : Nat → Nat} {n b : Nat} {g : am_G0} (hb : b ≤ n) (hg : p_g g) {Z : ((Nat → Prop) → (Nat → am_G0 → Prop) → Prop)} {C : Prop} (hz : ∀ Bad Ok, p_semi w n b g Bad Ok → Z Bad Ok) (h1 : ∀ p, p ≤ n → (∀ Bad Ok, Bad p → Z Bad Ok) → C) (h2 : ∀ b2 g2, b < b2 → b2 ≤ n → p_g g2 → (∀ Bad (Ok : Nat → am_G0 → Prop), Ok b2 g2 → Z Bad Ok) → C) : C := by
  by_cases hk : p_K w n b = 59
  · exact h2 (p_N w n b) g (p_N_gt w n b) (p_N_le hb (by rw [hk]; decide)) hg (fun Bad Ok h => hz Bad Ok (Or.inl ⟨hk, h⟩))
  · exact h1 (p_S w n b) (p_S_le hb) (fun Bad Ok h => hz Bad Ok (Or.inr ⟨hk, h⟩))
theorem g_seat_ok {g : am_G0} {v u : Nat} (hg : p_g g) (h4 : ¬ 4 ≤ g 0 0) (hv : v < 10) (hu : u < 10) : p_g (g_seat g v u) := by
  obtain ⟨⟨q1, q2, q3, q4, q5, q6⟩, q7, q8, q9, q10⟩ := hg
  have e0 : g_seat g v u 0 0 = g 0 0 + 1 := rfl
  refine ⟨⟨?_, q2, q3, q4, fun i hi => ?_, fun t ht => ?_⟩, q7, q8, q9, q10⟩
  · rw [e0]; omega
  · rw [e0] at hi
    show (if i = g 0 0 then v else g 1 i) ≤ 9 ∧ (if i = g 0 0 then u else g 2 i) ≤ 9
    by_cases h : i = g 0 0
    · rw [if_pos h, if_pos h]; omega
    · rw [if_neg h, if_neg h]; exact q5 i (by omega)
  · obtain ⟨a1, a2⟩ := q6 t ht
    exact ⟨by rw [e0]; exact Nat.lt_succ_of_lt a1, a2⟩
theorem g_thing_ok {g : am_G0} {o m x y : Nat} (hg : p_g g) (h4 : ¬ 4 ≤ g 0 1) (ho : o < g 0 0) (hm : m < 32) (hx : x < 6) (hy : y < 6) (hxy : ¬ x = y) : p_g (g_thing g o m x y) := by
  obtain ⟨⟨q1, q2, q3, q4, q5, q6⟩, q7, q8, q9, q10⟩ := hg
  have e0 : g_thing g o m x y 0 1 = g 0 1 + 1 := rfl
  refine ⟨⟨q1, ?_, q3, q4, q5, fun t ht => ?_⟩, q7, q8, q9, q10⟩
  · rw [e0]; omega
  · rw [e0] at ht
    show (if t = g 0 1 then o else g 3 t) < g 0 0 ∧ (if t = g 0 1 then m else g 4 t) ≤ 31 ∧ (if t = g 0 1 then x else g 5 t) ≤ 5 ∧ (if t = g 0 1 then y else g 6 t) ≤ 5 ∧ (if t = g 0 1 then x else g 5 t) ≠ (if t = g 0 1 then y else g 6 t)
    by_cases h : t = g 0 1
    · simp only [if_pos h]
      exact ⟨ho, by omega, by omega, by omega, hxy⟩
    · simp only [if_neg h]; exact q6 t (by omega)
theorem g_hands_ok {g : am_G0} {v : Nat} (hg : p_g g) (h1 : 1 ≤ v) (h2 : v < 5) : p_g (g_hands g v) := by
  obtain ⟨⟨q1, q2, q3, q4, q5, q6⟩, q7, q8, q9, q10⟩ := hg
  exact ⟨⟨q1, q2, ⟨h1, show v ≤ 4 by omega⟩, q4, q5, q6⟩, Nat.le_refl 1, q8, fun h => absurd h (by show ¬ 1 = 0; omega), q10⟩
theorem g_ten_ok {g : am_G0} {v : Nat} (hg : p_g g) (h1 : 1 ≤ v) (h2 : v < 201) : p_g (g_ten g v) := by
  obtain ⟨⟨q1, q2, q3, q4, q5, q6⟩, q7, q8, q9, q10⟩ := hg
  exact ⟨⟨q1, q2, q3, ⟨h1, show v ≤ 200 by omega⟩, q5, q6⟩, q7, Nat.le_refl 1, q9, fun h => absurd h (by show ¬ 1 = 0; omega)⟩
theorem p_item_tot {w : Nat → Nat} {n b : Nat} {g : am_G0} (hw : ∀ i, i < n → w i < 256) (hb : b ≤ n) (hk : ¬ p_K w n b = 258) (hg : p_g g) {C : Prop} (h1 : ∀ p, p ≤ n → (∀ Bad Ok, Bad p → p_item w n b g Bad Ok) → C) (h2 : ∀ b2 g2, b < b2 → b2 ≤ n → p_g g2 → (∀ Bad (Ok : Nat → am_G0 → Prop), Ok b2 g2 → p_item w n b g Bad Ok) → C) : C := by
  have hn := p_N_gt w n b
  have hnl := p_N_le hb hk
  by_cases k1 : p_K w n b = 115
  · have hz : ∀ Bad Ok, p_iS w n b g Bad Ok → p_item w n b g Bad Ok := fun Bad Ok h => Or.inl ⟨k1, h⟩
    by_cases q : 4 ≤ g 0 0
    · exact h1 _ (p_S_le hb) (fun Bad Ok h => hz _ _ (Or.inl ⟨q, h⟩))
    · refine p_1_tot hw hnl (fun Bad Ok h => hz _ _ (Or.inr ⟨q, h⟩)) h1 fun b2 v l1 l2 l3 l4 h => ?_
      refine p_1_tot hw l2 (Z := p_item w n b g) h h1 fun b3 u m1 m2 m3 m4 h => ?_
      exact p_semi_tot m2 (g_seat_ok hg q l4 m4) h h1 fun b4 g4 o1 o2 o3 o4 => h2 b4 g4 (by omega) o2 o3 o4
  by_cases k2 : p_K w n b = 116
  · have hz : ∀ Bad Ok, p_iT w n b g Bad Ok → p_item w n b g Bad Ok := fun Bad Ok h => Or.inr (Or.inl ⟨k2, h⟩)
    by_cases q : 4 ≤ g 0 1
    · exact h1 _ (p_S_le hb) (fun Bad Ok h => hz _ _ (Or.inl ⟨q, h⟩))
    · refine p_1_tot hw hnl (fun Bad Ok h => hz _ _ (Or.inr ⟨q, h⟩)) h1 fun b2 v l1 l2 l3 l4 h => ?_
      refine p_1_tot hw l2 (Z := p_item w n b g) h h1 fun b3 m m1 m2 m3 m4 h => ?_
      refine p_1_tot hw m2 (Z := p_item w n b g) h h1 fun b4 x n1 n2 n3 n4 h => ?_
      refine p_1_tot hw n2 (Z := p_item w n b g) h h1 fun b5 y o1 o2 o3 o4 h => ?_
      by_cases xy : x = y
      · exact h1 _ (p_S_le n2) (fun Bad Ok h3 => h _ _ (Or.inl ⟨xy, h3⟩))
      · exact p_semi_tot o2 (g_thing_ok hg q l4 m4 n4 o4 xy) (fun Bad Ok h3 => h _ _ (Or.inr ⟨xy, h3⟩)) h1 fun b4 g4 o1 o2 o3 o4 => h2 b4 g4 (by omega) o2 o3 o4
  by_cases k3 : p_K w n b = 104
  · have hz : ∀ Bad Ok, p_iH w n b g Bad Ok → p_item w n b g Bad Ok := fun Bad Ok h => Or.inr (Or.inr (Or.inl ⟨k3, h⟩))
    by_cases q : g 8 0 = 1
    · exact h1 _ (p_S_le hb) (fun Bad Ok h => hz _ _ (Or.inl ⟨q, h⟩))
    · refine p_1_tot hw hnl (fun Bad Ok h => hz _ _ (Or.inr ⟨q, h⟩)) h1 fun b2 v l1 l2 l3 l4 h => ?_
      exact p_semi_tot l2 (g_hands_ok hg l3 l4) h h1 fun b4 g4 o1 o2 o3 o4 => h2 b4 g4 (by omega) o2 o3 o4
  by_cases k4 : p_K w n b = 101
  · have hz : ∀ Bad Ok, p_iE w n b g Bad Ok → p_item w n b g Bad Ok := fun Bad Ok h => Or.inr (Or.inr (Or.inr (Or.inl ⟨k4, h⟩)))
    by_cases q : g 8 1 = 1
    · exact h1 _ (p_S_le hb) (fun Bad Ok h => hz _ _ (Or.inl ⟨q, h⟩))
    · refine p_1_tot hw hnl (fun Bad Ok h => hz _ _ (Or.inr ⟨q, h⟩)) h1 fun b2 v l1 l2 l3 l4 h => ?_
      exact p_semi_tot l2 (g_ten_ok hg l3 l4) h h1 fun b4 g4 o1 o2 o3 o4 => h2 b4 g4 (by omega) o2 o3 o4
  · exact h1 _ (p_S_le hb) (fun Bad Ok h => Or.inr (Or.inr (Or.inr (Or.inr ⟨⟨k1, k2, k3, k4⟩, h⟩))))
/-- the whole text: k items so far -/
def p_run (w : Nat → Nat) (n : Nat) : Nat → Nat → am_G0 → Nat → (Nat → Prop) → (Nat → am_G0 → Prop) → Prop
  | 0, _, _, _, _, _ => False
  | f + 1, b, g, k, Bad, Done => (p_K w n b = 258 ∧ Done k g) ∨ (¬ p_K w n b = 258 ∧ p_item w n b g Bad (fun b2 g2 => b < b2 ∧ b2 ≤ n ∧ p_g g2 ∧ p_run w n f b2 g2 (k + 1) Bad Done))
theorem p_run_tot {w : Nat → Nat} {n : Nat} (hw : ∀ i, i < n → w i < 256) : ∀ f b g k, n < f + b → b ≤ n → p_g g → (∃ p, p ≤ n ∧ ∀ Bad Done, Bad p → p_run w n f b g k Bad Done) ∨ ∃ k2 g2, p_g g2 ∧ ∀ Bad (Done : Nat → am_G0 → Prop), Done k2 g2 → p_run w n f b g k Bad Done := by
  intro f
  induction f with
  | zero => intro b g k h1 h2; exact absurd h1 (by omega)
  | succ f ih =>
    intro b g k h1 h2 hg
    by_cases hk : p_K w n b = 258
    · exact Or.inr ⟨k, g, hg, fun Bad Done h => Or.inl ⟨hk, h⟩⟩
    · refine p_item_tot hw h2 hk hg (fun p hp h => Or.inl ⟨p, hp, fun Bad Done h3 => Or.inr ⟨hk, h _ _ h3⟩⟩) fun b2 g2 l1 l2 l3 h => ?_
      rcases ih b2 g2 (k + 1) (by omega) l2 l3 with ⟨p, hp, h4⟩ | ⟨k3, g3, l4, h4⟩
      · exact Or.inl ⟨p, hp, fun Bad Done h5 => Or.inr ⟨hk, h _ _ ⟨l1, l2, l3, h4 _ _ h5⟩⟩⟩
      · exact Or.inr ⟨k3, g3, l4, fun Bad Done h5 => Or.inr ⟨hk, h _ _ ⟨l1, l2, l3, h4 _ _ h5⟩⟩⟩
