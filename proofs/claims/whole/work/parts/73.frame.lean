/-! what no run touches: the script; and what kinds the cells have -/
def fr_ok (h h' : am_H) : Prop := h'.1 1 = h.1 1 ∧ (∀ b, b < h.2.2.2.2.1 + 3 → h'.2.2.2.1 b = h.2.2.2.1 b) ∧ h.2.2.2.2.1 ≤ h'.2.2.2.2.1
theorem fr_rfl {h : am_H} : fr_ok h h := ⟨rfl, fun _ _ => rfl, Nat.le_refl _⟩
theorem fr_tr {a b c : am_H} (h1 : fr_ok a b) (h2 : fr_ok b c) : fr_ok a c := by
  obtain ⟨p1, p2, p3⟩ := h1
  obtain ⟨q1, q2, q3⟩ := h2
  exact ⟨q1.trans p1, fun x hx => (q2 x (by omega)).trans (p2 x hx), by omega⟩
theorem fr_nx {pc pc' : Nat} {lo lo' : am_Lo} {st st' : List Value} {h h' : am_H} (hs : am_nx pc lo st h = some (.inl (pc', lo', st', h'))) : h' = h := by
  simp [am_nx] at hs
  exact hs.2.2.2.symm
theorem fr_u {h h' : am_H} {a k : Nat} {x : Int32} (ha : ¬ a = 1) (he : h' = (am_u h.1 a k x, h.2)) : fr_ok h h' := by
  subst he
  refine ⟨?_, fun _ _ => rfl, Nat.le_refl _⟩
  funext j
  show am_u h.1 a k x 1 j = h.1 1 j
  unfold am_u
  rw [if_neg (fun q => ha q.symm)]
theorem fr_al {h h' : am_H} {kind len sz : Nat} (he : h' = am_al kind len sz h) : fr_ok h h' := by
  subst he
  refine ⟨?_, fun b hb => ?_, Nat.le_succ _⟩
  · funext j
    show am_row h.1 (h.2.2.2.2.1 + 3) (fun _ => 0) 1 j = h.1 1 j
    unfold am_row
    rw [if_neg (by omega)]
  · show (if b = h.2.2.2.2.1 + 3 then (kind, len) else h.2.2.2.1 b) = _
    rw [if_neg (by omega)]
theorem fr_FT : ∀ q ci k, am_FT.lookup q = some (ci, k) → ¬ ci + 1 = 20 := by
  have all : am_FT.all (fun e => decide (¬ e.2.1 + 1 = 20)) = true := by decide +kernel
  have gen : ∀ (l : List (Nat × Nat × Nat)), l.all (fun e => decide (¬ e.2.1 + 1 = 20)) = true → ∀ q ci k, l.lookup q = some (ci, k) → ¬ ci + 1 = 20 := by
    intro l
    induction l with
    | nil => intro _ q ci k h; simp at h
    | cons e l ih =>
      intro ha q ci k h
      simp only [List.all_cons, Bool.and_eq_true, decide_eq_true_iff] at ha
      obtain ⟨a, b, c⟩ := e
      simp only [List.lookup] at h
      split at h
      · simp only [Option.some.injEq, Prod.mk.injEq] at h
        rw [← h.1]; exact ha.1
      · exact ih ha.2 q ci k h
  exact gen _ all
theorem fr_step {mi pc pc' : Nat} {i : Instr} {lo lo' : am_Lo} {st st' : List Value} {h h' : am_H} (hS : (h.2.2.2.1 1).1 = 20) (hs : am_step mi i pc lo st h = some (.inl (pc', lo', st', h'))) : fr_ok h h' := by
  cases i with
  | iastore =>
    simp only [am_step, am_arv] at hs
    (repeat' (split at hs)) <;> first | (exact absurd hs (by simp)) | (next hc => exact fr_u (by omega) (fr_nx hs))
  | castore =>
    simp only [am_step, am_arv] at hs
    (repeat' (split at hs)) <;> first | (exact absurd hs (by simp)) | (next hc => exact fr_u (fun q => by rw [q, hS] at hc; exact absurd hc.1 (by decide)) (fr_nx hs))
  | bastore =>
    simp only [am_step, am_arv] at hs
    (repeat' (split at hs)) <;> first | (exact absurd hs (by simp)) | (next hc => exact fr_u (fun q => by rw [q, hS] at hc; exact absurd hc.1 (by decide)) (fr_nx hs))
  | lastore =>
    simp only [am_step, am_arv] at hs
    (repeat' (split at hs)) <;> first | (exact absurd hs (by simp)) | (rw [fr_nx hs]; exact ⟨rfl, fun _ _ => rfl, Nat.le_refl _⟩)
  | aastore =>
    simp only [am_step, am_arv] at hs
    (repeat' (split at hs)) <;> first | (exact absurd hs (by simp)) | (rw [fr_nx hs]; exact ⟨rfl, fun _ _ => rfl, Nat.le_refl _⟩)
  | newarray t =>
    simp only [am_step, am_int1] at hs
    (repeat' (split at hs)) <;> first | (exact absurd hs (by simp)) | exact fr_al (fr_nx hs)
  | anewarray t =>
    simp only [am_step, am_int1] at hs
    (repeat' (split at hs)) <;> first | (exact absurd hs (by simp)) | exact fr_al (fr_nx hs)
  | new t =>
    simp only [am_step] at hs
    (repeat' (split at hs)) <;> first | (exact absurd hs (by simp)) | exact fr_al (fr_nx hs)
  | putfield idx =>
    simp only [am_step] at hs
    split at hs
    · split at hs
      · next hl =>
        split at hs
        · next hc =>
          split at hs
          · split at hs
            · exact fr_u (fun q => by rw [q, hS] at hc; exact fr_FT _ _ _ hl hc.1.symm) (fr_nx hs)
            · exact absurd hs (by simp)
          · split at hs
            · rw [fr_nx hs]; exact ⟨rfl, fun _ _ => rfl, Nat.le_refl _⟩
            · exact absurd hs (by simp)
          · split at hs
            · rw [fr_nx hs]; exact ⟨rfl, fun _ _ => rfl, Nat.le_refl _⟩
            · exact absurd hs (by simp)
          · exact absurd hs (by simp)
        · exact absurd hs (by simp)
      · exact absurd hs (by simp)
    · exact absurd hs (by simp)
  | invokestatic idx =>
    simp only [am_step, am_int1, am_int2] at hs
    (repeat' (split at hs)) <;> first | (rw [fr_nx hs]; exact fr_rfl) | (exact absurd hs (by simp; done)) | (next hc => rw [fr_nx hs]; exact ⟨by
      funext j
      have h3 := hc.2.2.2.2.1
      dsimp only
      unfold am_row
      split
      · next q => rw [← q] at h3; exact absurd h3 (by decide)
      · rfl, fun _ _ => rfl, Nat.le_refl _⟩)
  | _ =>
    simp only [am_step, am_int1, am_int2, am_lng1, am_lng2, am_ref1, am_ari, am_arv, am_ld, am_br, am_go] at hs
    (repeat' (split at hs)) <;> first | (exact absurd hs (by simp)) | (rw [fr_nx hs]; exact fr_rfl)
def fr_v (mi : Nat) (v : Option Value) : Prop := (∃ x, v = some (.int x)) ∨ am_ret mi = some .long ∨ am_ret mi = none
theorem fr_end {mi pc : Nat} {i : Instr} {lo : am_Lo} {st : List Value} {h : am_H} {v : Option Value} (hs : am_step mi i pc lo st h = some (.inr (.inr v))) : fr_v mi v := by
  cases i with
  | ireturn =>
    simp only [am_step] at hs
    (repeat' (split at hs)) <;> first | (simp only [Option.some.injEq, Sum.inr.injEq] at hs; exact Or.inl ⟨_, hs.symm⟩) | cases hs
  | lreturn =>
    simp only [am_step] at hs
    (repeat' (split at hs)) <;> first | (next hc => exact Or.inr (Or.inl hc)) | cases hs
  | return_ =>
    simp only [am_step] at hs
    (repeat' (split at hs)) <;> first | (next hc => exact Or.inr (Or.inr hc)) | cases hs
  | _ =>
    exfalso
    simp only [am_step, am_int1, am_int2, am_lng1, am_lng2, am_ref1, am_ari, am_arv, am_ld, am_br, am_go] at hs
    (repeat' (split at hs)) <;> simp [am_nx] at hs
theorem fr_run {call : Nat → List Value → am_H → Option (Option Value × am_H)} {mi : Nat} (hc : ∀ j as h v h', (h.2.2.2.1 1).1 = 20 → call j as h = some (v, h') → fr_ok h h') : ∀ (n pc : Nat) (lo : am_Lo) (st : List Value) (h : am_H) (v : Option Value) (h' : am_H), (h.2.2.2.1 1).1 = 20 → am_run call mi n pc lo st h = some (v, h') → fr_ok h h' ∧ fr_v mi v := by
  intro n
  induction n with
  | zero => intro pc lo st h v h' _ hr; simp [am_run] at hr
  | succ n ih =>
    intro pc lo st h v h' hS hr
    rw [am_run] at hr
    cases hd : decode (am_mb mi) pc with
    | error e => rw [hd] at hr; exact absurd hr (by simp)
    | ok q =>
      obtain ⟨i, len⟩ := q
      rw [hd] at hr
      dsimp only at hr
      by_cases hl : len = am_len i len
      · rw [if_pos hl] at hr
        cases hs : am_step mi i pc lo st h with
        | none => rw [hs] at hr; exact absurd hr (by simp)
        | some x =>
          rw [hs] at hr
          match x, hs, hr with
          | .inl (pc', lo', st', h1), hs, hr =>
            have f1 := fr_step hS hs
            obtain ⟨g1, g2⟩ := ih pc' lo' st' h1 v h' (by rw [f1.2.1 1 (by omega)]; exact hS) hr
            exact ⟨fr_tr f1 g1, g2⟩
          | .inr (.inl (j, as, rr)), hs, hr =>
            dsimp only at hr
            cases hcj : call j as h with
            | none => rw [hcj] at hr; exact absurd hr (by simp)
            | some y =>
              rw [hcj] at hr
              obtain ⟨w, h1⟩ := y
              have f1 := hc j as h w h1 hS hcj
              obtain ⟨g1, g2⟩ := ih _ _ _ h1 v h' (by rw [f1.2.1 1 (by omega)]; exact hS) hr
              exact ⟨fr_tr f1 g1, g2⟩
          | .inr (.inr w), hs, hr =>
            simp only [Option.some.injEq, Prod.mk.injEq] at hr
            obtain ⟨rfl, rfl⟩ := hr
            exact ⟨fr_rfl, fr_end hs⟩
      · rw [if_neg hl] at hr; exact absurd hr (by simp)
theorem fr_call : ∀ (f j : Nat) (as : List Value) (h : am_H) (v : Option Value) (h' : am_H), (h.2.2.2.1 1).1 = 20 → am_call f j as h = some (v, h') → fr_ok h h' ∧ fr_v j v := by
  intro f
  induction f with
  | zero => intro j as h v h' _ hr; simp [am_call] at hr
  | succ f ih =>
    intro j as h v h' hS hr
    rw [am_call] at hr
    by_cases hl : (am_al0 as).length ≤ am_mL j
    · rw [if_pos hl] at hr
      exact fr_run (fun j as h v h' q1 q2 => (ih j as h v h' q1 q2).1) f 0 _ [] h v h' hS hr
    · rw [if_neg hl] at hr; exact absurd hr (by simp)
theorem fr_ev {m : Nat} {as : List Value} {I : am_I} {L : am_L} {P : am_P} {S : am_S} {Q : Option Value → am_I → am_L → am_P → am_S → Prop} (hS : (S.1 1).1 = 20) (h : Ev m as I L P S Q) : Ev m as I L P S (fun v I' L' P' S' => Q v I' L' P' S' ∧ I' 1 = I 1 ∧ (∀ b, b < S.2.1 + 3 → S'.1 b = S.1 b) ∧ fr_v m v) := by
  obtain ⟨f, v, I', L', P', S', h1, h2⟩ := h
  obtain ⟨g1, g2⟩ := fr_call f m as (I, L, P, S) v (I', L', P', S') hS h1
  exact ⟨f, v, I', L', P', S', h1, h2, g1.1, g1.2.1, g2⟩
