/-! what both hold when the law has made them -/
def lw_sg : am_G0 := fun a k => if a = 0 then (if k = 2 then 2 else if k = 3 then 60 else 0) else if a = 7 then (if k = 1 then 4 else 0) else 0
section LF
variable {I : am_I} {L : am_L}
set_option maxHeartbeats 4000000 in
theorem lw_v (h2 : I 2 0 = 1 ∧ I 2 1 = 6 ∧ I 2 2 = 36 ∧ I 2 3 = 216) : (am_I1 I 2 0 = 1 ∧ am_I1 I 2 1 = 6 ∧ am_I1 I 2 2 = 36 ∧ am_I1 I 2 3 = 216) ∧ (am_I1 I 6 0 = 0 ∧ am_I1 I 6 1 = 0 ∧ am_I1 I 6 2 = 2 ∧ am_I1 I 6 3 = 60) ∧ (am_I1 I 63 0 = 0 ∧ am_I1 I 63 2 = 0 ∧ am_I1 I 63 4 = 2 ∧ am_I1 I 63 5 = 60) ∧ (am_I1 I 7 4 = 0 ∧ am_I1 I 8 4 = 0 ∧ am_I1 I 14 4 = 0 ∧ am_I1 I 15 4 = 0) ∧ (am_I1 I 20 0 = 0 ∧ am_I1 I 20 1 = 4 ∧ am_I1 I 20 2 = 0) ∧ (am_I1 I 66 0 = 0 ∧ am_I1 I 66 1 = 4 ∧ am_I1 I 66 6 = 0) ∧ (am_I1 I 22 1 = 0 ∧ am_I1 I 63 8 = 0 ∧ am_I1 I 22 2 = 0) ∧ (am_I1 I 46 0 = 0 ∧ am_I1 I 46 1 = 0 ∧ am_I1 I 63 11 = 0 ∧ am_I1 I 63 13 = 0 ∧ am_I1 I 4 1 = 0 ∧ am_I1 I 63 17 = 0) ∧ (am_I1 I 51 5 = 0 ∧ am_I1 I 63 31 = 0) := by
  obtain ⟨a0, a1, a2, a3⟩ := h2
  refine ⟨⟨?_, ?_, ?_, ?_⟩, ⟨?_, ?_, ?_, ?_⟩, ⟨?_, ?_, ?_, ?_⟩, ⟨?_, ?_, ?_, ?_⟩, ⟨?_, ?_, ?_⟩, ⟨?_, ?_, ?_⟩, ⟨?_, ?_, ?_⟩, ⟨?_, ?_, ?_, ?_, ?_, ?_⟩, ⟨?_, ?_⟩⟩ <;> simp [am_I1, am_u_at, am_row_at, a0, a1, a2, a3]
set_option maxHeartbeats 4000000 in
theorem lw_k (i : Nat) : am_I1 I 45 i = 0 ∧ am_I1 I 69 i = 0 := by
  refine ⟨?_, ?_⟩ <;> simp [am_I1, am_u_at, am_row_at]
set_option maxHeartbeats 4000000 in
theorem lw_l (s : Nat) : am_L1 L 52 s = 0 ∧ am_L1 L 3 11 = 0 ∧ am_L1 L 63 15 = 0 := by
  refine ⟨?_, ?_, ?_⟩ <;> simp [am_L1, am_u_at, am_row_at]
theorem lw_first (h2 : I 2 0 = 1 ∧ I 2 1 = 6 ∧ I 2 2 = 36 ∧ I 2 3 = 216) : r_R (am_I1 I) (am_L1 L) lw_sg 6 := by
  obtain ⟨⟨a1, a2, a3, a4⟩, ⟨b1, b2, b3, b4⟩, ⟨c1, c2, c3, c4⟩, ⟨d1, d2, d3, d4⟩, ⟨e1, e2, e3⟩, ⟨f1, f2, f3⟩, ⟨g1, g2, g3⟩, ⟨i1, i2, i3, i4, i5, i6⟩, ⟨j1, j2⟩⟩ := lw_v h2
  have no : ∀ {p : Prop} (i : Nat), i < 0 → p := fun i hi => absurd hi (Nat.not_lt_zero i)
  refine ⟨⟨Or.inl rfl, ⟨by decide, by decide, by decide, by decide, fun i hi => no i hi, fun i hi => no i hi⟩, b1, b2, b3, b4, ⟨c1, c2, c3, c4⟩, fun i hi => no i hi, fun i hi => no i hi, d1, d2, d3, d4⟩, ⟨⟨by decide, Or.inr rfl, by decide, fun i hi => no i hi, by decide⟩, ⟨e1, e2, e3, fun i hi => no i hi⟩, ⟨f1, f2, f3, fun i hi => no i hi⟩⟩, ⟨by decide, g1, g2, 0, by decide, g3, fun i hi => no i hi⟩, fun i _ => ⟨Nat.zero_le _, (lw_k i).1, (lw_k i).2, fun q => absurd (show (0 : Nat) = 1 from q) (by decide)⟩, ⟨by decide, i1, i3, fun i hi => no i hi, by decide, i2, i4, fun i hi => no i hi⟩, ⟨by decide, i5, i6, fun i hi => no i hi⟩, (lw_l 0).2.1.trans (lw_l 0).2.2.symm, ⟨a1, a2, a3, a4, 0, by decide, j1, fun _ _ => 0, fun s _ => ⟨fun _ _ => (by show 0 < 4096; omega), (lw_l s).1, fun n _ q => absurd q (by simp)⟩⟩, Or.inl j2, fun q => absurd (j2.symm.trans q) (by decide)⟩
end LF
