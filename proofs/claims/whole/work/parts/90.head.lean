/-! THE CLAIM OUT OF ONE WALK OF THE LAW'S BODY. Your part is whole_start (and what it stands on); all else here is the same for every law, but numbers. -/
def R_law : String := "MindsByTenLaw"
def lw_P (b : Addr) (xs : List Int32) (args : Array Value) (s : State) : Prop := args = #[.ref b] ∧ s.IntsAt b xs ∧ xs.length ≤ 2048 ∧ (Jvm.Cond.and given_1 narrow_1).before args s = true
def lw_Q (_ : Array Value) (s : State) (o : Outcome) (t : State) : Prop := o = .returned (some (.int 1)) ∧ Framed s o t [] 600000 7302250
def lw_Z (below : List Frame) (a : Array Value) (s : State) : State → Prop := fun t => ∃ o, t.status = .running ∧ Ended t below o ∧ lw_Q a s o t
/-- the law's own end, with 1 on the stack, nothing written that was there before, its room as the claim has it -/
theorem lw_ret {p : Program} {l : Launch} {e : Env} {s : State} {m : MethodId} {below : List Frame} {meth : Method} {c : Code} {b : Nat} (hx : p.tables.exec = Jvm.exec) (hb : c.code = code) (hr : meth.sig.returnType = ret) (hlocks : meth.locks = false) {pc : Nat} {H : Heap} {ls : Array Slot} (hdg : decode code pc = .ok (.ireturn, 1)) : W p l e room_1 s m #[Value.ref b] below meth c H [] 600000 7302250 (lw_Z below #[Value.ref b] s) (F0 m pc ls [.int 1]) := by
  intro T hT X
  obtain ⟨fs, hret, hrun, hended, hW, hframe⟩ := X.leave (v := some (.int 1)) (hlocks := hlocks) (fun h => by rw [hr] at h; cases h)
  have hmeth' : T.vm.method? m = some meth := X.method'
  refine ⟨T.setFrames fs, ?_, .returned (some (.int 1)), hrun, hended, rfl, ⟨_, rfl⟩, hW, hframe⟩
  jvm_step X.here [X.here.top, hx, hb, hdg, hmeth', hr, ret, narrow_b1]
  (try refine ⟨rfl, ?_⟩); (try refine ⟨rfl, ?_⟩)
  first | (intro acts; rw [hret _ acts rfl rfl rfl]) | rw [hret _ _ rfl rfl rfl]
  exact Steps.refl _
/-- what holds at the law's entry: the machine, the code, the tables' words (any of lw_tbl by 'hts w (by decide +kernel)'), the script of L ints xs at the cell b, what the Statement gives of the start (any of its parts by flat_of_before) -/
def lw_At (p : Program) (s : State) (m : MethodId) (meth : Method) (c : Code) (b L : Nat) (xs : Nat → Int32) : Prop :=
  p.tables.exec = Jvm.exec ∧ c.code = code ∧ meth.sig.returnType = ret ∧ c.maxLocals = 4 ∧ s.vm.findClass R_law = some m.cls ∧ (∀ w ∈ lw_tbl, w.before #[Value.ref b] s = true) ∧ va_X b L xs s s.heap ∧ b < s.heap.size ∧ meth.locks = false ∧ (Jvm.Cond.and given_1 narrow_1).before #[Value.ref b] s = true

/-! the law's start: what the Statement gives of it is the world of the machine of numbers -/
def am_I0 (Lx : Nat) (xs : Nat → Int32) : am_I := fun a j => if a = 1 then (if j < Lx then xs j else 0) else if a = 2 then am_unit j else 0
theorem am_world {s : State} {args : Array Value} {b Lx : Nat} {xs : Nat → Int32} (hts : ∀ w ∈ lw_tbl, w.before args s = true) (hX : va_X b Lx xs s s.heap) (hbl : b < s.heap.size) (hgv : (Jvm.Cond.and given_1 narrow_1).before args s = true) : ∃ (tU : Nat) (D : va_G) (cT : Nat → ClassId), am_Wd b tU s.heap.size Lx xs D cT s s.heap := by
  have hsub : ∀ w ∈ am_W, w.before args s = true := fun w hw => hts w (List.mem_filter.mp hw).1
  have hg := flat_of_before _ hgv
  have hA : ∀ a : Nat, a < s.heap.size → ¬ (fun q : Nat => s.heap.size ≤ q) a := fun a ha => Nat.not_le.mpr ha
  have h1 : (Cond.arrayOf (.static "MindsByTen$Ways" "UNIT" "[I") .int).before args s = true := hg _ (by decide +kernel)
  have h2 : (Cond.eq (.length (.static "MindsByTen$Ways" "UNIT" "[I")) (.int 4)).before args s = true := hg _ (by decide +kernel)
  have e0 : (Cond.eq (.elem (.static "MindsByTen$Ways" "UNIT" "[I") (.int 0)) (.int 1)).before args s = true := hg _ (by decide +kernel)
  have e1 : (Cond.eq (.elem (.static "MindsByTen$Ways" "UNIT" "[I") (.int 1)) (.int 6)).before args s = true := hg _ (by decide +kernel)
  have e2 : (Cond.eq (.elem (.static "MindsByTen$Ways" "UNIT" "[I") (.int 2)) (.int 36)).before args s = true := hg _ (by decide +kernel)
  have e3 : (Cond.eq (.elem (.static "MindsByTen$Ways" "UNIT" "[I") (.int 3)) (.int 216)).before args s = true := hg _ (by decide +kernel)
  obtain ⟨tU, ht, hT⟩ := va_Tof (tm := .static "MindsByTen$Ways" "UNIT" "[I") (ty := .int) (N := 4) (f := fun j => .int (am_unit j)) (A := fun q : Nat => s.heap.size ≤ q) (by decide) h1 (va_eqt h2) (fun j hj => by
    match j, hj with
    | 0, _ => exact va_eqt e0
    | 1, _ => exact va_eqt e1
    | 2, _ => exact va_eqt e2
    | 3, _ => exact va_eqt e3
    | n + 4, h => exact absurd h (by omega)) hA
  have hZ := va_Zref (hts _ am_unit_lays) (hsub _ (am_kOK_all 5 (by omega)).2.2.2.2.2.1) ht hA
  have hcls : ∀ k : Nat, ∃ q : ClassId × (Nat → Nat), k < 8 → u_Kn s (am_C k) (am_T k) (am_N k) q.1 q.2 := by
    intro k
    by_cases hk : k < 8
    · obtain ⟨o1, o2, o3, o4, o5, o6, o7⟩ := am_kOK_all k hk
      obtain ⟨cC, iS, h⟩ := u_known (N := am_N k) (n := am_N k) hsub o1 (hsub _ o5)
      exact ⟨(cC, iS), fun _ => h⟩
    · exact ⟨(0, fun _ => 0), fun h => absurd h hk⟩
  have harr : ∀ ty : FieldType, Cond.arrayClass ty ∈ am_W → (∀ C, ty ≠ .object C) → ∃ cA : ClassId, ArrOfT s cA ty ∧ va_RA s cA ty := by
    intro ty hw hty
    obtain ⟨cA, kA, comp, g1, g2, g3⟩ := Cond.arrayClass_spec (hsub _ hw)
    refine ⟨cA, fun n z => ⟨fun k h => (by cases h), kA, g2, comp, g3⟩, ?_⟩
    cases ty <;> first | exact g1 | exact absurd rfl (hty _)
  obtain ⟨c0, a0⟩ := harr .int am_arr_int (fun _ h => by cases h)
  obtain ⟨c1, a1⟩ := harr .long am_arr_long (fun _ h => by cases h)
  obtain ⟨c2, a2⟩ := harr .char am_arr_char (fun _ h => by cases h)
  obtain ⟨c3, a3⟩ := harr .boolean am_arr_boolean (fun _ h => by cases h)
  obtain ⟨comp, c4, kA, g1, g2, g3, g4, g5⟩ := Cond.arrayOver_spec (hts _ am_arr_over)
  refine ⟨tU, (fun k => (Classical.choose (hcls k)).1, fun k => (Classical.choose (hcls k)).2), fun k => [c0, c1, c2, c3, c4].getD k 0, ⟨fun k q hq => ?_, fun k q hq => ?_⟩, hZ, hT, hX, hbl, Nat.le_refl _, fun e he => va_Nw.of rfl (hts _ (am_nest_ok e he)), va_AO.of (hts _ am_arr_over)⟩
  · have hk : k < 8 := by
      have := (List.getElem?_eq_some_iff.mp hq).1
      exact this
    have h9 := (am_kOK_all k hk).2.2.2.1
    rw [hq] at h9
    cases h9
    exact Classical.choose_spec (hcls k) hk
  · match k, hq with
    | 0, hq => cases hq; exact a0
    | 1, hq => cases hq; exact a1
    | 2, hq => cases hq; exact a2
    | 3, hq => cases hq; exact a3
    | 4, hq => cases hq; exact ⟨fun n z => ⟨fun k h => (by cases h), kA, g3, comp, g4⟩, kA, comp, g3, g4, g1, g5⟩
    | k + 5, hq => simp [am_tys] at hq
