/-! THE MACHINE OF NUMBERS IS SOUND: what it does, the Statement's machine does. First: the world that a heap of numbers stands for -/
theorem am_own_lt (mi : Nat) : am_own mi < 16 := by
  have h : ∀ q ∈ am_ms, q.2.2.2.2.1 < 16 := by decide +kernel
  unfold am_own am_mq
  rw [List.getD_eq_getElem?_getD]
  cases hq : am_ms[mi]? with
  | none => exact Nat.lt_of_sub_eq_succ rfl
  | some q => exact h q (List.mem_of_getElem? hq)
theorem am_lk {β : Type} : ∀ (l : List (Nat × β)) (k : Nat) (v : β), l.lookup k = some v → (k, v) ∈ l
  | [], k, v, h => by simp at h
  | (a, b) :: l, k, v, h => by
    rw [List.lookup_cons] at h
    by_cases hk : k = a
    · subst hk
      simp at h
      subst h
      exact List.mem_cons_self
    · have hk2 : (k == a) = false := by simpa using hk
      rw [hk2] at h
      exact List.mem_cons_of_mem _ (am_lk l k v h)
theorem am_k1 (idx mi : Nat) : (idx * 16 + am_own mi) % 16 = am_own mi := by have := am_own_lt mi; omega
theorem am_k2 (idx mi : Nat) : (idx * 16 + am_own mi) / 16 = idx := by have := am_own_lt mi; omega
theorem am_i_word {idx mi : Nat} {v : Int32} (h : am_KT.lookup (idx * 16 + am_own mi) = some v) : Cond.constant (am_cn (am_own mi)) idx v ∈ am_W := by
  have := am_iOK_all _ (am_lk _ _ _ h)
  simpa only [am_iOK, am_k1, am_k2] using this
theorem am_l_word {idx mi : Nat} {v : Int64} (h : am_LT.lookup (idx * 16 + am_own mi) = some v) : Cond.constantLong (am_cn (am_own mi)) idx v ∈ am_W := by
  have := am_lOK_all _ (am_lk _ _ _ h)
  simpa only [am_lOK, am_k1, am_k2] using this
theorem am_n_word {idx mi ci : Nat} (h : am_CT.lookup (idx * 16 + am_own mi) = some ci) : ci < 8 ∧ Cond.classLink (am_cn (am_own mi)) idx (am_C ci) ∈ am_W := by
  have := am_nOK_all _ (am_lk _ _ _ h)
  simpa only [am_nOK, am_k1, am_k2] using this
theorem am_f_word {idx mi ci k : Nat} (h : am_FT.lookup (idx * 16 + am_own mi) = some (ci, k)) : ci < 8 ∧ k < am_N ci ∧ Cond.fieldLink (am_cn (am_own mi)) idx (am_C ci) ((am_T ci) k).2.1 ((am_T ci) k).2.2.1 ∈ am_W := by
  have := am_fOK_all _ (am_lk _ _ _ h)
  simpa only [am_fOK, am_k1, am_k2] using this
theorem am_c_word {idx mi kd j : Nat} (h : am_MT.lookup (idx * 16 + am_own mi) = some (kd, j)) : am_cOK (idx * 16 + am_own mi, kd, j) := am_cOK_all _ (am_lk _ _ _ h)
def am_ad (b tU base : Nat) : Nat → Nat
  | 0 => 0
  | 1 => b
  | 2 => tU
  | k + 3 => base + k
def am_cv (ad : Nat → Nat) (v : Value) : Value := match v with
  | .ref a => .ref (ad a)
  | v => v
theorem am_cv_cat (ad : Nat → Nat) (v : Value) : (am_cv ad v).category = v.category := by cases v <;> rfl
def am_rf (ad : Nat → Nat) (r : Nat) : Value := if r = 0 then .null else .ref (ad r)
def am_fv (ad : Nat → Nat) (t : FieldType) (I : am_I) (L : am_L) (P : am_P) (a k : Nat) : Value :=
  if am_isI t = true then .int (I a k) else if t = .long then .long (L a k) else am_rf ad (P a k)
def am_fs (ad : Nat → Nat) (ci : Nat) (h : am_H) (a : Nat) : List Value := (List.range (am_N ci)).map fun j => am_fv ad (am_ty ci j) h.1 h.2.1 h.2.2.1 a j
def am_el (ad : Nat → Nat) (cT : Nat → ClassId) (h : am_H) (a : Nat) : va_E :=
  if (h.2.2.2.1 a).1 = 20 then .inl (cT 0, (h.2.2.2.1 a).2, .inl (h.1 a))
  else if (h.2.2.2.1 a).1 = 21 then .inl (cT 1, (h.2.2.2.1 a).2, .inr (.inl (h.2.1 a)))
  else if (h.2.2.2.1 a).1 = 22 then .inl (cT 2, (h.2.2.2.1 a).2, .inl (h.1 a))
  else if (h.2.2.2.1 a).1 = 23 then .inl (cT 3, (h.2.2.2.1 a).2, .inl (h.1 a))
  else if (h.2.2.2.1 a).1 = 24 then .inl (cT 4, (h.2.2.2.1 a).2, .inr (.inr (.inr (.inr (fun j => if h.2.2.1 a j = 0 then none else some (ad (h.2.2.1 a j)))))))
  else .inr ((h.2.2.2.1 a).1 - 1, am_fs ad ((h.2.2.2.1 a).1 - 1) h a)
def am_wo (ad : Nat → Nat) (cT : Nat → ClassId) (base : Nat) (h : am_H) : va_W := (List.range h.2.2.2.2.1).map fun i => (base + i, am_el ad cT h (i + 3))
def am_tys (cT : Nat → ClassId) : List (ClassId × FieldType) := [(cT 0, .int), (cT 1, .long), (cT 2, .char), (cT 3, .boolean), (cT 4, .object "MindsByTen$Moment")]
def am_unit (j : Nat) : Int32 := ([1, 6, 36, 216] : List Int32).getD j 0
def am_Wd (b tU base Lx : Nat) (xs : Nat → Int32) (D : va_G) (cT : Nat → ClassId) (U : State) (H : Heap) : Prop :=
  va_K D vwCl (am_tys cT) U ∧ va_Z "MindsByTen$Ways" "UNIT" "[I" (.ref tU) (fun q => base ≤ q) U H ∧ va_T .int tU 4 (fun j => .int (am_unit j)) (fun q => base ≤ q) U H ∧ va_X b Lx xs U H ∧ b < base ∧ base ≤ H.size ∧
  (∀ e ∈ am_nest, va_Nw (.methodLinkNest e.1 e.2.1 e.2.2 "MindsByTen") U) ∧ va_AO "MindsByTen$Moment" U
def am_wf (Lx : Nat) (xs : Nat → Int32) (h : am_H) : Prop :=
  (∀ a, h.2.2.2.2.1 + 3 ≤ a → (h.2.2.2.1 a).1 = 0) ∧ (h.2.2.2.1 0).1 = 0 ∧ h.2.2.2.1 1 = (20, Lx) ∧ h.2.2.2.1 2 = (20, 4) ∧ (∀ j, j < Lx → h.1 1 j = xs j) ∧ ∀ j, j < 4 → h.1 2 j = am_unit j
def am_lh (ad : Nat → Nat) (ls : Array Slot) (nL : Nat) (lo : am_Lo) : Prop :=
  ls.size = nL ∧ lv_wf ls ∧ lo.length = nL ∧ ∀ (i : Nat) (v : Value), lo[i]? = some (some v) → ls[i]? = some (.val (am_cv ad v))
def am_Fx (p : Program) (R : Room) (s : State) (m : MethodId) (args : Array Value) (meth : Method) (c : Code) (mi : Nat) : Prop :=
  p.tables.exec = Jvm.exec ∧ c.code = am_mb mi ∧ c.maxLocals = am_mL mi ∧ s.vm.findClass (am_cn (am_own mi)) = some m.cls ∧ (∀ w ∈ am_W, w.before args s = true) ∧ meth.sig.returnType = am_ret mi ∧ meth.locks = false ∧
  ((am_y mi).name = "<init>" → meth.name = "<init>") ∧ am_rk mi ≤ R.frames ∧ am_lr mi ≤ R.locals
def am_St (b tU base Lx : Nat) (xs : Nat → Int32) (D : va_G) (cT : Nat → ClassId) (n0 m0 : Nat) (s : State) (mi : Nat) (h : am_H) (H : Heap) (locs : List Loc) (ls : Array Slot) (lo : am_Lo) (cells slots : Nat) : Prop :=
  va_P D vwCl (am_wo (am_ad b tU base) cT base h) H ∧ va_S (fun q => base ≤ q) s.heap H locs ∧ H.size = base + h.2.2.2.2.1 ∧ am_lh (am_ad b tU base) ls (am_mL mi) lo ∧ am_wf Lx xs h ∧ cells + n0 = h.2.2.2.2.1 ∧ slots + m0 = h.2.2.2.2.2
section SA
variable {b tU base Lx : Nat} {xs : Nat → Int32} {D : va_G} {cT : Nat → ClassId} {ad : Nat → Nat}
theorem am_wo_get {h : am_H} {i : Nat} (hi : i < h.2.2.2.2.1) : (am_wo ad cT base h)[i]? = some (base + i, am_el ad cT h (i + 3)) := by
  simp [am_wo, hi]
theorem am_wo_len {h : am_H} : (am_wo ad cT base h).length = h.2.2.2.2.1 := by simp [am_wo]
theorem am_wo_inv {h : am_H} {i : Nat} {q : Nat × va_E} (hq : (am_wo ad cT base h)[i]? = some q) : i < h.2.2.2.2.1 ∧ q.1 = base + i := by
  have hl := (List.getElem?_eq_some_iff.mp hq).1
  rw [am_wo_len] at hl
  rw [am_wo_get hl] at hq
  cases hq
  exact ⟨hl, rfl⟩
theorem am_dis {h : am_H} : va_D (fun q => base ≤ q) (am_wo ad cT base h) := by
  refine ⟨fun i j p q hi hj e => ?_, fun k q hk => ?_⟩
  · have h1 := (am_wo_inv hi).2
    have h2 := (am_wo_inv hj).2
    omega
  · have h1 := (am_wo_inv hk).2
    show base ≤ q.1
    omega
theorem am_wo_set {h h' : am_H} {i : Nat} {e : va_E} (hn : h'.2.2.2.2.1 = h.2.2.2.2.1) (hi : i < h.2.2.2.2.1) (he : am_el ad cT h' (i + 3) = e) (ho : ∀ j, j ≠ i → am_el ad cT h' (j + 3) = am_el ad cT h (j + 3)) : (am_wo ad cT base h).set i (base + i, e) = am_wo ad cT base h' := by
  apply List.ext_getElem?
  intro j
  by_cases hj : j < h.2.2.2.2.1
  · by_cases hji : j = i
    · subst hji
      rw [List.getElem?_set_self (by rw [am_wo_len]; exact hi), am_wo_get (by rw [hn]; exact hi), he]
    · rw [List.getElem?_set_ne (Ne.symm hji), am_wo_get hj, am_wo_get (by rw [hn]; exact hj), ho j hji]
  · rw [List.getElem?_eq_none (by rw [List.length_set, am_wo_len]; omega), List.getElem?_eq_none (by rw [am_wo_len]; omega)]
theorem am_wo_push {h h' : am_H} (hn : h'.2.2.2.2.1 = h.2.2.2.2.1 + 1) (ho : ∀ j, j < h.2.2.2.2.1 → am_el ad cT h' (j + 3) = am_el ad cT h (j + 3)) : am_wo ad cT base h' = am_wo ad cT base h ++ [(base + h.2.2.2.2.1, am_el ad cT h' (h.2.2.2.2.1 + 3))] := by
  unfold am_wo
  rw [hn, List.range_succ, List.map_append]
  congr 1
  apply List.map_congr_left
  intro j hj
  rw [ho j (List.mem_range.mp hj)]
theorem am_at {h : am_H} (hwf : am_wf Lx xs h) {a : Nat} (h3 : 3 ≤ a) (hk : (h.2.2.2.1 a).1 ≠ 0) : a - 3 < h.2.2.2.2.1 ∧ (am_wo (am_ad b tU base) cT base h)[a - 3]? = some (am_ad b tU base a, am_el (am_ad b tU base) cT h a) := by
  obtain ⟨i, rfl⟩ : ∃ i, a = i + 3 := ⟨a - 3, by omega⟩
  have hi : i < h.2.2.2.2.1 := by
    rcases Nat.lt_or_ge i h.2.2.2.2.1 with q | q
    · exact q
    · exact absurd (hwf.1 (i + 3) (by omega)) hk
  refine ⟨by omega, ?_⟩
  rw [show i + 3 - 3 = i by omega, am_wo_get hi]
  rfl
theorem am_ge3 {h : am_H} (hwf : am_wf Lx xs h) {a : Nat} (hk : (h.2.2.2.1 a).1 ≠ 0) (hk2 : (h.2.2.2.1 a).1 ≠ 20) : 3 ≤ a := by
  obtain ⟨-, h0, h1, h2, -⟩ := hwf
  match a, hk, hk2 with
  | 0, hk, _ => exact absurd h0 hk
  | 1, _, hk2 => exact absurd (by rw [h1]) hk2
  | 2, _, hk2 => exact absurd (by rw [h2]) hk2
  | a + 3, _, _ => omega
theorem am_el_obj {h : am_H} {a ci : Nat} (hk : (h.2.2.2.1 a).1 = ci + 1) (hci : ci < 8) : am_el ad cT h a = .inr (ci, am_fs ad ci h a) := by
  unfold am_el
  rw [hk, if_neg (by omega), if_neg (by omega), if_neg (by omega), if_neg (by omega), if_neg (by omega)]
  rfl
theorem am_el_i {h : am_H} {a : Nat} (hk : (h.2.2.2.1 a).1 = 20) : am_el ad cT h a = .inl (cT 0, (h.2.2.2.1 a).2, .inl (h.1 a)) := by
  unfold am_el; rw [if_pos hk]
theorem am_el_l {h : am_H} {a : Nat} (hk : (h.2.2.2.1 a).1 = 21) : am_el ad cT h a = .inl (cT 1, (h.2.2.2.1 a).2, .inr (.inl (h.2.1 a))) := by
  unfold am_el; rw [if_neg (by omega), if_pos hk]
theorem am_el_c {h : am_H} {a : Nat} (hk : (h.2.2.2.1 a).1 = 22) : am_el ad cT h a = .inl (cT 2, (h.2.2.2.1 a).2, .inl (h.1 a)) := by
  unfold am_el; rw [if_neg (by omega), if_neg (by omega), if_pos hk]
theorem am_el_z {h : am_H} {a : Nat} (hk : (h.2.2.2.1 a).1 = 23) : am_el ad cT h a = .inl (cT 3, (h.2.2.2.1 a).2, .inl (h.1 a)) := by
  unfold am_el; rw [if_neg (by omega), if_neg (by omega), if_neg (by omega), if_pos hk]
theorem am_el_q {h : am_H} {a : Nat} (hk : (h.2.2.2.1 a).1 = 24) : am_el ad cT h a = .inl (cT 4, (h.2.2.2.1 a).2, .inr (.inr (.inr (.inr (fun j => if h.2.2.1 a j = 0 then none else some (ad (h.2.2.1 a j))))))) := by
  unfold am_el; rw [if_neg (by omega), if_neg (by omega), if_neg (by omega), if_neg (by omega), if_pos hk]
/-- cells whose numbers are alike are alike -/
theorem am_el_eq {h h' : am_H} {a : Nat} (h1 : h'.2.2.2.1 a = h.2.2.2.1 a) (h2 : h'.1 a = h.1 a) (h3 : h'.2.1 a = h.2.1 a) (h4 : h'.2.2.1 a = h.2.2.1 a) : am_el ad cT h' a = am_el ad cT h a := by
  unfold am_el am_fs am_fv
  rw [h1, h2, h3, h4]
theorem am_u_ne {α : Type} {f : Nat → Nat → α} {a b k : Nat} {v : α} (hne : b ≠ a) : am_u f a k v b = f b := by
  funext j; simp [am_u, hne]
theorem am_u_eq {α : Type} {f : Nat → Nat → α} {a k : Nat} {v : α} : am_u f a k v a = fun j => if j = k then v else f a j := by
  funext j; simp [am_u]
theorem am_row_ne {α : Type} {f : Nat → Nat → α} {a b : Nat} {r : Nat → α} (hne : b ≠ a) : am_row f a r b = f b := by
  funext j; simp [am_row, hne]
theorem am_row_eq {α : Type} {f : Nat → Nat → α} {a : Nat} {r : Nat → α} : am_row f a r a = r := by
  funext j; simp [am_row]
theorem am_wf_row {h : am_H} (hwf : am_wf Lx xs h) {I : am_I} {L : am_L} {P : am_P} {a : Nat} (h3 : 3 ≤ a) (hI : ∀ b, b ≠ a → I b = h.1 b) : am_wf Lx xs (I, L, P, h.2.2.2) := by
  obtain ⟨w1, w2, w3, w4, w5, w6⟩ := hwf
  refine ⟨w1, w2, w3, w4, fun j hj => ?_, fun j hj => ?_⟩
  · show I 1 j = xs j
    rw [hI 1 (by omega)]; exact w5 j hj
  · show I 2 j = am_unit j
    rw [hI 2 (by omega)]; exact w6 j hj
/-- the world behind a change of one cell's numbers -/
theorem am_chg {h : am_H} (hwf : am_wf Lx xs h) {I : am_I} {L : am_L} {P : am_P} {a : Nat} (h3 : 3 ≤ a) (hk : (h.2.2.2.1 a).1 ≠ 0) (hI : ∀ b, b ≠ a → I b = h.1 b) (hLo : ∀ b, b ≠ a → L b = h.2.1 b) (hPo : ∀ b, b ≠ a → P b = h.2.2.1 b) :
    (am_wo (am_ad b tU base) cT base h).set (a - 3) (am_ad b tU base a, am_el (am_ad b tU base) cT (I, L, P, h.2.2.2) a) = am_wo (am_ad b tU base) cT base (I, L, P, h.2.2.2) := by
  have hlt := (am_at (b := b) (tU := tU) (base := base) (cT := cT) hwf h3 hk).1
  obtain ⟨i, rfl⟩ : ∃ i, a = i + 3 := ⟨a - 3, by omega⟩
  rw [show i + 3 - 3 = i by omega] at hlt ⊢
  exact am_wo_set (ad := am_ad b tU base) (h := h) (h' := (I, L, P, h.2.2.2)) rfl hlt rfl (fun j hj => am_el_eq rfl (hI _ (by omega)) (hLo _ (by omega)) (hPo _ (by omega)))
theorem am_fs_get {h : am_H} {a ci k : Nat} (hk : k < am_N ci) : (am_fs ad ci h a)[k]? = some (am_fv ad (am_ty ci k) h.1 h.2.1 h.2.2.1 a k) := by
  simp [am_fs, hk]
theorem am_fs_set {h h' : am_H} {a ci k : Nat} {v : Value} (hk : k < am_N ci) (hv : am_fv ad (am_ty ci k) h'.1 h'.2.1 h'.2.2.1 a k = v) (ho : ∀ j, j ≠ k → am_fv ad (am_ty ci j) h'.1 h'.2.1 h'.2.2.1 a j = am_fv ad (am_ty ci j) h.1 h.2.1 h.2.2.1 a j) : (am_fs ad ci h a).set k v = am_fs ad ci h' a := by
  apply List.ext_getElem?
  intro j
  have hlen : ∀ h : am_H, (am_fs ad ci h a).length = am_N ci := fun h => by simp [am_fs]
  by_cases hj : j < am_N ci
  · by_cases hjk : j = k
    · subst hjk
      rw [List.getElem?_set_self (by rw [hlen]; exact hk), am_fs_get hk, hv]
    · rw [List.getElem?_set_ne (Ne.symm hjk), am_fs_get hj, am_fs_get hj, ho j hjk]
  · rw [List.getElem?_eq_none (by rw [List.length_set, hlen]; omega), List.getElem?_eq_none (by rw [hlen]; omega)]
/-! locals -/
def am_as (ad : Nat → Nat) : Nat → am_Lo → List (Nat × Value)
  | _, [] => []
  | i, none :: l => am_as ad (i + 1) l
  | i, some v :: l => (i, am_cv ad v) :: am_as ad (i + 1) l
theorem am_as_mem : ∀ (lo : am_Lo) (i j : Nat) (w : Value), (j, w) ∈ am_as ad i lo ↔ ∃ v, i ≤ j ∧ lo[j - i]? = some (some v) ∧ w = am_cv ad v
  | [], i, j, w => by simp [am_as]
  | o :: l, i, j, w => by
    have ih := am_as_mem l (i + 1) j w
    have key : (∃ v, i + 1 ≤ j ∧ l[j - (i + 1)]? = some (some v) ∧ w = am_cv ad v) ↔ ∃ v, i + 1 ≤ j ∧ (o :: l)[j - i]? = some (some v) ∧ w = am_cv ad v := by
      constructor
      · rintro ⟨v, h1, h2, h3⟩
        refine ⟨v, h1, ?_, h3⟩
        rw [show j - i = (j - (i + 1)) + 1 by omega, List.getElem?_cons_succ]; exact h2
      · rintro ⟨v, h1, h2, h3⟩
        refine ⟨v, h1, ?_, h3⟩
        rw [show j - i = (j - (i + 1)) + 1 by omega, List.getElem?_cons_succ] at h2; exact h2
    cases o with
    | none =>
      show (j, w) ∈ am_as ad (i + 1) l ↔ _
      rw [ih, key]
      constructor
      · rintro ⟨v, h1, h2, h3⟩; exact ⟨v, by omega, h2, h3⟩
      · rintro ⟨v, h1, h2, h3⟩
        refine ⟨v, ?_, h2, h3⟩
        rcases Nat.lt_or_ge i j with q | q
        · omega
        · rw [show j - i = 0 by omega] at h2
          simp at h2
    | some u =>
      show (j, w) ∈ (i, am_cv ad u) :: am_as ad (i + 1) l ↔ _
      rw [List.mem_cons, ih, key]
      constructor
      · rintro (h | ⟨v, h1, h2, h3⟩)
        · cases h
          exact ⟨u, Nat.le_refl _, by simp, rfl⟩
        · exact ⟨v, by omega, h2, h3⟩
      · rintro ⟨v, h1, h2, h3⟩
        rcases Nat.lt_or_ge i j with q | q
        · exact Or.inr ⟨v, by omega, h2, h3⟩
        · left
          have : j = i := by omega
          subst this
          simp at h2
          subst h2
          rw [h3]
theorem am_lh_has {ls : Array Slot} {nL : Nat} {lo : am_Lo} (h : am_lh ad ls nL lo) : lv_has ls nL (am_as ad 0 lo) := by
  refine ⟨h.1, h.2.1, fun q hq => ?_⟩
  obtain ⟨j, w⟩ := q
  obtain ⟨v, -, h2, rfl⟩ := (am_as_mem lo 0 j w).mp hq
  exact h.2.2.2 j v h2
theorem am_sto_len (v : Value) : ∀ (lo : am_Lo) (k : Nat), (am_sto v lo k).length = lo.length
  | [], _ => by simp [am_sto]
  | _ :: l, 0 => by simp [am_sto]
  | o :: [], _ + 1 => by simp [am_sto]
  | o :: _ :: l, 1 => by simp [am_sto]
  | o :: p :: l, i + 2 => by
    have := am_sto_len v (p :: l) (i + 1)
    simp only [am_sto, List.length_cons] at this ⊢
    omega
theorem am_sto_get (v : Value) : ∀ (lo : am_Lo) (k j : Nat), k < lo.length → (am_sto v lo k)[j]? = if j = k then some (some v) else if j + 1 = k then (lo[j]?).map am_kc else lo[j]?
  | [], _, _, h => by simp at h
  | o :: l, 0, j, _ => by cases j <;> simp [am_sto]
  | o :: [], k + 1, j, h => by simp at h
  | o :: p :: l, 1, j, _ => by
    match j with
    | 0 => simp [am_sto]
    | 1 => simp [am_sto]
    | j + 2 => simp [am_sto]
  | o :: p :: l, i + 2, j, h => by
    match j with
    | 0 => simp [am_sto]
    | j + 1 =>
      have := am_sto_get v (p :: l) (i + 1) j (by simpa using h)
      show (o :: am_sto v (p :: l) (i + 1))[j + 1]? = _
      rw [List.getElem?_cons_succ, this, List.getElem?_cons_succ]
      simp only [Nat.add_right_cancel_iff]
theorem am_kc_some {o : Option Value} {w : Value} (h : am_kc o = some w) : o = some w ∧ ¬ w.category = 2 := by
  cases o with
  | none => simp [am_kc] at h
  | some v =>
    unfold am_kc at h
    dsimp only at h
    by_cases hc : v.category = 2
    · rw [if_pos hc] at h; cases h
    · rw [if_neg hc] at h; cases h; exact ⟨rfl, hc⟩
theorem am_lh_sto {ls : Array Slot} {nL k : Nat} {lo : am_Lo} {v : Value} (hlen : lo.length = nL) (hk : k < nL) (h : lv_has ls nL ((k, am_cv ad v) :: (am_as ad 0 lo).filter (fun q => !(q.1 == k) && !(q.1 + 1 == k && q.2.category == 2)))) : am_lh ad ls nL (am_sto v lo k) := by
  refine ⟨h.1, h.2.1, by rw [am_sto_len]; exact hlen, fun j w hj => ?_⟩
  rw [am_sto_get v lo k j (by omega)] at hj
  by_cases h1 : j = k
  · rw [if_pos h1] at hj
    cases hj
    exact h.2.2 (j, am_cv ad v) (by rw [h1]; exact List.mem_cons_self)
  · rw [if_neg h1] at hj
    refine h.2.2 (j, am_cv ad w) (List.mem_cons_of_mem _ (List.mem_filter.mpr ?_))
    by_cases h2 : j + 1 = k
    · rw [if_pos h2] at hj
      cases ho : lo[j]? with
      | none => rw [ho] at hj; simp at hj
      | some o =>
        rw [ho] at hj
        obtain ⟨e1, e2⟩ := am_kc_some (by simpa using hj)
        subst e1
        refine ⟨(am_as_mem lo 0 j _).mpr ⟨w, Nat.zero_le _, by simpa using ho, rfl⟩, ?_⟩
        simp [h1, am_cv_cat, e2]
    · rw [if_neg h2] at hj
      refine ⟨(am_as_mem lo 0 j _).mpr ⟨w, Nat.zero_le _, by simpa using hj, rfl⟩, ?_⟩
      simp [h1, h2]
theorem am_lh_sto2 {ls : Array Slot} {nL k : Nat} {lo : am_Lo} {v : Value} (hlen : lo.length = nL) (hk : k + 1 < nL) (h : lv_has ls nL ((k, am_cv ad v) :: (am_as ad 0 lo).filter (fun q => !(q.1 == k) && (!(q.1 == k + 1) && !(q.1 + 1 == k && q.2.category == 2))))) : am_lh ad ls nL ((am_sto v lo k).set (k + 1) none) := by
  refine ⟨h.1, h.2.1, by rw [List.length_set, am_sto_len]; exact hlen, fun j w hj => ?_⟩
  by_cases h0 : j = k + 1
  · subst h0
    rw [List.getElem?_set_self (by rw [am_sto_len]; omega)] at hj
    cases hj
  · rw [List.getElem?_set_ne (fun q => h0 q.symm), am_sto_get v lo k j (by omega)] at hj
    by_cases h1 : j = k
    · rw [if_pos h1] at hj
      cases hj
      exact h.2.2 (j, am_cv ad v) (by rw [h1]; exact List.mem_cons_self)
    · rw [if_neg h1] at hj
      refine h.2.2 (j, am_cv ad w) (List.mem_cons_of_mem _ (List.mem_filter.mpr ?_))
      by_cases h2 : j + 1 = k
      · rw [if_pos h2] at hj
        cases ho : lo[j]? with
        | none => rw [ho] at hj; simp at hj
        | some o =>
          rw [ho] at hj
          obtain ⟨e1, e2⟩ := am_kc_some (by simpa using hj)
          subst e1
          refine ⟨(am_as_mem lo 0 j _).mpr ⟨w, Nat.zero_le _, by simpa using ho, rfl⟩, ?_⟩
          simp [h0, h1, am_cv_cat, e2]
      · rw [if_neg h2] at hj
        refine ⟨(am_as_mem lo 0 j _).mpr ⟨w, Nat.zero_le _, by simpa using hj, rfl⟩, ?_⟩
        simp [h0, h1, h2]
theorem am_lh_inc {ls ls0 : Array Slot} {nL k : Nat} {lo : am_Lo} {x y : Int32} (h0 : am_lh ad ls0 nL lo) (hx : lo[k]? = some (some (.int x))) (h : lv_has ls nL ((k, Value.int y) :: (am_as ad 0 lo).filter (fun q => !(q.1 == k) && !(q.1 + 1 == k && q.2.category == 2)))) : am_lh ad ls nL (lo.set k (some (.int y))) := by
  have hk := (List.getElem?_eq_some_iff.mp hx).1
  refine ⟨h.1, h.2.1, by rw [List.length_set]; exact h0.2.2.1, fun j w hj => ?_⟩
  by_cases h1 : j = k
  · subst h1
    rw [List.getElem?_set_self hk] at hj
    cases hj
    exact h.2.2 (j, .int y) List.mem_cons_self
  · rw [List.getElem?_set_ne (fun q => h1 q.symm)] at hj
    refine h.2.2 (j, am_cv ad w) (List.mem_cons_of_mem _ (List.mem_filter.mpr ⟨(am_as_mem lo 0 j _).mpr ⟨w, Nat.zero_le _, by simpa using hj, rfl⟩, ?_⟩))
    have h2 : ¬ (j + 1 = k ∧ w.category = 2) := by
      rintro ⟨e1, e2⟩
      have a1 := h0.2.2.2 j w hj
      have a2 := h0.2.1.1 j _ a1 (by rw [am_cv_cat]; exact e2)
      rw [e1, h0.2.2.2 k _ hx] at a2
      cases a2
    simp only [Bool.and_eq_true, Bool.not_eq_true', beq_eq_false_iff_ne, ne_eq, Bool.and_eq_false_iff, am_cv_cat]
    refine ⟨h1, ?_⟩
    by_cases h3 : j + 1 = k
    · exact Or.inr fun e2 => h2 ⟨h3, e2⟩
    · exact Or.inl h3
end SA
/-! inversions -/
theorem am_nx_some {pc pc' : Nat} {lo lo' : am_Lo} {st st' : List Value} {h h' : am_H} (hs : am_nx pc lo st h = some (.inl (pc', lo', st', h'))) : pc = pc' ∧ lo = lo' ∧ st = st' ∧ h = h' := by
  simp only [am_nx, Option.some.injEq, Sum.inl.injEq, Prod.mk.injEq] at hs
  obtain ⟨rfl, rfl, rfl, rfl⟩ := hs
  exact ⟨rfl, rfl, rfl, rfl⟩
theorem am_int1_some {st : List Value} {K : Int32 → List Value → am_R} {q} (h : am_int1 st K = some q) : ∃ x r, st = .int x :: r ∧ K x r = some q := by
  unfold am_int1 at h
  split at h
  · exact ⟨_, _, rfl, h⟩
  · cases h
theorem am_int2_some {st : List Value} {K : Int32 → Int32 → List Value → am_R} {q} (h : am_int2 st K = some q) : ∃ x y r, st = .int y :: .int x :: r ∧ K x y r = some q := by
  unfold am_int2 at h
  split at h
  · exact ⟨_, _, _, rfl, h⟩
  · cases h
theorem am_lng1_some {st : List Value} {K : Int64 → List Value → am_R} {q} (h : am_lng1 st K = some q) : ∃ x r, st = .long x :: r ∧ K x r = some q := by
  unfold am_lng1 at h
  split at h
  · exact ⟨_, _, rfl, h⟩
  · cases h
theorem am_lng2_some {st : List Value} {K : Int64 → Int64 → List Value → am_R} {q} (h : am_lng2 st K = some q) : ∃ x y r, st = .long y :: .long x :: r ∧ K x y r = some q := by
  unfold am_lng2 at h
  split at h
  · exact ⟨_, _, _, rfl, h⟩
  · cases h
theorem am_ref1_some {st : List Value} {K : Nat → List Value → am_R} {q} (h : am_ref1 st K = some q) : ∃ a r, st = .ref a :: r ∧ K a r = some q := by
  unfold am_ref1 at h
  split at h
  · exact ⟨_, _, rfl, h⟩
  · cases h
theorem am_ari_some {st : List Value} {K : Nat → Int32 → List Value → am_R} {q} (h : am_ari st K = some q) : ∃ a i r, st = .int i :: .ref a :: r ∧ K a i r = some q := by
  unfold am_ari at h
  split at h
  · exact ⟨_, _, _, rfl, h⟩
  · cases h
theorem am_arv_some {st : List Value} {K : Nat → Int32 → Value → List Value → am_R} {q} (h : am_arv st K = some q) : ∃ a i v r, st = v :: .int i :: .ref a :: r ∧ K a i v r = some q := by
  unfold am_arv at h
  split at h
  · exact ⟨_, _, _, _, rfl, h⟩
  · cases h
theorem am_ld_some {lo : am_Lo} {i : Nat} {K : Value → am_R} {q} (h : am_ld lo i K = some q) : ∃ v, lo[i]? = some (some v) ∧ K v = some q := by
  unfold am_ld at h
  split at h
  · next v hv => exact ⟨v, hv, h⟩
  · cases h
theorem am_if_some {α : Type} {c : Prop} {dc : Decidable c} {a : Option α} {q : α} (h : (if c then a else none) = some q) : c ∧ a = some q := by
  by_cases hc : c
  · rw [if_pos hc] at h; exact ⟨hc, h⟩
  · rw [if_neg hc] at h; cases h
theorem am_if_none {α : Type} {c : Prop} {dc : Decidable c} {a : Option α} {q : α} (h : (if c then none else a) = some q) : ¬ c ∧ a = some q := by
  by_cases hc : c
  · rw [if_pos hc] at h; cases h
  · rw [if_neg hc] at h; exact ⟨hc, h⟩
theorem am_br_some {pc pc' : Nat} {off : Int} {c : Bool} {lo lo' : am_Lo} {st st' : List Value} {h h' : am_H} (hs : am_br pc off c lo st h = some (.inl (pc', lo', st', h'))) : ((pc : Int) + off = ((((pc : Int) + off).toNat : Nat) : Int)) ∧ (pc' = if c = true then ((pc : Int) + off).toNat else pc + 3) ∧ lo = lo' ∧ st = st' ∧ h = h' := by
  obtain ⟨h0, hs⟩ := am_if_some hs
  refine ⟨(Int.toNat_of_nonneg h0).symm, ?_⟩
  cases c with
  | true => rw [if_pos rfl]; exact ⟨(am_nx_some hs).1.symm, (am_nx_some hs).2⟩
  | false => rw [if_neg (by decide)]; exact ⟨(am_nx_some hs).1.symm, (am_nx_some hs).2⟩
theorem am_go_some {pc pc' : Nat} {off : Int} {lo lo' : am_Lo} {st st' : List Value} {h h' : am_H} (hs : am_go pc off lo st h = some (.inl (pc', lo', st', h'))) : ((pc : Int) + off = (pc' : Int)) ∧ lo = lo' ∧ st = st' ∧ h = h' := by
  obtain ⟨h0, hs⟩ := am_if_some hs
  obtain ⟨rfl, h2⟩ := am_nx_some hs
  exact ⟨(Int.toNat_of_nonneg h0).symm, h2⟩
section SM
variable {p : Program} {l : Launch} {e : Env} {R : Room} {s : State} {m : MethodId} {args : Array Value} {below : List Frame} {meth : Method} {c : Code} {H : Heap} {locs : List Loc} {cells slots : Nat} {Q : State → Prop}
variable {cc : ByteArray} {pc : Nat} {ls : Array Slot} {rest : List Value} {D : va_G} {cl : List vw_C} {A : Nat → Prop} {a : Nat} {tys : List (ClassId × FieldType)} {ws : va_W} {H0 : Heap}
theorem am_put (hexec : p.tables.exec = Jvm.exec) (hb : c.code = cc) {own ref C : String} {T : u_T} {N ci index : Nat} {Ts : List Cond} (hts : ∀ w ∈ Ts, w.before args s = true) (hin : ∀ w ∈ u_ws C T N, w ∈ Ts) (ty0 : Nat → FieldType) (hty : ∀ k, k < N → parseFieldDescriptor (T k).2.2.1 = some (ty0 k)) (hnm : ∀ a, a < N → ∀ b, b < N → a ≠ b → (T a).2.1 ≠ (T b).2.1) (hown : s.vm.findClass own = some m.cls) (hK : va_K D cl tys s) (hP : va_P D cl ws H) (hD : va_D A ws) (hS0 : va_S A H0 H locs) (q0 : Nat) {fs : List Value} (he : ws[q0]? = some (a, .inr (ci, fs))) (hc : cl[ci]? = some (C, T, N)) (k : Nat) (hk : k < N) (hlink : (Cond.fieldLink own index ref (T k).2.1 (T k).2.2.1).before args s = true) (hsame : ∀ x, s.fieldFound? (T k).1 (T k).2.1 (T k).2.2.1 = some x → s.fieldFound? ref (T k).2.1 (T k).2.2.1 = some x) (hfin : (T k).2.2.2 = false) {ty : FieldType} {v : Value} (hd : parseFieldDescriptor (T k).2.2.1 = some ty) (hn : narrow ty v = v) (hfit : fits ty v = true) (hl : k < fs.length)
    (hdg : decode cc pc = .ok (.putfield index, 3)) (kk : ∀ (H1 : Heap) (locs1 : List Loc), va_P D cl (ws.set q0 (a, .inr (ci, fs.set k v))) H1 → va_D A (ws.set q0 (a, .inr (ci, fs.set k v))) → va_S A H0 H1 locs1 → H1.size = H.size → W p l e R s m args below meth c H1 locs1 cells slots Q (F0 m (pc + 3) ls rest)) : W p l e R s m args below meth c H locs cells slots Q (F0 m pc ls (v :: .ref a :: rest)) := by
  have hap := va_apart (own := own) hts hin ty0 hty hnm hK hc
  obtain ⟨r, h1, cell, q1, q2, q3, q4⟩ := hP q0 _ he
  obtain rfl : r = (C, T, N) := Option.some.inj (h1.symm.trans hc)
  obtain ⟨hS, hfc, kC, hkC, hkind⟩ := hK.1 ci _ hc
  obtain ⟨cf, kf, fi, f, hi, hsl⟩ := hS k hk
  have hlay := hts _ (hin _ (u_in_lay hk))
  unfold u_lay at hlay
  rw [if_neg (by rw [hfin]; decide)] at hlay
  refine W.putK hexec hb (f := f) ⟨hown, hlink, ⟨_, _, _, hsame _ hi⟩, (u_facts hfc hkC (u_lays hts hin hk) hi).1⟩ (by rw [q2]; exact u_store hfc hkC hkind hlay hi hd hn hfit) q1 q3 (by rw [hsl]; exact k2_hasslot (q4 k hk)) rfl rfl hdg fun H' e1 e2 e3 => ?_
  rw [hsl] at e1 ⊢
  exact kk H' _ (hP.set hD he ⟨_, hc, t_OB.to (V := updV (vp_V fs) k v) ⟨_, e1, q2, q3, t_set q4 hap hk v⟩ (fun j _ => vp_updV_set hl v j)⟩ e3) (hD.set he) (hS0.put e2 e3 (hD.2 q0 _ he)) e2
theorem am_putF (hexec : p.tables.exec = Jvm.exec) (hb : c.code = cc) {own ref C : String} {T : u_T} {N ci index : Nat} {Ts : List Cond} (hts : ∀ w ∈ Ts, w.before args s = true) (hin : ∀ w ∈ u_ws C T N, w ∈ Ts) (ty0 : Nat → FieldType) (hty : ∀ k, k < N → parseFieldDescriptor (T k).2.2.1 = some (ty0 k)) (hnm : ∀ a, a < N → ∀ b, b < N → a ≠ b → (T a).2.1 ≠ (T b).2.1) (hown : s.vm.findClass own = some m.cls) (hK : va_K D cl tys s) (hP : va_P D cl ws H) (hD : va_D A ws) (hS0 : va_S A H0 H locs) (q0 : Nat) {fs : List Value} (he : ws[q0]? = some (a, .inr (ci, fs))) (hc : cl[ci]? = some (C, T, N)) (k : Nat) (hk : k < N) (hlink : (Cond.fieldLink own index ref (T k).2.1 (T k).2.2.1).before args s = true) (hsame : ∀ x, s.fieldFound? (T k).1 (T k).2.1 (T k).2.2.1 = some x → s.fieldFound? ref (T k).2.1 (T k).2.2.1 = some x) (hfin : (T k).2.2.2 = true) (hin2 : meth.name = "<init>") (hdecl : (T k).1 = own) {ty : FieldType} {v : Value} (hd : parseFieldDescriptor (T k).2.2.1 = some ty) (hn : narrow ty v = v) (hfit : fits ty v = true) (hl : k < fs.length)
    (hdg : decode cc pc = .ok (.putfield index, 3)) (kk : ∀ (H1 : Heap) (locs1 : List Loc), va_P D cl (ws.set q0 (a, .inr (ci, fs.set k v))) H1 → va_D A (ws.set q0 (a, .inr (ci, fs.set k v))) → va_S A H0 H1 locs1 → H1.size = H.size → W p l e R s m args below meth c H1 locs1 cells slots Q (F0 m (pc + 3) ls rest)) : W p l e R s m args below meth c H locs cells slots Q (F0 m pc ls (v :: .ref a :: rest)) := by
  have hap := va_apart (own := own) hts hin ty0 hty hnm hK hc
  obtain ⟨r, h1, cell, q1, q2, q3, q4⟩ := hP q0 _ he
  obtain rfl : r = (C, T, N) := Option.some.inj (h1.symm.trans hc)
  obtain ⟨hS, hfc, kC, hkC, hkind⟩ := hK.1 ci _ hc
  obtain ⟨cf, kf, fi, f, hi, hsl⟩ := hS k hk
  have hlay := hts _ (hin _ (u_in_lay hk))
  unfold u_lay at hlay
  rw [if_pos hfin] at hlay
  have hcf : m.cls = cf := by
    obtain ⟨_, _, c', _, _, _, -, -, hf', -, -, -, hown2, -⟩ := Cond.laysFinal_spec hlay
    have e1 : c' = cf := by have := hi.symm.trans hf'; simp at this; exact this.1.symm
    rw [hdecl] at hown2
    rw [← e1]; exact Option.some.inj (hown.symm.trans hown2)
  refine W.putFinK hexec hb hown hlink (hsame _ hi) (u_facts hfc hkC (u_lays hts hin hk) hi).1 hcf hin2 (by rw [q2]; exact u_fits hfc hkC hkind (Or.inr hlay) hi hd hn hfit) q1 q3 (by rw [hsl]; exact k2_hasslot (q4 k hk)) rfl rfl hdg fun H' e1 e2 e3 => ?_
  rw [hsl] at e1 ⊢
  exact kk H' _ (hP.set hD he ⟨_, hc, t_OB.to (V := updV (vp_V fs) k v) ⟨_, e1, q2, q3, t_set q4 hap hk v⟩ (fun j _ => vp_updV_set hl v j)⟩ e3) (hD.set he) (hS0.put e2 e3 (hD.2 q0 _ he)) e2
theorem am_iast2 (hexec : p.tables.exec = Jvm.exec) (hb : c.code = cc) (hK : va_K D cl tys s) (hP : va_P D cl ws H) (hD : va_D A ws) (hS : va_S A H0 H locs) (q0 t0 : Nat) {cA : ClassId} {n : Nat} {f : Nat → Int32} (ha : ws[q0]? = some (a, .inl (cA, n, .inl f))) (ht : tys[t0]? = some (cA, .int)) {i : Int32} {x : Int32} (hin : am_in i n) (hdg : decode cc pc = .ok (.iastore, 1))
    (kk : ∀ (H1 : Heap) (locs1 : List Loc), va_P D cl (ws.set q0 (a, .inl (cA, n, .inl (upd f i.toNatClampNeg x)))) H1 → va_D A (ws.set q0 (a, .inl (cA, n, .inl (upd f i.toNatClampNeg x)))) → va_S A H0 H1 locs1 → H1.size = H.size → W p l e R s m args below meth c H1 locs1 cells slots Q (F0 m (pc + 1) ls rest)) : W p l e R s m args below meth c H locs cells slots Q (F0 m pc ls (.int x :: .int i :: .ref a :: rest)) := by
  refine W.iast hexec hb (hP q0 _ ha) ((hK.2 t0 _ ht).1 n (fun j => .int (f j))) (fun q => by cases q) (by show ¬ (i < 0 ∨ (arrV _ _ _).slots.size ≤ _); rw [arrV_size]; exact hin) rfl rfl hdg fun H1 e z oq => ?_
  refine kk H1 _ (hP.set hD ha ?_ oq) (hD.set ha) (hS.put z oq (hD.2 q0 _ ha)) z
  show H1[a]? = some (vp_cell _ _)
  rw [e, vp_cell_i, vp_cell_i, arrV_store]
  congr 2
  funext q
  by_cases hq : q = i.toNatClampNeg <;> simp [updV, upd, hq]
theorem am_cast2 (hexec : p.tables.exec = Jvm.exec) (hb : c.code = cc) (hK : va_K D cl tys s) (hP : va_P D cl ws H) (hD : va_D A ws) (hS : va_S A H0 H locs) (q0 t0 : Nat) {cA : ClassId} {n : Nat} {f : Nat → Int32} (ha : ws[q0]? = some (a, .inl (cA, n, .inl f))) (ht : tys[t0]? = some (cA, .char)) {i : Int32} {x : Int32} (hin : am_in i n) (hdg : decode cc pc = .ok (.castore, 1))
    (kk : ∀ (H1 : Heap) (locs1 : List Loc), va_P D cl (ws.set q0 (a, .inl (cA, n, .inl (upd f i.toNatClampNeg (vp_nar .char x))))) H1 → va_D A (ws.set q0 (a, .inl (cA, n, .inl (upd f i.toNatClampNeg (vp_nar .char x))))) → va_S A H0 H1 locs1 → H1.size = H.size → W p l e R s m args below meth c H1 locs1 cells slots Q (F0 m (pc + 1) ls rest)) : W p l e R s m args below meth c H locs cells slots Q (F0 m pc ls (.int x :: .int i :: .ref a :: rest)) := by
  refine W.cast hexec hb (hP q0 _ ha) ((hK.2 t0 _ ht).1 n (fun j => .int (f j))) (fun q => by cases q) (by show ¬ (i < 0 ∨ (arrV _ _ _).slots.size ≤ _); rw [arrV_size]; exact hin) rfl rfl hdg fun H1 e z oq => ?_
  refine kk H1 _ (hP.set hD ha ?_ oq) (hD.set ha) (hS.put z oq (hD.2 q0 _ ha)) z
  show H1[a]? = some (vp_cell _ _)
  rw [e, vp_cell_i, vp_cell_i, arrV_store]
  congr 2
  funext q
  by_cases hq : q = i.toNatClampNeg
  · subst hq
    simp [updV, upd, vp_nar]
    try rfl
  · simp [updV, upd, hq]
theorem am_zast2 (hexec : p.tables.exec = Jvm.exec) (hb : c.code = cc) (hK : va_K D cl tys s) (hP : va_P D cl ws H) (hD : va_D A ws) (hS : va_S A H0 H locs) (q0 t0 : Nat) {cA : ClassId} {n : Nat} {f : Nat → Int32} (ha : ws[q0]? = some (a, .inl (cA, n, .inl f))) (ht : tys[t0]? = some (cA, .boolean)) {i : Int32} {x : Int32} (hin : am_in i n) (hdg : decode cc pc = .ok (.bastore, 1))
    (kk : ∀ (H1 : Heap) (locs1 : List Loc), va_P D cl (ws.set q0 (a, .inl (cA, n, .inl (upd f i.toNatClampNeg (vp_nar .boolean x))))) H1 → va_D A (ws.set q0 (a, .inl (cA, n, .inl (upd f i.toNatClampNeg (vp_nar .boolean x))))) → va_S A H0 H1 locs1 → H1.size = H.size → W p l e R s m args below meth c H1 locs1 cells slots Q (F0 m (pc + 1) ls rest)) : W p l e R s m args below meth c H locs cells slots Q (F0 m pc ls (.int x :: .int i :: .ref a :: rest)) := by
  refine W.zast hexec hb (hP q0 _ ha) ((hK.2 t0 _ ht).1 n (fun j => .int (f j))) (fun q => by cases q) (by show ¬ (i < 0 ∨ (arrV _ _ _).slots.size ≤ _); rw [arrV_size]; exact hin) rfl rfl hdg fun H1 e z oq => ?_
  refine kk H1 _ (hP.set hD ha ?_ oq) (hD.set ha) (hS.put z oq (hD.2 q0 _ ha)) z
  show H1[a]? = some (vp_cell _ _)
  rw [e, vp_cell_i, vp_cell_i, arrV_store]
  congr 2
  funext q
  by_cases hq : q = i.toNatClampNeg
  · subst hq
    simp [updV, upd, vp_nar]
    try rfl
  · simp [updV, upd, hq]
theorem am_last2 (hexec : p.tables.exec = Jvm.exec) (hb : c.code = cc) (hK : va_K D cl tys s) (hP : va_P D cl ws H) (hD : va_D A ws) (hS : va_S A H0 H locs) (q0 t0 : Nat) {cA : ClassId} {n : Nat} {f : Nat → Int64} (ha : ws[q0]? = some (a, .inl (cA, n, .inr (.inl f)))) (ht : tys[t0]? = some (cA, .long)) {i : Int32} {x : Int64} (hin : am_in i n) (hdg : decode cc pc = .ok (.lastore, 1))
    (kk : ∀ (H1 : Heap) (locs1 : List Loc), va_P D cl (ws.set q0 (a, .inl (cA, n, .inr (.inl (vp_updL f i.toNatClampNeg x))))) H1 → va_D A (ws.set q0 (a, .inl (cA, n, .inr (.inl (vp_updL f i.toNatClampNeg x))))) → va_S A H0 H1 locs1 → H1.size = H.size → W p l e R s m args below meth c H1 locs1 cells slots Q (F0 m (pc + 1) ls rest)) : W p l e R s m args below meth c H locs cells slots Q (F0 m pc ls (.long x :: .int i :: .ref a :: rest)) := by
  refine W.last hexec hb (hP q0 _ ha) ((hK.2 t0 _ ht).1 n (fun j => .long (f j))) (fun q => by cases q) (by show ¬ (i < 0 ∨ (arrV _ _ _).slots.size ≤ _); rw [arrV_size]; exact hin) rfl rfl hdg fun H1 e z oq => ?_
  refine kk H1 _ (hP.set hD ha ?_ oq) (hD.set ha) (hS.put z oq (hD.2 q0 _ ha)) z
  show H1[a]? = some (vp_cell _ _)
  rw [e, vp_cell_l, vp_cell_l, arrV_store]
  congr 2
  funext q
  by_cases hq : q = i.toNatClampNeg <;> simp [updV, vp_updL, hq]
theorem am_astq2 (hexec : p.tables.exec = Jvm.exec) (hb : c.code = cc) (hK : va_K D cl tys s) (hP : va_P D cl ws H) (hD : va_D A ws) (hS : va_S A H0 H locs) (q0 t0 qk ci : Nat) {cA : ClassId} {r : vw_C} {n v : Nat} {vs : List Value} {f : Nat → Option Nat} (ha : ws[q0]? = some (a, .inl (cA, n, .inr (.inr (.inr (.inr f)))))) (ht : tys[t0]? = some (cA, .object r.1)) (hv : ws[qk]? = some (v, .inr (ci, vs))) (hc : cl[ci]? = some r) {i : Int32} (hin : am_in i n) (hdg : decode cc pc = .ok (.aastore, 1))
    (kk : ∀ (H1 : Heap) (locs1 : List Loc), va_P D cl (ws.set q0 (a, .inl (cA, n, .inr (.inr (.inr (.inr (va_up f i.toNatClampNeg (some v)))))))) H1 → va_D A (ws.set q0 (a, .inl (cA, n, .inr (.inr (.inr (.inr (va_up f i.toNatClampNeg (some v)))))))) → va_S A H0 H1 locs1 → H1.size = H.size → W p l e R s m args below meth c H1 locs1 cells slots Q (F0 m (pc + 1) ls rest)) : W p l e R s m args below meth c H locs cells slots Q (F0 m pc ls (.ref v :: .int i :: .ref a :: rest)) := by
  have hlt : i.toNatClampNeg < n := Nat.not_le.mp fun q => hin (Or.inr q)
  have h0 : ¬ i < 0 := fun q => hin (Or.inl q)
  obtain ⟨r', hr', cellV, g1, g2, g3, -⟩ := hP qk _ hv
  have hcls := (hK.1 ci r hc).2
  obtain ⟨kA, comp, k1, k2, k3, -⟩ := (hK.2 t0 _ ht).2
  obtain rfl : comp = D.1 ci := Option.some.inj (k3.symm.trans hcls.1)
  obtain ⟨kC, hkC, -⟩ := hcls.2
  refine W.aast hexec hb (hP q0 _ ha) (fun q h => by cases h) (fun h => by cases h) k1 k2 rfl hkC ⟨h0, by show _ < (arrV _ _ _).slots.size; rw [arrV_size]; exact hlt⟩ g1 (fun q h => by rw [g3] at h; cases h) (by rw [g2]; exact hkC) (by rw [g2]; exact va_assign hcls) rfl rfl hdg fun H1 e z oq => ?_
  refine kk H1 _ (hP.set hD ha ?_ oq) (hD.set ha) (hS.put z oq (hD.2 q0 _ ha)) z
  show H1[a]? = some (vp_cell _ _)
  rw [e, vp_cell_q, vp_cell_q, arrV_store]
  congr 2
  funext q
  by_cases hq : q = i.toNatClampNeg
  · subst hq
    simp [updV, va_up, va_rf]
  · simp [updV, va_up, hq]
theorem am_copyi2 (hexec : p.tables.exec = Jvm.exec) (hb : c.code = cc) (hml : c.maxLocals = ls.size) {own : String} {index : Nat} (hown : s.vm.findClass own = some m.cls) (hlink : (Cond.methodLink own index arraycopyName).before args s = true) (hnat : (Cond.native arraycopyName).before args s = true) (hstat : (Cond.static arraycopyName).before args s = true) (hini : (Cond.initialized "java/lang/System").before args s = true)
    (hK : va_K D cl tys s) (hP : va_P D cl ws H) (hD : va_D A ws) (hS : va_S A H0 H locs) (q0 q1 t0 t1 : Nat) {a0 : Nat} {c0 c1 : ClassId} {n0 n1 : Nat} {f g : Nat → Int32} {ty : FieldType} (ha0 : ws[q0]? = some (a0, .inl (c0, n0, .inl f))) (ha1 : ws[q1]? = some (a, .inl (c1, n1, .inl g))) (ht0 : tys[t0]? = some (c0, ty)) (ht1 : tys[t1]? = some (c1, ty)) (hprim : refKind ty = false)
    {sp dp n : Int32} (h1 : ¬ sp < 0) (h2 : ¬ dp < 0) (h3 : ¬ n < 0) (h4 : sp.toNatClampNeg + n.toNatClampNeg ≤ n0) (h5 : dp.toNatClampNeg + n.toNatClampNeg ≤ n1) (hfit : ∀ i, i < n.toNatClampNeg → fits ty (.int (f (sp.toNatClampNeg + i))) = true)
    (hframes : 1 ≤ R.frames) (hlocals : (rest.map fun v => v.category).sum + (nativeFrameWords "java/lang/System" "arraycopy" 5 + 11) ≤ R.locals) (hdg : decode cc pc = .ok (.invokestatic index, 3))
    (kk : ∀ (H1 : Heap) (locs1 : List Loc), va_P D cl (ws.set q1 (a, .inl (c1, n1, .inl (va_cpy f g sp.toNatClampNeg dp.toNatClampNeg n.toNatClampNeg)))) H1 → va_D A (ws.set q1 (a, .inl (c1, n1, .inl (va_cpy f g sp.toNatClampNeg dp.toNatClampNeg n.toNatClampNeg)))) → va_S A H0 H1 locs1 → H1.size = H.size → W p l e R s m args below meth c H1 locs1 cells slots Q (F0 m (pc + 3) ls rest)) : W p l e R s m args below meth c H locs cells slots Q (F0 m pc ls (.int n :: .int dp :: .ref a :: .int sp :: .ref a0 :: rest)) := by
  have nn : ∀ z : Int32, ¬ z < 0 → z.toInt = (z.toNatClampNeg : Int) := by
    intro z hz
    have hz0 : (0 : Int) ≤ z.toInt := by
      have := Int32.not_lt.mp hz
      simpa using Int32.le_iff_toInt_le.mp this
    show z.toInt = ((z.toInt.toNat : Nat) : Int)
    omega
  have hc0 : H[a0]? = some (vp_cell c0 (n0, .inl f)) := hP q0 _ ha0
  have hc1 : H[a]? = some (vp_cell c1 (n1, .inl g)) := hP q1 _ ha1
  have hl : a < H.size := (Array.getElem?_eq_some_iff.mp hc1).1
  obtain ⟨-, k0, hk0, cm0, hkk0⟩ := (hK.2 t0 _ ht0).1 n0 (fun j => .int (f j))
  obtain ⟨-, k1, hk1, cm1, hkk1⟩ := (hK.2 t1 _ ht1).1 n1 (fun j => .int (g j))
  intro T hT X
  obtain ⟨vm', X', step⟩ := X.arraycopy hexec hown hlink hnat hstat hini (src := a0) (dst := a) (cs := vp_cell c0 (n0, .inl f)) (cd := vp_cell c1 (n1, .inl g)) (srcPos := sp) (destPos := dp) (n := n) (by rw [hT]; exact hc0) (by rw [hT]; exact hc1)
    (fun _ h => by cases h) (fun _ h => by cases h) (fun h => by cases h) (fun h => by cases h) hk0 hk1 hkk0 hkk1 (by simp [hprim]) h1 h2 h3
    (by rw [nn sp h1, nn n h3]; show ¬ _ > ((arrV c0 n0 (fun j => .int (f j))).slots.size : Int); rw [arrV_size]; omega)
    (by rw [nn dp h2, nn n h3]; show ¬ _ > ((arrV c1 n1 (fun j => .int (g j))).slots.size : Int); rw [arrV_size]; omega)
    (fun vm₁ _ i hi => by
      have e : (vp_cell c0 (n0, .inl f)).slots.getD (sp.toNatClampNeg + i) .null = .int (f (sp.toNatClampNeg + i)) := by
        show (arrV c0 n0 (fun j => .int (f j))).slots.getD _ _ = _
        rw [Array.getD_eq_getD_getElem?, arrV_read _ _ (by omega)]
        rfl
      exact ⟨by rw [e]; exact hfit i hi, by rw [e]; exact trivial⟩)
    (g := F0 m pc ls (.int n :: .int dp :: .ref a :: .int sp :: .ref a0 :: rest)) rfl (by rw [hml]) (rest := rest) rfl (by rw [hb]; exact hdg) hframes (by show 2 * 0 + _ + _ ≤ _; omega)
  have e1 : copied (vp_cell c0 (n0, .inl f)) (vp_cell c1 (n1, .inl g)) sp dp n = vp_cell c1 (n1, .inl (va_cpy f g sp.toNatClampNeg dp.toNatClampNeg n.toNatClampNeg)) := va_copied (fun z => .int z) c0 c1 f g h4
  rw [e1] at X' step
  have hheap : ((T.setVm vm').setCell a (vp_cell c1 (n1, .inl (va_cpy f g sp.toNatClampNeg dp.toNatClampNeg n.toNatClampNeg)))).heap = H.setIfInBounds a (vp_cell c1 (n1, .inl (va_cpy f g sp.toNatClampNeg dp.toNatClampNeg n.toNatClampNeg))) := by rw [← hT]; rfl
  have oq : ∀ q : Nat, q ≠ a → (H.setIfInBounds a (vp_cell c1 (n1, .inl (va_cpy f g sp.toNatClampNeg dp.toNatClampNeg n.toNatClampNeg))))[q]? = H[q]? := fun q hq => by simp [Array.getElem?_setIfInBounds, Ne.symm hq]
  obtain ⟨t, a1, b1⟩ := kk _ _ (hP.set hD ha1 (show (H.setIfInBounds a _)[a]? = some _ by simp [Array.getElem?_setIfInBounds, hl]) oq) (hD.set ha1) ⟨by simp; exact hS.1, fun q g1 g2 => by
      rw [oq q (fun e => g2 (by rw [e]; exact hD.2 q1 _ ha1))]
      exact hS.2.1 q g1 g2, fun q hq => by
      rcases List.mem_append.mp hq with h | h
      · exact hS.2.2 q h
      · obtain ⟨z, -, hz⟩ := List.mem_map.mp h
        rw [← hz]
        exact hD.2 q1 _ ha1⟩ (by simp) _ hheap X'
  exact ⟨t, step t a1, b1⟩
end SM
theorem am_born_St {b tU base Lx : Nat} {xs : Nat → Int32} {D : va_G} {cT : Nat → ClassId} {n0 m0 : Nat} {s : State} {mi : Nat} {h : am_H} {H H1 : Heap} {locs : List Loc} {ls : Array Slot} {lo : am_Lo} {cells slots kind len sz : Nat} (B : am_St b tU base Lx xs D cT n0 m0 s mi h H locs ls lo cells slots)
    (hat : va_at D vwCl (base + h.2.2.2.2.1, am_el (am_ad b tU base) cT (am_al kind len sz h) (h.2.2.2.2.1 + 3)) H1) (z1 : H1.size = base + h.2.2.2.2.1 + 1) (o1 : ∀ q, q < base + h.2.2.2.2.1 → H1[q]? = H[q]?) : am_St b tU base Lx xs D cT n0 m0 s mi (am_al kind len sz h) H1 locs ls lo (cells + 1) (slots + sz) := by
  obtain ⟨hP, hS, hsz, hL, ⟨w1, w2, w3, w4, w5, w6⟩, hce, hsl⟩ := B
  have hel : ∀ j, j < h.2.2.2.2.1 → am_el (am_ad b tU base) cT (am_al kind len sz h) (j + 3) = am_el (am_ad b tU base) cT h (j + 3) := fun j hj =>
    am_el_eq (if_neg (by omega)) (am_row_ne (by omega)) (am_row_ne (by omega)) (am_row_ne (by omega))
  refine ⟨?_, ⟨Nat.le_trans hS.1 (by omega), fun x h1 h2 => (o1 x (by have := hS.1; omega)).trans (hS.2.1 x h1 h2), hS.2.2⟩, ?_, hL, ⟨fun a ha => ?_, ?_, ?_, ?_, fun j hj => ?_, fun j hj => ?_⟩, ?_, ?_⟩
  · rw [am_wo_push (h := h) (h' := am_al kind len sz h) rfl hel]
    refine (hP.kept (fun k x hx => o1 x.1 (by rw [← hsz]; exact (hP k x hx).lt))).app (fun k x hx => ?_)
    have hz : k < 1 := (List.getElem?_eq_some_iff.mp hx).1
    rw [show k = 0 by omega] at hx
    cases hx
    exact hat
  · show H1.size = base + (h.2.2.2.2.1 + 1)
    omega
  · show (if a = h.2.2.2.2.1 + 3 then (kind, len) else h.2.2.2.1 a).1 = 0
    have ha2 : h.2.2.2.2.1 + 1 + 3 ≤ a := ha
    rw [if_neg (by omega)]
    exact w1 a (by omega)
  · show (if 0 = h.2.2.2.2.1 + 3 then (kind, len) else h.2.2.2.1 0).1 = 0
    rw [if_neg (by omega)]; exact w2
  · show (if 1 = h.2.2.2.2.1 + 3 then (kind, len) else h.2.2.2.1 1) = _
    rw [if_neg (by omega)]; exact w3
  · show (if 2 = h.2.2.2.2.1 + 3 then (kind, len) else h.2.2.2.1 2) = _
    rw [if_neg (by omega)]; exact w4
  · show am_row h.1 (h.2.2.2.2.1 + 3) (fun _ => 0) 1 j = _
    rw [am_row_ne (by omega)]; exact w5 j hj
  · show am_row h.1 (h.2.2.2.2.1 + 3) (fun _ => 0) 2 j = _
    rw [am_row_ne (by omega)]; exact w6 j hj
  · show cells + 1 + n0 = h.2.2.2.2.1 + 1
    omega
  · show slots + sz + m0 = h.2.2.2.2.2 + sz
    omega
/-! rows of the kit once more, with the heap's size said -/
theorem am_wsum_map {ad : Nat → Nat} (r : List Value) : ((r.map (am_cv ad)).map fun v => v.category).sum = am_wsum r := by
  induction r with
  | nil => rfl
  | cons v r ih => simp only [List.map_cons, List.sum_cons, am_wsum, am_cv_cat] at ih ⊢; rw [ih]
theorem am_tyok : ∀ ci, ci < 8 → ∀ j, j < am_N ci → am_isI (am_ty ci j) = true ∨ am_ty ci j = .long ∨ am_isR (am_ty ci j) = true := by decide +kernel
section SB
variable {b tU base Lx : Nat} {xs : Nat → Int32} {D : va_G} {cT : Nat → ClassId} {n0 m0 : Nat}
variable {p : Program} {l : Launch} {e : Env} {R : Room} {s : State} {m : MethodId} {args : Array Value} {below : List Frame} {meth : Method} {c : Code} {H : Heap} {locs : List Loc} {cells slots : Nat} {Q : State → Prop}
variable {mi pc pc' len : Nat} {lo lo' : am_Lo} {st st' : List Value} {h h' : am_H} {ls : Array Slot}
/-- what is wanted behind a step -/
abbrev am_K (b tU base Lx : Nat) (xs : Nat → Int32) (D : va_G) (cT : Nat → ClassId) (n0 m0 : Nat) (p : Program) (l : Launch) (e : Env) (R : Room) (s : State) (m : MethodId) (args : Array Value) (below : List Frame) (meth : Method) (c : Code) (Q : State → Prop) (mi pc' : Nat) (lo' : am_Lo) (st' : List Value) (h' : am_H) : Prop :=
  ∀ (H' : Heap) (locs' : List Loc) (ls' : Array Slot) (cells' slots' : Nat), am_St b tU base Lx xs D cT n0 m0 s mi h' H' locs' ls' lo' cells' slots' → W p l e R s m args below meth c H' locs' cells' slots' Q (F0 m pc' ls' (st'.map (am_cv (am_ad b tU base))))
theorem am_ok_iconst {n : Int} (F : am_Fx p R s m args meth c mi) (Wd : am_Wd b tU base Lx xs D cT s s.heap) (B : am_St b tU base Lx xs D cT n0 m0 s mi h H locs ls lo cells slots) (hd : decode (am_mb mi) pc = .ok (.iconst n, len)) (hl : len = am_len (.iconst n) len) (hs : am_step mi (.iconst n) pc lo st h = some (.inl (pc', lo', st', h'))) (hR : h'.2.2.2.2.1 ≤ n0 + R.cells ∧ h'.2.2.2.2.2 ≤ m0 + R.slots) (k : am_K b tU base Lx xs D cT n0 m0 p l e R s m args below meth c Q mi pc' lo' st' h') : W p l e R s m args below meth c H locs cells slots Q (F0 m pc ls (st.map (am_cv (am_ad b tU base)))) := by
  obtain ⟨hx, hb, hml, hown, hts, hr, hlk, hin, hrk, hlr⟩ := F
  obtain ⟨hP, hS, hsz, hL, hwf, hce, hsl⟩ := id B
  obtain rfl : len = 1 := hl
  obtain ⟨rfl, rfl, rfl, rfl⟩ := am_nx_some hs
  exact lv_iconst hx hb hd rfl (k _ _ _ _ _ B)
theorem am_ok_bipush {n : Int} (F : am_Fx p R s m args meth c mi) (Wd : am_Wd b tU base Lx xs D cT s s.heap) (B : am_St b tU base Lx xs D cT n0 m0 s mi h H locs ls lo cells slots) (hd : decode (am_mb mi) pc = .ok (.bipush n, len)) (hl : len = am_len (.bipush n) len) (hs : am_step mi (.bipush n) pc lo st h = some (.inl (pc', lo', st', h'))) (hR : h'.2.2.2.2.1 ≤ n0 + R.cells ∧ h'.2.2.2.2.2 ≤ m0 + R.slots) (k : am_K b tU base Lx xs D cT n0 m0 p l e R s m args below meth c Q mi pc' lo' st' h') : W p l e R s m args below meth c H locs cells slots Q (F0 m pc ls (st.map (am_cv (am_ad b tU base)))) := by
  obtain ⟨hx, hb, hml, hown, hts, hr, hlk, hin, hrk, hlr⟩ := F
  obtain ⟨hP, hS, hsz, hL, hwf, hce, hsl⟩ := id B
  obtain rfl : len = 2 := hl
  obtain ⟨rfl, rfl, rfl, rfl⟩ := am_nx_some hs
  exact lv_bipush hx hb hd rfl (k _ _ _ _ _ B)
theorem am_ok_sipush {n : Int} (F : am_Fx p R s m args meth c mi) (Wd : am_Wd b tU base Lx xs D cT s s.heap) (B : am_St b tU base Lx xs D cT n0 m0 s mi h H locs ls lo cells slots) (hd : decode (am_mb mi) pc = .ok (.sipush n, len)) (hl : len = am_len (.sipush n) len) (hs : am_step mi (.sipush n) pc lo st h = some (.inl (pc', lo', st', h'))) (hR : h'.2.2.2.2.1 ≤ n0 + R.cells ∧ h'.2.2.2.2.2 ≤ m0 + R.slots) (k : am_K b tU base Lx xs D cT n0 m0 p l e R s m args below meth c Q mi pc' lo' st' h') : W p l e R s m args below meth c H locs cells slots Q (F0 m pc ls (st.map (am_cv (am_ad b tU base)))) := by
  obtain ⟨hx, hb, hml, hown, hts, hr, hlk, hin, hrk, hlr⟩ := F
  obtain ⟨hP, hS, hsz, hL, hwf, hce, hsl⟩ := id B
  obtain rfl : len = 3 := hl
  obtain ⟨rfl, rfl, rfl, rfl⟩ := am_nx_some hs
  exact lv_sipush hx hb hd rfl (k _ _ _ _ _ B)
theorem am_ok_lconst {n : Fin 2} (F : am_Fx p R s m args meth c mi) (Wd : am_Wd b tU base Lx xs D cT s s.heap) (B : am_St b tU base Lx xs D cT n0 m0 s mi h H locs ls lo cells slots) (hd : decode (am_mb mi) pc = .ok (.lconst n, len)) (hl : len = am_len (.lconst n) len) (hs : am_step mi (.lconst n) pc lo st h = some (.inl (pc', lo', st', h'))) (hR : h'.2.2.2.2.1 ≤ n0 + R.cells ∧ h'.2.2.2.2.2 ≤ m0 + R.slots) (k : am_K b tU base Lx xs D cT n0 m0 p l e R s m args below meth c Q mi pc' lo' st' h') : W p l e R s m args below meth c H locs cells slots Q (F0 m pc ls (st.map (am_cv (am_ad b tU base)))) := by
  obtain ⟨hx, hb, hml, hown, hts, hr, hlk, hin, hrk, hlr⟩ := F
  obtain ⟨hP, hS, hsz, hL, hwf, hce, hsl⟩ := id B
  obtain rfl : len = 1 := hl
  obtain ⟨rfl, rfl, rfl, rfl⟩ := am_nx_some hs
  exact lv_lconst hx hb hd rfl (k _ _ _ _ _ B)
theorem am_ok_ldc {idx : Nat} (F : am_Fx p R s m args meth c mi) (Wd : am_Wd b tU base Lx xs D cT s s.heap) (B : am_St b tU base Lx xs D cT n0 m0 s mi h H locs ls lo cells slots) (hd : decode (am_mb mi) pc = .ok (.ldc idx, len)) (hl : len = am_len (.ldc idx) len) (hs : am_step mi (.ldc idx) pc lo st h = some (.inl (pc', lo', st', h'))) (hR : h'.2.2.2.2.1 ≤ n0 + R.cells ∧ h'.2.2.2.2.2 ≤ m0 + R.slots) (k : am_K b tU base Lx xs D cT n0 m0 p l e R s m args below meth c Q mi pc' lo' st' h') : W p l e R s m args below meth c H locs cells slots Q (F0 m pc ls (st.map (am_cv (am_ad b tU base)))) := by
  obtain ⟨hx, hb, hml, hown, hts, hr, hlk, hin, hrk, hlr⟩ := F
  obtain ⟨hP, hS, hsz, hL, hwf, hce, hsl⟩ := id B
  obtain rfl : len = 2 := hl
  cases hq : am_KT.lookup (idx * 16 + am_own mi) with
  | none => simp [am_step, hq] at hs
  | some v =>
    simp only [am_step, hq] at hs
    obtain ⟨rfl, rfl, rfl, rfl⟩ := am_nx_some hs
    exact lv_ldc hx hb hown (hts _ (am_i_word hq)) hd (k _ _ _ _ _ B)
theorem am_ok_ldc_w {idx : Nat} (F : am_Fx p R s m args meth c mi) (Wd : am_Wd b tU base Lx xs D cT s s.heap) (B : am_St b tU base Lx xs D cT n0 m0 s mi h H locs ls lo cells slots) (hd : decode (am_mb mi) pc = .ok (.ldc_w idx, len)) (hl : len = am_len (.ldc_w idx) len) (hs : am_step mi (.ldc_w idx) pc lo st h = some (.inl (pc', lo', st', h'))) (hR : h'.2.2.2.2.1 ≤ n0 + R.cells ∧ h'.2.2.2.2.2 ≤ m0 + R.slots) (k : am_K b tU base Lx xs D cT n0 m0 p l e R s m args below meth c Q mi pc' lo' st' h') : W p l e R s m args below meth c H locs cells slots Q (F0 m pc ls (st.map (am_cv (am_ad b tU base)))) := by
  obtain ⟨hx, hb, hml, hown, hts, hr, hlk, hin, hrk, hlr⟩ := F
  obtain ⟨hP, hS, hsz, hL, hwf, hce, hsl⟩ := id B
  obtain rfl : len = 3 := hl
  cases hq : am_KT.lookup (idx * 16 + am_own mi) with
  | none => simp [am_step, hq] at hs
  | some v =>
    simp only [am_step, hq] at hs
    obtain ⟨rfl, rfl, rfl, rfl⟩ := am_nx_some hs
    exact lv_ldcw hx hb hown (hts _ (am_i_word hq)) hd (k _ _ _ _ _ B)
theorem am_ok_ldc2_w {idx : Nat} (F : am_Fx p R s m args meth c mi) (Wd : am_Wd b tU base Lx xs D cT s s.heap) (B : am_St b tU base Lx xs D cT n0 m0 s mi h H locs ls lo cells slots) (hd : decode (am_mb mi) pc = .ok (.ldc2_w idx, len)) (hl : len = am_len (.ldc2_w idx) len) (hs : am_step mi (.ldc2_w idx) pc lo st h = some (.inl (pc', lo', st', h'))) (hR : h'.2.2.2.2.1 ≤ n0 + R.cells ∧ h'.2.2.2.2.2 ≤ m0 + R.slots) (k : am_K b tU base Lx xs D cT n0 m0 p l e R s m args below meth c Q mi pc' lo' st' h') : W p l e R s m args below meth c H locs cells slots Q (F0 m pc ls (st.map (am_cv (am_ad b tU base)))) := by
  obtain ⟨hx, hb, hml, hown, hts, hr, hlk, hin, hrk, hlr⟩ := F
  obtain ⟨hP, hS, hsz, hL, hwf, hce, hsl⟩ := id B
  obtain rfl : len = 3 := hl
  cases hq : am_LT.lookup (idx * 16 + am_own mi) with
  | none => simp [am_step, hq] at hs
  | some v =>
    simp only [am_step, hq] at hs
    obtain ⟨rfl, rfl, rfl, rfl⟩ := am_nx_some hs
    exact lv_ldc2 hx hb hown (hts _ (am_l_word hq)) hd (k _ _ _ _ _ B)
theorem am_ok_iload_n {q : Fin 4} (F : am_Fx p R s m args meth c mi) (Wd : am_Wd b tU base Lx xs D cT s s.heap) (B : am_St b tU base Lx xs D cT n0 m0 s mi h H locs ls lo cells slots) (hd : decode (am_mb mi) pc = .ok (.iload_n q, len)) (hl : len = am_len (.iload_n q) len) (hs : am_step mi (.iload_n q) pc lo st h = some (.inl (pc', lo', st', h'))) (hR : h'.2.2.2.2.1 ≤ n0 + R.cells ∧ h'.2.2.2.2.2 ≤ m0 + R.slots) (k : am_K b tU base Lx xs D cT n0 m0 p l e R s m args below meth c Q mi pc' lo' st' h') : W p l e R s m args below meth c H locs cells slots Q (F0 m pc ls (st.map (am_cv (am_ad b tU base)))) := by
  obtain ⟨hx, hb, hml, hown, hts, hr, hlk, hin, hrk, hlr⟩ := F
  obtain ⟨hP, hS, hsz, hL, hwf, hce, hsl⟩ := id B
  obtain rfl : len = 1 := hl
  obtain ⟨v, hv, hs⟩ := am_ld_some hs
  cases v with
  | int x =>
    obtain ⟨rfl, rfl, rfl, rfl⟩ := am_nx_some hs
    exact lv_iload_n hx hb hd rfl (hL.2.2.2 _ _ hv) (k _ _ _ _ _ B)
  | _ => exact absurd hs (by simp)
theorem am_ok_iload {q : Nat} (F : am_Fx p R s m args meth c mi) (Wd : am_Wd b tU base Lx xs D cT s s.heap) (B : am_St b tU base Lx xs D cT n0 m0 s mi h H locs ls lo cells slots) (hd : decode (am_mb mi) pc = .ok (.iload q, len)) (hl : len = am_len (.iload q) len) (hs : am_step mi (.iload q) pc lo st h = some (.inl (pc', lo', st', h'))) (hR : h'.2.2.2.2.1 ≤ n0 + R.cells ∧ h'.2.2.2.2.2 ≤ m0 + R.slots) (k : am_K b tU base Lx xs D cT n0 m0 p l e R s m args below meth c Q mi pc' lo' st' h') : W p l e R s m args below meth c H locs cells slots Q (F0 m pc ls (st.map (am_cv (am_ad b tU base)))) := by
  obtain ⟨hx, hb, hml, hown, hts, hr, hlk, hin, hrk, hlr⟩ := F
  obtain ⟨hP, hS, hsz, hL, hwf, hce, hsl⟩ := id B
  obtain rfl : len = 2 := hl
  obtain ⟨v, hv, hs⟩ := am_ld_some hs
  cases v with
  | int x =>
    obtain ⟨rfl, rfl, rfl, rfl⟩ := am_nx_some hs
    exact lv_iload hx hb hd (hL.2.2.2 _ _ hv) (k _ _ _ _ _ B)
  | _ => exact absurd hs (by simp)
theorem am_ok_lload_n {q : Fin 4} (F : am_Fx p R s m args meth c mi) (Wd : am_Wd b tU base Lx xs D cT s s.heap) (B : am_St b tU base Lx xs D cT n0 m0 s mi h H locs ls lo cells slots) (hd : decode (am_mb mi) pc = .ok (.lload_n q, len)) (hl : len = am_len (.lload_n q) len) (hs : am_step mi (.lload_n q) pc lo st h = some (.inl (pc', lo', st', h'))) (hR : h'.2.2.2.2.1 ≤ n0 + R.cells ∧ h'.2.2.2.2.2 ≤ m0 + R.slots) (k : am_K b tU base Lx xs D cT n0 m0 p l e R s m args below meth c Q mi pc' lo' st' h') : W p l e R s m args below meth c H locs cells slots Q (F0 m pc ls (st.map (am_cv (am_ad b tU base)))) := by
  obtain ⟨hx, hb, hml, hown, hts, hr, hlk, hin, hrk, hlr⟩ := F
  obtain ⟨hP, hS, hsz, hL, hwf, hce, hsl⟩ := id B
  obtain rfl : len = 1 := hl
  obtain ⟨v, hv, hs⟩ := am_ld_some hs
  cases v with
  | long x =>
    obtain ⟨rfl, rfl, rfl, rfl⟩ := am_nx_some hs
    exact lv_lload_n hx hb hd rfl (hL.2.2.2 _ _ hv) (k _ _ _ _ _ B)
  | _ => exact absurd hs (by simp)
theorem am_ok_lload {q : Nat} (F : am_Fx p R s m args meth c mi) (Wd : am_Wd b tU base Lx xs D cT s s.heap) (B : am_St b tU base Lx xs D cT n0 m0 s mi h H locs ls lo cells slots) (hd : decode (am_mb mi) pc = .ok (.lload q, len)) (hl : len = am_len (.lload q) len) (hs : am_step mi (.lload q) pc lo st h = some (.inl (pc', lo', st', h'))) (hR : h'.2.2.2.2.1 ≤ n0 + R.cells ∧ h'.2.2.2.2.2 ≤ m0 + R.slots) (k : am_K b tU base Lx xs D cT n0 m0 p l e R s m args below meth c Q mi pc' lo' st' h') : W p l e R s m args below meth c H locs cells slots Q (F0 m pc ls (st.map (am_cv (am_ad b tU base)))) := by
  obtain ⟨hx, hb, hml, hown, hts, hr, hlk, hin, hrk, hlr⟩ := F
  obtain ⟨hP, hS, hsz, hL, hwf, hce, hsl⟩ := id B
  obtain rfl : len = 2 := hl
  obtain ⟨v, hv, hs⟩ := am_ld_some hs
  cases v with
  | long x =>
    obtain ⟨rfl, rfl, rfl, rfl⟩ := am_nx_some hs
    exact lv_lload hx hb hd (hL.2.2.2 _ _ hv) (k _ _ _ _ _ B)
  | _ => exact absurd hs (by simp)
theorem am_ok_aload_n {q : Fin 4} (F : am_Fx p R s m args meth c mi) (Wd : am_Wd b tU base Lx xs D cT s s.heap) (B : am_St b tU base Lx xs D cT n0 m0 s mi h H locs ls lo cells slots) (hd : decode (am_mb mi) pc = .ok (.aload_n q, len)) (hl : len = am_len (.aload_n q) len) (hs : am_step mi (.aload_n q) pc lo st h = some (.inl (pc', lo', st', h'))) (hR : h'.2.2.2.2.1 ≤ n0 + R.cells ∧ h'.2.2.2.2.2 ≤ m0 + R.slots) (k : am_K b tU base Lx xs D cT n0 m0 p l e R s m args below meth c Q mi pc' lo' st' h') : W p l e R s m args below meth c H locs cells slots Q (F0 m pc ls (st.map (am_cv (am_ad b tU base)))) := by
  obtain ⟨hx, hb, hml, hown, hts, hr, hlk, hin, hrk, hlr⟩ := F
  obtain ⟨hP, hS, hsz, hL, hwf, hce, hsl⟩ := id B
  obtain rfl : len = 1 := hl
  obtain ⟨v, hv, hs⟩ := am_ld_some hs
  cases v with
  | ref x =>
    obtain ⟨rfl, rfl, rfl, rfl⟩ := am_nx_some hs
    exact lv_aload_n hx hb hd rfl (hL.2.2.2 _ _ hv) (k _ _ _ _ _ B)
  | _ => exact absurd hs (by simp)
theorem am_ok_aload {q : Nat} (F : am_Fx p R s m args meth c mi) (Wd : am_Wd b tU base Lx xs D cT s s.heap) (B : am_St b tU base Lx xs D cT n0 m0 s mi h H locs ls lo cells slots) (hd : decode (am_mb mi) pc = .ok (.aload q, len)) (hl : len = am_len (.aload q) len) (hs : am_step mi (.aload q) pc lo st h = some (.inl (pc', lo', st', h'))) (hR : h'.2.2.2.2.1 ≤ n0 + R.cells ∧ h'.2.2.2.2.2 ≤ m0 + R.slots) (k : am_K b tU base Lx xs D cT n0 m0 p l e R s m args below meth c Q mi pc' lo' st' h') : W p l e R s m args below meth c H locs cells slots Q (F0 m pc ls (st.map (am_cv (am_ad b tU base)))) := by
  obtain ⟨hx, hb, hml, hown, hts, hr, hlk, hin, hrk, hlr⟩ := F
  obtain ⟨hP, hS, hsz, hL, hwf, hce, hsl⟩ := id B
  obtain rfl : len = 2 := hl
  obtain ⟨v, hv, hs⟩ := am_ld_some hs
  cases v with
  | ref x =>
    obtain ⟨rfl, rfl, rfl, rfl⟩ := am_nx_some hs
    exact lv_aload hx hb hd (hL.2.2.2 _ _ hv) (k _ _ _ _ _ B)
  | _ => exact absurd hs (by simp)
theorem am_ok_istore_n {q : Fin 4} (F : am_Fx p R s m args meth c mi) (Wd : am_Wd b tU base Lx xs D cT s s.heap) (B : am_St b tU base Lx xs D cT n0 m0 s mi h H locs ls lo cells slots) (hd : decode (am_mb mi) pc = .ok (.istore_n q, len)) (hl : len = am_len (.istore_n q) len) (hs : am_step mi (.istore_n q) pc lo st h = some (.inl (pc', lo', st', h'))) (hR : h'.2.2.2.2.1 ≤ n0 + R.cells ∧ h'.2.2.2.2.2 ≤ m0 + R.slots) (k : am_K b tU base Lx xs D cT n0 m0 p l e R s m args below meth c Q mi pc' lo' st' h') : W p l e R s m args below meth c H locs cells slots Q (F0 m pc ls (st.map (am_cv (am_ad b tU base)))) := by
  obtain ⟨hx, hb, hml, hown, hts, hr, hlk, hin, hrk, hlr⟩ := F
  obtain ⟨hP, hS, hsz, hL, hwf, hce, hsl⟩ := id B
  obtain rfl : len = 1 := hl
  obtain ⟨x, r, e9, hs2⟩ := am_int1_some hs
  clear hs
  subst e9
  have hs := hs2
  clear hs2
  obtain ⟨hq, hs⟩ := am_if_some hs
  obtain ⟨rfl, rfl, rfl, rfl⟩ := am_nx_some hs
  have hq2 := hL.2.2.1 ▸ hq
  exact lv_istore_n hx hb hd rfl (am_lh_has hL) hq2 rfl (fun ls' h9 => k _ _ ls' _ _ ⟨hP, hS, hsz, am_lh_sto (v := .int x) hL.2.2.1 hq2 h9, hwf, hce, hsl⟩)
theorem am_ok_istore {q : Nat} (F : am_Fx p R s m args meth c mi) (Wd : am_Wd b tU base Lx xs D cT s s.heap) (B : am_St b tU base Lx xs D cT n0 m0 s mi h H locs ls lo cells slots) (hd : decode (am_mb mi) pc = .ok (.istore q, len)) (hl : len = am_len (.istore q) len) (hs : am_step mi (.istore q) pc lo st h = some (.inl (pc', lo', st', h'))) (hR : h'.2.2.2.2.1 ≤ n0 + R.cells ∧ h'.2.2.2.2.2 ≤ m0 + R.slots) (k : am_K b tU base Lx xs D cT n0 m0 p l e R s m args below meth c Q mi pc' lo' st' h') : W p l e R s m args below meth c H locs cells slots Q (F0 m pc ls (st.map (am_cv (am_ad b tU base)))) := by
  obtain ⟨hx, hb, hml, hown, hts, hr, hlk, hin, hrk, hlr⟩ := F
  obtain ⟨hP, hS, hsz, hL, hwf, hce, hsl⟩ := id B
  obtain rfl : len = 2 := hl
  obtain ⟨x, r, e9, hs2⟩ := am_int1_some hs
  clear hs
  subst e9
  have hs := hs2
  clear hs2
  obtain ⟨hq, hs⟩ := am_if_some hs
  obtain ⟨rfl, rfl, rfl, rfl⟩ := am_nx_some hs
  have hq2 := hL.2.2.1 ▸ hq
  exact lv_istore hx hb hd (am_lh_has hL) hq2 rfl (fun ls' h9 => k _ _ ls' _ _ ⟨hP, hS, hsz, am_lh_sto (v := .int x) hL.2.2.1 hq2 h9, hwf, hce, hsl⟩)
theorem am_ok_astore_n {q : Fin 4} (F : am_Fx p R s m args meth c mi) (Wd : am_Wd b tU base Lx xs D cT s s.heap) (B : am_St b tU base Lx xs D cT n0 m0 s mi h H locs ls lo cells slots) (hd : decode (am_mb mi) pc = .ok (.astore_n q, len)) (hl : len = am_len (.astore_n q) len) (hs : am_step mi (.astore_n q) pc lo st h = some (.inl (pc', lo', st', h'))) (hR : h'.2.2.2.2.1 ≤ n0 + R.cells ∧ h'.2.2.2.2.2 ≤ m0 + R.slots) (k : am_K b tU base Lx xs D cT n0 m0 p l e R s m args below meth c Q mi pc' lo' st' h') : W p l e R s m args below meth c H locs cells slots Q (F0 m pc ls (st.map (am_cv (am_ad b tU base)))) := by
  obtain ⟨hx, hb, hml, hown, hts, hr, hlk, hin, hrk, hlr⟩ := F
  obtain ⟨hP, hS, hsz, hL, hwf, hce, hsl⟩ := id B
  obtain rfl : len = 1 := hl
  obtain ⟨x, r, e9, hs2⟩ := am_ref1_some hs
  clear hs
  subst e9
  have hs := hs2
  clear hs2
  obtain ⟨hq, hs⟩ := am_if_some hs
  obtain ⟨rfl, rfl, rfl, rfl⟩ := am_nx_some hs
  have hq2 := hL.2.2.1 ▸ hq
  exact lv_astore_n hx hb hd rfl (am_lh_has hL) hq2 rfl (fun ls' h9 => k _ _ ls' _ _ ⟨hP, hS, hsz, am_lh_sto (v := .ref x) hL.2.2.1 hq2 h9, hwf, hce, hsl⟩)
theorem am_ok_astore {q : Nat} (F : am_Fx p R s m args meth c mi) (Wd : am_Wd b tU base Lx xs D cT s s.heap) (B : am_St b tU base Lx xs D cT n0 m0 s mi h H locs ls lo cells slots) (hd : decode (am_mb mi) pc = .ok (.astore q, len)) (hl : len = am_len (.astore q) len) (hs : am_step mi (.astore q) pc lo st h = some (.inl (pc', lo', st', h'))) (hR : h'.2.2.2.2.1 ≤ n0 + R.cells ∧ h'.2.2.2.2.2 ≤ m0 + R.slots) (k : am_K b tU base Lx xs D cT n0 m0 p l e R s m args below meth c Q mi pc' lo' st' h') : W p l e R s m args below meth c H locs cells slots Q (F0 m pc ls (st.map (am_cv (am_ad b tU base)))) := by
  obtain ⟨hx, hb, hml, hown, hts, hr, hlk, hin, hrk, hlr⟩ := F
  obtain ⟨hP, hS, hsz, hL, hwf, hce, hsl⟩ := id B
  obtain rfl : len = 2 := hl
  obtain ⟨x, r, e9, hs2⟩ := am_ref1_some hs
  clear hs
  subst e9
  have hs := hs2
  clear hs2
  obtain ⟨hq, hs⟩ := am_if_some hs
  obtain ⟨rfl, rfl, rfl, rfl⟩ := am_nx_some hs
  have hq2 := hL.2.2.1 ▸ hq
  exact lv_astore hx hb hd (am_lh_has hL) hq2 rfl (fun ls' h9 => k _ _ ls' _ _ ⟨hP, hS, hsz, am_lh_sto (v := .ref x) hL.2.2.1 hq2 h9, hwf, hce, hsl⟩)
theorem am_ok_lstore_n {q : Fin 4} (F : am_Fx p R s m args meth c mi) (Wd : am_Wd b tU base Lx xs D cT s s.heap) (B : am_St b tU base Lx xs D cT n0 m0 s mi h H locs ls lo cells slots) (hd : decode (am_mb mi) pc = .ok (.lstore_n q, len)) (hl : len = am_len (.lstore_n q) len) (hs : am_step mi (.lstore_n q) pc lo st h = some (.inl (pc', lo', st', h'))) (hR : h'.2.2.2.2.1 ≤ n0 + R.cells ∧ h'.2.2.2.2.2 ≤ m0 + R.slots) (k : am_K b tU base Lx xs D cT n0 m0 p l e R s m args below meth c Q mi pc' lo' st' h') : W p l e R s m args below meth c H locs cells slots Q (F0 m pc ls (st.map (am_cv (am_ad b tU base)))) := by
  obtain ⟨hx, hb, hml, hown, hts, hr, hlk, hin, hrk, hlr⟩ := F
  obtain ⟨hP, hS, hsz, hL, hwf, hce, hsl⟩ := id B
  obtain rfl : len = 1 := hl
  obtain ⟨x, r, e9, hs2⟩ := am_lng1_some hs
  clear hs
  subst e9
  have hs := hs2
  clear hs2
  obtain ⟨hq, hs⟩ := am_if_some hs
  obtain ⟨rfl, rfl, rfl, rfl⟩ := am_nx_some hs
  have hq2 := hL.2.2.1 ▸ hq
  exact lv_lstore_n hx hb hd rfl (am_lh_has hL) hq2 rfl (fun ls' h9 => k _ _ ls' _ _ ⟨hP, hS, hsz, am_lh_sto2 (v := .long x) hL.2.2.1 hq2 h9, hwf, hce, hsl⟩)
theorem am_ok_lstore {q : Nat} (F : am_Fx p R s m args meth c mi) (Wd : am_Wd b tU base Lx xs D cT s s.heap) (B : am_St b tU base Lx xs D cT n0 m0 s mi h H locs ls lo cells slots) (hd : decode (am_mb mi) pc = .ok (.lstore q, len)) (hl : len = am_len (.lstore q) len) (hs : am_step mi (.lstore q) pc lo st h = some (.inl (pc', lo', st', h'))) (hR : h'.2.2.2.2.1 ≤ n0 + R.cells ∧ h'.2.2.2.2.2 ≤ m0 + R.slots) (k : am_K b tU base Lx xs D cT n0 m0 p l e R s m args below meth c Q mi pc' lo' st' h') : W p l e R s m args below meth c H locs cells slots Q (F0 m pc ls (st.map (am_cv (am_ad b tU base)))) := by
  obtain ⟨hx, hb, hml, hown, hts, hr, hlk, hin, hrk, hlr⟩ := F
  obtain ⟨hP, hS, hsz, hL, hwf, hce, hsl⟩ := id B
  obtain rfl : len = 2 := hl
  obtain ⟨x, r, e9, hs2⟩ := am_lng1_some hs
  clear hs
  subst e9
  have hs := hs2
  clear hs2
  obtain ⟨hq, hs⟩ := am_if_some hs
  obtain ⟨rfl, rfl, rfl, rfl⟩ := am_nx_some hs
  have hq2 := hL.2.2.1 ▸ hq
  exact lv_lstore hx hb hd (am_lh_has hL) hq2 rfl (fun ls' h9 => k _ _ ls' _ _ ⟨hP, hS, hsz, am_lh_sto2 (v := .long x) hL.2.2.1 hq2 h9, hwf, hce, hsl⟩)
theorem am_ok_iinc {q : Nat} {n : Int} (F : am_Fx p R s m args meth c mi) (Wd : am_Wd b tU base Lx xs D cT s s.heap) (B : am_St b tU base Lx xs D cT n0 m0 s mi h H locs ls lo cells slots) (hd : decode (am_mb mi) pc = .ok (.iinc q n, len)) (hl : len = am_len (.iinc q n) len) (hs : am_step mi (.iinc q n) pc lo st h = some (.inl (pc', lo', st', h'))) (hR : h'.2.2.2.2.1 ≤ n0 + R.cells ∧ h'.2.2.2.2.2 ≤ m0 + R.slots) (k : am_K b tU base Lx xs D cT n0 m0 p l e R s m args below meth c Q mi pc' lo' st' h') : W p l e R s m args below meth c H locs cells slots Q (F0 m pc ls (st.map (am_cv (am_ad b tU base)))) := by
  obtain ⟨hx, hb, hml, hown, hts, hr, hlk, hin, hrk, hlr⟩ := F
  obtain ⟨hP, hS, hsz, hL, hwf, hce, hsl⟩ := id B
  obtain rfl : len = 3 := hl
  obtain ⟨v, hv, hs⟩ := am_ld_some hs
  cases v with
  | int x =>
    obtain ⟨rfl, rfl, rfl, rfl⟩ := am_nx_some hs
    obtain ⟨kk, hkk⟩ := List.getElem?_of_mem ((am_as_mem (ad := am_ad b tU base) lo 0 q (.int x)).mpr ⟨.int x, Nat.zero_le _, by simpa using hv, rfl⟩)
    have hq2 : q < am_mL mi := by rw [← hL.2.2.1]; exact (List.getElem?_eq_some_iff.mp hv).1
    exact lv_iinc hx hb hd (am_lh_has hL) hkk rfl hq2 rfl (fun ls' h9 => k _ _ ls' _ _ ⟨hP, hS, hsz, am_lh_inc hL hv h9, hwf, hce, hsl⟩)
  | _ => exact absurd hs (by simp)
theorem am_ok_iadd  (F : am_Fx p R s m args meth c mi) (Wd : am_Wd b tU base Lx xs D cT s s.heap) (B : am_St b tU base Lx xs D cT n0 m0 s mi h H locs ls lo cells slots) (hd : decode (am_mb mi) pc = .ok (.iadd, len)) (hl : len = am_len (.iadd) len) (hs : am_step mi (.iadd) pc lo st h = some (.inl (pc', lo', st', h'))) (hR : h'.2.2.2.2.1 ≤ n0 + R.cells ∧ h'.2.2.2.2.2 ≤ m0 + R.slots) (k : am_K b tU base Lx xs D cT n0 m0 p l e R s m args below meth c Q mi pc' lo' st' h') : W p l e R s m args below meth c H locs cells slots Q (F0 m pc ls (st.map (am_cv (am_ad b tU base)))) := by
  obtain ⟨hx, hb, hml, hown, hts, hr, hlk, hin, hrk, hlr⟩ := F
  obtain ⟨hP, hS, hsz, hL, hwf, hce, hsl⟩ := id B
  obtain rfl : len = 1 := hl
  obtain ⟨x, y, r, e9, hs2⟩ := am_int2_some hs
  clear hs
  subst e9
  have hs := hs2
  clear hs2
  obtain ⟨rfl, rfl, rfl, rfl⟩ := am_nx_some hs
  exact lv_iadd hx hb hd (k _ _ _ _ _ B)
theorem am_ok_isub  (F : am_Fx p R s m args meth c mi) (Wd : am_Wd b tU base Lx xs D cT s s.heap) (B : am_St b tU base Lx xs D cT n0 m0 s mi h H locs ls lo cells slots) (hd : decode (am_mb mi) pc = .ok (.isub, len)) (hl : len = am_len (.isub) len) (hs : am_step mi (.isub) pc lo st h = some (.inl (pc', lo', st', h'))) (hR : h'.2.2.2.2.1 ≤ n0 + R.cells ∧ h'.2.2.2.2.2 ≤ m0 + R.slots) (k : am_K b tU base Lx xs D cT n0 m0 p l e R s m args below meth c Q mi pc' lo' st' h') : W p l e R s m args below meth c H locs cells slots Q (F0 m pc ls (st.map (am_cv (am_ad b tU base)))) := by
  obtain ⟨hx, hb, hml, hown, hts, hr, hlk, hin, hrk, hlr⟩ := F
  obtain ⟨hP, hS, hsz, hL, hwf, hce, hsl⟩ := id B
  obtain rfl : len = 1 := hl
  obtain ⟨x, y, r, e9, hs2⟩ := am_int2_some hs
  clear hs
  subst e9
  have hs := hs2
  clear hs2
  obtain ⟨rfl, rfl, rfl, rfl⟩ := am_nx_some hs
  exact lv_isub hx hb hd (k _ _ _ _ _ B)
theorem am_ok_imul  (F : am_Fx p R s m args meth c mi) (Wd : am_Wd b tU base Lx xs D cT s s.heap) (B : am_St b tU base Lx xs D cT n0 m0 s mi h H locs ls lo cells slots) (hd : decode (am_mb mi) pc = .ok (.imul, len)) (hl : len = am_len (.imul) len) (hs : am_step mi (.imul) pc lo st h = some (.inl (pc', lo', st', h'))) (hR : h'.2.2.2.2.1 ≤ n0 + R.cells ∧ h'.2.2.2.2.2 ≤ m0 + R.slots) (k : am_K b tU base Lx xs D cT n0 m0 p l e R s m args below meth c Q mi pc' lo' st' h') : W p l e R s m args below meth c H locs cells slots Q (F0 m pc ls (st.map (am_cv (am_ad b tU base)))) := by
  obtain ⟨hx, hb, hml, hown, hts, hr, hlk, hin, hrk, hlr⟩ := F
  obtain ⟨hP, hS, hsz, hL, hwf, hce, hsl⟩ := id B
  obtain rfl : len = 1 := hl
  obtain ⟨x, y, r, e9, hs2⟩ := am_int2_some hs
  clear hs
  subst e9
  have hs := hs2
  clear hs2
  obtain ⟨rfl, rfl, rfl, rfl⟩ := am_nx_some hs
  exact lv_imul hx hb hd (k _ _ _ _ _ B)
theorem am_ok_iand  (F : am_Fx p R s m args meth c mi) (Wd : am_Wd b tU base Lx xs D cT s s.heap) (B : am_St b tU base Lx xs D cT n0 m0 s mi h H locs ls lo cells slots) (hd : decode (am_mb mi) pc = .ok (.iand, len)) (hl : len = am_len (.iand) len) (hs : am_step mi (.iand) pc lo st h = some (.inl (pc', lo', st', h'))) (hR : h'.2.2.2.2.1 ≤ n0 + R.cells ∧ h'.2.2.2.2.2 ≤ m0 + R.slots) (k : am_K b tU base Lx xs D cT n0 m0 p l e R s m args below meth c Q mi pc' lo' st' h') : W p l e R s m args below meth c H locs cells slots Q (F0 m pc ls (st.map (am_cv (am_ad b tU base)))) := by
  obtain ⟨hx, hb, hml, hown, hts, hr, hlk, hin, hrk, hlr⟩ := F
  obtain ⟨hP, hS, hsz, hL, hwf, hce, hsl⟩ := id B
  obtain rfl : len = 1 := hl
  obtain ⟨x, y, r, e9, hs2⟩ := am_int2_some hs
  clear hs
  subst e9
  have hs := hs2
  clear hs2
  obtain ⟨rfl, rfl, rfl, rfl⟩ := am_nx_some hs
  exact lv_iand hx hb hd (k _ _ _ _ _ B)
theorem am_ok_ior  (F : am_Fx p R s m args meth c mi) (Wd : am_Wd b tU base Lx xs D cT s s.heap) (B : am_St b tU base Lx xs D cT n0 m0 s mi h H locs ls lo cells slots) (hd : decode (am_mb mi) pc = .ok (.ior, len)) (hl : len = am_len (.ior) len) (hs : am_step mi (.ior) pc lo st h = some (.inl (pc', lo', st', h'))) (hR : h'.2.2.2.2.1 ≤ n0 + R.cells ∧ h'.2.2.2.2.2 ≤ m0 + R.slots) (k : am_K b tU base Lx xs D cT n0 m0 p l e R s m args below meth c Q mi pc' lo' st' h') : W p l e R s m args below meth c H locs cells slots Q (F0 m pc ls (st.map (am_cv (am_ad b tU base)))) := by
  obtain ⟨hx, hb, hml, hown, hts, hr, hlk, hin, hrk, hlr⟩ := F
  obtain ⟨hP, hS, hsz, hL, hwf, hce, hsl⟩ := id B
  obtain rfl : len = 1 := hl
  obtain ⟨x, y, r, e9, hs2⟩ := am_int2_some hs
  clear hs
  subst e9
  have hs := hs2
  clear hs2
  obtain ⟨rfl, rfl, rfl, rfl⟩ := am_nx_some hs
  exact lv_ior hx hb hd (k _ _ _ _ _ B)
theorem am_ok_ixor  (F : am_Fx p R s m args meth c mi) (Wd : am_Wd b tU base Lx xs D cT s s.heap) (B : am_St b tU base Lx xs D cT n0 m0 s mi h H locs ls lo cells slots) (hd : decode (am_mb mi) pc = .ok (.ixor, len)) (hl : len = am_len (.ixor) len) (hs : am_step mi (.ixor) pc lo st h = some (.inl (pc', lo', st', h'))) (hR : h'.2.2.2.2.1 ≤ n0 + R.cells ∧ h'.2.2.2.2.2 ≤ m0 + R.slots) (k : am_K b tU base Lx xs D cT n0 m0 p l e R s m args below meth c Q mi pc' lo' st' h') : W p l e R s m args below meth c H locs cells slots Q (F0 m pc ls (st.map (am_cv (am_ad b tU base)))) := by
  obtain ⟨hx, hb, hml, hown, hts, hr, hlk, hin, hrk, hlr⟩ := F
  obtain ⟨hP, hS, hsz, hL, hwf, hce, hsl⟩ := id B
  obtain rfl : len = 1 := hl
  obtain ⟨x, y, r, e9, hs2⟩ := am_int2_some hs
  clear hs
  subst e9
  have hs := hs2
  clear hs2
  obtain ⟨rfl, rfl, rfl, rfl⟩ := am_nx_some hs
  exact lv_ixor hx hb hd (k _ _ _ _ _ B)
theorem am_ok_ishl  (F : am_Fx p R s m args meth c mi) (Wd : am_Wd b tU base Lx xs D cT s s.heap) (B : am_St b tU base Lx xs D cT n0 m0 s mi h H locs ls lo cells slots) (hd : decode (am_mb mi) pc = .ok (.ishl, len)) (hl : len = am_len (.ishl) len) (hs : am_step mi (.ishl) pc lo st h = some (.inl (pc', lo', st', h'))) (hR : h'.2.2.2.2.1 ≤ n0 + R.cells ∧ h'.2.2.2.2.2 ≤ m0 + R.slots) (k : am_K b tU base Lx xs D cT n0 m0 p l e R s m args below meth c Q mi pc' lo' st' h') : W p l e R s m args below meth c H locs cells slots Q (F0 m pc ls (st.map (am_cv (am_ad b tU base)))) := by
  obtain ⟨hx, hb, hml, hown, hts, hr, hlk, hin, hrk, hlr⟩ := F
  obtain ⟨hP, hS, hsz, hL, hwf, hce, hsl⟩ := id B
  obtain rfl : len = 1 := hl
  obtain ⟨x, y, r, e9, hs2⟩ := am_int2_some hs
  clear hs
  subst e9
  have hs := hs2
  clear hs2
  obtain ⟨rfl, rfl, rfl, rfl⟩ := am_nx_some hs
  exact lv_ishl hx hb hd (k _ _ _ _ _ B)
theorem am_ok_ishr  (F : am_Fx p R s m args meth c mi) (Wd : am_Wd b tU base Lx xs D cT s s.heap) (B : am_St b tU base Lx xs D cT n0 m0 s mi h H locs ls lo cells slots) (hd : decode (am_mb mi) pc = .ok (.ishr, len)) (hl : len = am_len (.ishr) len) (hs : am_step mi (.ishr) pc lo st h = some (.inl (pc', lo', st', h'))) (hR : h'.2.2.2.2.1 ≤ n0 + R.cells ∧ h'.2.2.2.2.2 ≤ m0 + R.slots) (k : am_K b tU base Lx xs D cT n0 m0 p l e R s m args below meth c Q mi pc' lo' st' h') : W p l e R s m args below meth c H locs cells slots Q (F0 m pc ls (st.map (am_cv (am_ad b tU base)))) := by
  obtain ⟨hx, hb, hml, hown, hts, hr, hlk, hin, hrk, hlr⟩ := F
  obtain ⟨hP, hS, hsz, hL, hwf, hce, hsl⟩ := id B
  obtain rfl : len = 1 := hl
  obtain ⟨x, y, r, e9, hs2⟩ := am_int2_some hs
  clear hs
  subst e9
  have hs := hs2
  clear hs2
  obtain ⟨rfl, rfl, rfl, rfl⟩ := am_nx_some hs
  exact lv_ishr hx hb hd (k _ _ _ _ _ B)
theorem am_ok_iushr  (F : am_Fx p R s m args meth c mi) (Wd : am_Wd b tU base Lx xs D cT s s.heap) (B : am_St b tU base Lx xs D cT n0 m0 s mi h H locs ls lo cells slots) (hd : decode (am_mb mi) pc = .ok (.iushr, len)) (hl : len = am_len (.iushr) len) (hs : am_step mi (.iushr) pc lo st h = some (.inl (pc', lo', st', h'))) (hR : h'.2.2.2.2.1 ≤ n0 + R.cells ∧ h'.2.2.2.2.2 ≤ m0 + R.slots) (k : am_K b tU base Lx xs D cT n0 m0 p l e R s m args below meth c Q mi pc' lo' st' h') : W p l e R s m args below meth c H locs cells slots Q (F0 m pc ls (st.map (am_cv (am_ad b tU base)))) := by
  obtain ⟨hx, hb, hml, hown, hts, hr, hlk, hin, hrk, hlr⟩ := F
  obtain ⟨hP, hS, hsz, hL, hwf, hce, hsl⟩ := id B
  obtain rfl : len = 1 := hl
  obtain ⟨x, y, r, e9, hs2⟩ := am_int2_some hs
  clear hs
  subst e9
  have hs := hs2
  clear hs2
  obtain ⟨rfl, rfl, rfl, rfl⟩ := am_nx_some hs
  exact lv_iushr hx hb hd rfl (k _ _ _ _ _ B)
theorem am_ok_idiv  (F : am_Fx p R s m args meth c mi) (Wd : am_Wd b tU base Lx xs D cT s s.heap) (B : am_St b tU base Lx xs D cT n0 m0 s mi h H locs ls lo cells slots) (hd : decode (am_mb mi) pc = .ok (.idiv, len)) (hl : len = am_len (.idiv) len) (hs : am_step mi (.idiv) pc lo st h = some (.inl (pc', lo', st', h'))) (hR : h'.2.2.2.2.1 ≤ n0 + R.cells ∧ h'.2.2.2.2.2 ≤ m0 + R.slots) (k : am_K b tU base Lx xs D cT n0 m0 p l e R s m args below meth c Q mi pc' lo' st' h') : W p l e R s m args below meth c H locs cells slots Q (F0 m pc ls (st.map (am_cv (am_ad b tU base)))) := by
  obtain ⟨hx, hb, hml, hown, hts, hr, hlk, hin, hrk, hlr⟩ := F
  obtain ⟨hP, hS, hsz, hL, hwf, hce, hsl⟩ := id B
  obtain rfl : len = 1 := hl
  obtain ⟨x, y, r, e9, hs2⟩ := am_int2_some hs
  clear hs
  subst e9
  have hs := hs2
  clear hs2
  obtain ⟨hy, hs⟩ := am_if_none hs
  obtain ⟨rfl, rfl, rfl, rfl⟩ := am_nx_some hs
  exact lv_idiv hx hb hd hy (k _ _ _ _ _ B)
theorem am_ok_irem  (F : am_Fx p R s m args meth c mi) (Wd : am_Wd b tU base Lx xs D cT s s.heap) (B : am_St b tU base Lx xs D cT n0 m0 s mi h H locs ls lo cells slots) (hd : decode (am_mb mi) pc = .ok (.irem, len)) (hl : len = am_len (.irem) len) (hs : am_step mi (.irem) pc lo st h = some (.inl (pc', lo', st', h'))) (hR : h'.2.2.2.2.1 ≤ n0 + R.cells ∧ h'.2.2.2.2.2 ≤ m0 + R.slots) (k : am_K b tU base Lx xs D cT n0 m0 p l e R s m args below meth c Q mi pc' lo' st' h') : W p l e R s m args below meth c H locs cells slots Q (F0 m pc ls (st.map (am_cv (am_ad b tU base)))) := by
  obtain ⟨hx, hb, hml, hown, hts, hr, hlk, hin, hrk, hlr⟩ := F
  obtain ⟨hP, hS, hsz, hL, hwf, hce, hsl⟩ := id B
  obtain rfl : len = 1 := hl
  obtain ⟨x, y, r, e9, hs2⟩ := am_int2_some hs
  clear hs
  subst e9
  have hs := hs2
  clear hs2
  obtain ⟨hy, hs⟩ := am_if_none hs
  obtain ⟨rfl, rfl, rfl, rfl⟩ := am_nx_some hs
  exact lv_irem hx hb hd hy (k _ _ _ _ _ B)
theorem am_ok_ineg  (F : am_Fx p R s m args meth c mi) (Wd : am_Wd b tU base Lx xs D cT s s.heap) (B : am_St b tU base Lx xs D cT n0 m0 s mi h H locs ls lo cells slots) (hd : decode (am_mb mi) pc = .ok (.ineg, len)) (hl : len = am_len (.ineg) len) (hs : am_step mi (.ineg) pc lo st h = some (.inl (pc', lo', st', h'))) (hR : h'.2.2.2.2.1 ≤ n0 + R.cells ∧ h'.2.2.2.2.2 ≤ m0 + R.slots) (k : am_K b tU base Lx xs D cT n0 m0 p l e R s m args below meth c Q mi pc' lo' st' h') : W p l e R s m args below meth c H locs cells slots Q (F0 m pc ls (st.map (am_cv (am_ad b tU base)))) := by
  obtain ⟨hx, hb, hml, hown, hts, hr, hlk, hin, hrk, hlr⟩ := F
  obtain ⟨hP, hS, hsz, hL, hwf, hce, hsl⟩ := id B
  obtain rfl : len = 1 := hl
  obtain ⟨x, r, e9, hs2⟩ := am_int1_some hs
  clear hs
  subst e9
  have hs := hs2
  clear hs2
  obtain ⟨rfl, rfl, rfl, rfl⟩ := am_nx_some hs
  exact lv_ineg hx hb hd (k _ _ _ _ _ B)
theorem am_ok_i2l  (F : am_Fx p R s m args meth c mi) (Wd : am_Wd b tU base Lx xs D cT s s.heap) (B : am_St b tU base Lx xs D cT n0 m0 s mi h H locs ls lo cells slots) (hd : decode (am_mb mi) pc = .ok (.i2l, len)) (hl : len = am_len (.i2l) len) (hs : am_step mi (.i2l) pc lo st h = some (.inl (pc', lo', st', h'))) (hR : h'.2.2.2.2.1 ≤ n0 + R.cells ∧ h'.2.2.2.2.2 ≤ m0 + R.slots) (k : am_K b tU base Lx xs D cT n0 m0 p l e R s m args below meth c Q mi pc' lo' st' h') : W p l e R s m args below meth c H locs cells slots Q (F0 m pc ls (st.map (am_cv (am_ad b tU base)))) := by
  obtain ⟨hx, hb, hml, hown, hts, hr, hlk, hin, hrk, hlr⟩ := F
  obtain ⟨hP, hS, hsz, hL, hwf, hce, hsl⟩ := id B
  obtain rfl : len = 1 := hl
  obtain ⟨x, r, e9, hs2⟩ := am_int1_some hs
  clear hs
  subst e9
  have hs := hs2
  clear hs2
  obtain ⟨rfl, rfl, rfl, rfl⟩ := am_nx_some hs
  exact lv_i2l hx hb hd rfl (k _ _ _ _ _ B)
theorem am_ok_i2c  (F : am_Fx p R s m args meth c mi) (Wd : am_Wd b tU base Lx xs D cT s s.heap) (B : am_St b tU base Lx xs D cT n0 m0 s mi h H locs ls lo cells slots) (hd : decode (am_mb mi) pc = .ok (.i2c, len)) (hl : len = am_len (.i2c) len) (hs : am_step mi (.i2c) pc lo st h = some (.inl (pc', lo', st', h'))) (hR : h'.2.2.2.2.1 ≤ n0 + R.cells ∧ h'.2.2.2.2.2 ≤ m0 + R.slots) (k : am_K b tU base Lx xs D cT n0 m0 p l e R s m args below meth c Q mi pc' lo' st' h') : W p l e R s m args below meth c H locs cells slots Q (F0 m pc ls (st.map (am_cv (am_ad b tU base)))) := by
  obtain ⟨hx, hb, hml, hown, hts, hr, hlk, hin, hrk, hlr⟩ := F
  obtain ⟨hP, hS, hsz, hL, hwf, hce, hsl⟩ := id B
  obtain rfl : len = 1 := hl
  obtain ⟨x, r, e9, hs2⟩ := am_int1_some hs
  clear hs
  subst e9
  have hs := hs2
  clear hs2
  obtain ⟨rfl, rfl, rfl, rfl⟩ := am_nx_some hs
  exact lv_i2c hx hb hd rfl (k _ _ _ _ _ B)
theorem am_ok_l2i  (F : am_Fx p R s m args meth c mi) (Wd : am_Wd b tU base Lx xs D cT s s.heap) (B : am_St b tU base Lx xs D cT n0 m0 s mi h H locs ls lo cells slots) (hd : decode (am_mb mi) pc = .ok (.l2i, len)) (hl : len = am_len (.l2i) len) (hs : am_step mi (.l2i) pc lo st h = some (.inl (pc', lo', st', h'))) (hR : h'.2.2.2.2.1 ≤ n0 + R.cells ∧ h'.2.2.2.2.2 ≤ m0 + R.slots) (k : am_K b tU base Lx xs D cT n0 m0 p l e R s m args below meth c Q mi pc' lo' st' h') : W p l e R s m args below meth c H locs cells slots Q (F0 m pc ls (st.map (am_cv (am_ad b tU base)))) := by
  obtain ⟨hx, hb, hml, hown, hts, hr, hlk, hin, hrk, hlr⟩ := F
  obtain ⟨hP, hS, hsz, hL, hwf, hce, hsl⟩ := id B
  obtain rfl : len = 1 := hl
  obtain ⟨x, r, e9, hs2⟩ := am_lng1_some hs
  clear hs
  subst e9
  have hs := hs2
  clear hs2
  obtain ⟨rfl, rfl, rfl, rfl⟩ := am_nx_some hs
  exact lv_l2i hx hb hd rfl (k _ _ _ _ _ B)
theorem am_ok_ladd  (F : am_Fx p R s m args meth c mi) (Wd : am_Wd b tU base Lx xs D cT s s.heap) (B : am_St b tU base Lx xs D cT n0 m0 s mi h H locs ls lo cells slots) (hd : decode (am_mb mi) pc = .ok (.ladd, len)) (hl : len = am_len (.ladd) len) (hs : am_step mi (.ladd) pc lo st h = some (.inl (pc', lo', st', h'))) (hR : h'.2.2.2.2.1 ≤ n0 + R.cells ∧ h'.2.2.2.2.2 ≤ m0 + R.slots) (k : am_K b tU base Lx xs D cT n0 m0 p l e R s m args below meth c Q mi pc' lo' st' h') : W p l e R s m args below meth c H locs cells slots Q (F0 m pc ls (st.map (am_cv (am_ad b tU base)))) := by
  obtain ⟨hx, hb, hml, hown, hts, hr, hlk, hin, hrk, hlr⟩ := F
  obtain ⟨hP, hS, hsz, hL, hwf, hce, hsl⟩ := id B
  obtain rfl : len = 1 := hl
  obtain ⟨x, y, r, e9, hs2⟩ := am_lng2_some hs
  clear hs
  subst e9
  have hs := hs2
  clear hs2
  obtain ⟨rfl, rfl, rfl, rfl⟩ := am_nx_some hs
  exact lv_ladd hx hb hd (k _ _ _ _ _ B)
theorem am_ok_lsub  (F : am_Fx p R s m args meth c mi) (Wd : am_Wd b tU base Lx xs D cT s s.heap) (B : am_St b tU base Lx xs D cT n0 m0 s mi h H locs ls lo cells slots) (hd : decode (am_mb mi) pc = .ok (.lsub, len)) (hl : len = am_len (.lsub) len) (hs : am_step mi (.lsub) pc lo st h = some (.inl (pc', lo', st', h'))) (hR : h'.2.2.2.2.1 ≤ n0 + R.cells ∧ h'.2.2.2.2.2 ≤ m0 + R.slots) (k : am_K b tU base Lx xs D cT n0 m0 p l e R s m args below meth c Q mi pc' lo' st' h') : W p l e R s m args below meth c H locs cells slots Q (F0 m pc ls (st.map (am_cv (am_ad b tU base)))) := by
  obtain ⟨hx, hb, hml, hown, hts, hr, hlk, hin, hrk, hlr⟩ := F
  obtain ⟨hP, hS, hsz, hL, hwf, hce, hsl⟩ := id B
  obtain rfl : len = 1 := hl
  obtain ⟨x, y, r, e9, hs2⟩ := am_lng2_some hs
  clear hs
  subst e9
  have hs := hs2
  clear hs2
  obtain ⟨rfl, rfl, rfl, rfl⟩ := am_nx_some hs
  exact lv_lsub hx hb hd (k _ _ _ _ _ B)
theorem am_ok_land  (F : am_Fx p R s m args meth c mi) (Wd : am_Wd b tU base Lx xs D cT s s.heap) (B : am_St b tU base Lx xs D cT n0 m0 s mi h H locs ls lo cells slots) (hd : decode (am_mb mi) pc = .ok (.land, len)) (hl : len = am_len (.land) len) (hs : am_step mi (.land) pc lo st h = some (.inl (pc', lo', st', h'))) (hR : h'.2.2.2.2.1 ≤ n0 + R.cells ∧ h'.2.2.2.2.2 ≤ m0 + R.slots) (k : am_K b tU base Lx xs D cT n0 m0 p l e R s m args below meth c Q mi pc' lo' st' h') : W p l e R s m args below meth c H locs cells slots Q (F0 m pc ls (st.map (am_cv (am_ad b tU base)))) := by
  obtain ⟨hx, hb, hml, hown, hts, hr, hlk, hin, hrk, hlr⟩ := F
  obtain ⟨hP, hS, hsz, hL, hwf, hce, hsl⟩ := id B
  obtain rfl : len = 1 := hl
  obtain ⟨x, y, r, e9, hs2⟩ := am_lng2_some hs
  clear hs
  subst e9
  have hs := hs2
  clear hs2
  obtain ⟨rfl, rfl, rfl, rfl⟩ := am_nx_some hs
  exact lv_land hx hb hd (k _ _ _ _ _ B)
theorem am_ok_lor  (F : am_Fx p R s m args meth c mi) (Wd : am_Wd b tU base Lx xs D cT s s.heap) (B : am_St b tU base Lx xs D cT n0 m0 s mi h H locs ls lo cells slots) (hd : decode (am_mb mi) pc = .ok (.lor, len)) (hl : len = am_len (.lor) len) (hs : am_step mi (.lor) pc lo st h = some (.inl (pc', lo', st', h'))) (hR : h'.2.2.2.2.1 ≤ n0 + R.cells ∧ h'.2.2.2.2.2 ≤ m0 + R.slots) (k : am_K b tU base Lx xs D cT n0 m0 p l e R s m args below meth c Q mi pc' lo' st' h') : W p l e R s m args below meth c H locs cells slots Q (F0 m pc ls (st.map (am_cv (am_ad b tU base)))) := by
  obtain ⟨hx, hb, hml, hown, hts, hr, hlk, hin, hrk, hlr⟩ := F
  obtain ⟨hP, hS, hsz, hL, hwf, hce, hsl⟩ := id B
  obtain rfl : len = 1 := hl
  obtain ⟨x, y, r, e9, hs2⟩ := am_lng2_some hs
  clear hs
  subst e9
  have hs := hs2
  clear hs2
  obtain ⟨rfl, rfl, rfl, rfl⟩ := am_nx_some hs
  exact lv_lor hx hb hd (k _ _ _ _ _ B)
theorem am_ok_lxor  (F : am_Fx p R s m args meth c mi) (Wd : am_Wd b tU base Lx xs D cT s s.heap) (B : am_St b tU base Lx xs D cT n0 m0 s mi h H locs ls lo cells slots) (hd : decode (am_mb mi) pc = .ok (.lxor, len)) (hl : len = am_len (.lxor) len) (hs : am_step mi (.lxor) pc lo st h = some (.inl (pc', lo', st', h'))) (hR : h'.2.2.2.2.1 ≤ n0 + R.cells ∧ h'.2.2.2.2.2 ≤ m0 + R.slots) (k : am_K b tU base Lx xs D cT n0 m0 p l e R s m args below meth c Q mi pc' lo' st' h') : W p l e R s m args below meth c H locs cells slots Q (F0 m pc ls (st.map (am_cv (am_ad b tU base)))) := by
  obtain ⟨hx, hb, hml, hown, hts, hr, hlk, hin, hrk, hlr⟩ := F
  obtain ⟨hP, hS, hsz, hL, hwf, hce, hsl⟩ := id B
  obtain rfl : len = 1 := hl
  obtain ⟨x, y, r, e9, hs2⟩ := am_lng2_some hs
  clear hs
  subst e9
  have hs := hs2
  clear hs2
  obtain ⟨rfl, rfl, rfl, rfl⟩ := am_nx_some hs
  exact lv_lxor hx hb hd (k _ _ _ _ _ B)
theorem am_ok_lcmp  (F : am_Fx p R s m args meth c mi) (Wd : am_Wd b tU base Lx xs D cT s s.heap) (B : am_St b tU base Lx xs D cT n0 m0 s mi h H locs ls lo cells slots) (hd : decode (am_mb mi) pc = .ok (.lcmp, len)) (hl : len = am_len (.lcmp) len) (hs : am_step mi (.lcmp) pc lo st h = some (.inl (pc', lo', st', h'))) (hR : h'.2.2.2.2.1 ≤ n0 + R.cells ∧ h'.2.2.2.2.2 ≤ m0 + R.slots) (k : am_K b tU base Lx xs D cT n0 m0 p l e R s m args below meth c Q mi pc' lo' st' h') : W p l e R s m args below meth c H locs cells slots Q (F0 m pc ls (st.map (am_cv (am_ad b tU base)))) := by
  obtain ⟨hx, hb, hml, hown, hts, hr, hlk, hin, hrk, hlr⟩ := F
  obtain ⟨hP, hS, hsz, hL, hwf, hce, hsl⟩ := id B
  obtain rfl : len = 1 := hl
  obtain ⟨x, y, r, e9, hs2⟩ := am_lng2_some hs
  clear hs
  subst e9
  have hs := hs2
  clear hs2
  obtain ⟨rfl, rfl, rfl, rfl⟩ := am_nx_some hs
  exact W.lcmp hx hb hd (k _ _ _ _ _ B)
theorem am_ok_lshl  (F : am_Fx p R s m args meth c mi) (Wd : am_Wd b tU base Lx xs D cT s s.heap) (B : am_St b tU base Lx xs D cT n0 m0 s mi h H locs ls lo cells slots) (hd : decode (am_mb mi) pc = .ok (.lshl, len)) (hl : len = am_len (.lshl) len) (hs : am_step mi (.lshl) pc lo st h = some (.inl (pc', lo', st', h'))) (hR : h'.2.2.2.2.1 ≤ n0 + R.cells ∧ h'.2.2.2.2.2 ≤ m0 + R.slots) (k : am_K b tU base Lx xs D cT n0 m0 p l e R s m args below meth c Q mi pc' lo' st' h') : W p l e R s m args below meth c H locs cells slots Q (F0 m pc ls (st.map (am_cv (am_ad b tU base)))) := by
  obtain ⟨hx, hb, hml, hown, hts, hr, hlk, hin, hrk, hlr⟩ := F
  obtain ⟨hP, hS, hsz, hL, hwf, hce, hsl⟩ := id B
  obtain rfl : len = 1 := hl
  simp only [am_step] at hs
  split at hs
  · obtain ⟨rfl, rfl, rfl, rfl⟩ := am_nx_some hs
    exact lv_lshl hx hb hd rfl (k _ _ _ _ _ B)
  · cases hs
theorem am_ok_lushr  (F : am_Fx p R s m args meth c mi) (Wd : am_Wd b tU base Lx xs D cT s s.heap) (B : am_St b tU base Lx xs D cT n0 m0 s mi h H locs ls lo cells slots) (hd : decode (am_mb mi) pc = .ok (.lushr, len)) (hl : len = am_len (.lushr) len) (hs : am_step mi (.lushr) pc lo st h = some (.inl (pc', lo', st', h'))) (hR : h'.2.2.2.2.1 ≤ n0 + R.cells ∧ h'.2.2.2.2.2 ≤ m0 + R.slots) (k : am_K b tU base Lx xs D cT n0 m0 p l e R s m args below meth c Q mi pc' lo' st' h') : W p l e R s m args below meth c H locs cells slots Q (F0 m pc ls (st.map (am_cv (am_ad b tU base)))) := by
  obtain ⟨hx, hb, hml, hown, hts, hr, hlk, hin, hrk, hlr⟩ := F
  obtain ⟨hP, hS, hsz, hL, hwf, hce, hsl⟩ := id B
  obtain rfl : len = 1 := hl
  simp only [am_step] at hs
  split at hs
  · obtain ⟨rfl, rfl, rfl, rfl⟩ := am_nx_some hs
    exact lv_lushr hx hb hd rfl (k _ _ _ _ _ B)
  · cases hs
theorem am_ok_dup  (F : am_Fx p R s m args meth c mi) (Wd : am_Wd b tU base Lx xs D cT s s.heap) (B : am_St b tU base Lx xs D cT n0 m0 s mi h H locs ls lo cells slots) (hd : decode (am_mb mi) pc = .ok (.dup, len)) (hl : len = am_len (.dup) len) (hs : am_step mi (.dup) pc lo st h = some (.inl (pc', lo', st', h'))) (hR : h'.2.2.2.2.1 ≤ n0 + R.cells ∧ h'.2.2.2.2.2 ≤ m0 + R.slots) (k : am_K b tU base Lx xs D cT n0 m0 p l e R s m args below meth c Q mi pc' lo' st' h') : W p l e R s m args below meth c H locs cells slots Q (F0 m pc ls (st.map (am_cv (am_ad b tU base)))) := by
  obtain ⟨hx, hb, hml, hown, hts, hr, hlk, hin, hrk, hlr⟩ := F
  obtain ⟨hP, hS, hsz, hL, hwf, hce, hsl⟩ := id B
  obtain rfl : len = 1 := hl
  simp only [am_step] at hs
  split at hs
  · obtain ⟨hc, hs⟩ := am_if_some hs
    obtain ⟨rfl, rfl, rfl, rfl⟩ := am_nx_some hs
    exact lv_dup hx hb hd (by rw [am_cv_cat]; exact hc) (k _ _ _ _ _ B)
  · cases hs
theorem am_ok_dup2  (F : am_Fx p R s m args meth c mi) (Wd : am_Wd b tU base Lx xs D cT s s.heap) (B : am_St b tU base Lx xs D cT n0 m0 s mi h H locs ls lo cells slots) (hd : decode (am_mb mi) pc = .ok (.dup2, len)) (hl : len = am_len (.dup2) len) (hs : am_step mi (.dup2) pc lo st h = some (.inl (pc', lo', st', h'))) (hR : h'.2.2.2.2.1 ≤ n0 + R.cells ∧ h'.2.2.2.2.2 ≤ m0 + R.slots) (k : am_K b tU base Lx xs D cT n0 m0 p l e R s m args below meth c Q mi pc' lo' st' h') : W p l e R s m args below meth c H locs cells slots Q (F0 m pc ls (st.map (am_cv (am_ad b tU base)))) := by
  obtain ⟨hx, hb, hml, hown, hts, hr, hlk, hin, hrk, hlr⟩ := F
  obtain ⟨hP, hS, hsz, hL, hwf, hce, hsl⟩ := id B
  obtain rfl : len = 1 := hl
  simp only [am_step] at hs
  split at hs
  · obtain ⟨hc, hs⟩ := am_if_some hs
    obtain ⟨rfl, rfl, rfl, rfl⟩ := am_nx_some hs
    exact lv_dup2_11 hx hb hd (by rw [am_cv_cat]; exact hc.1) (by rw [am_cv_cat]; exact hc.2) (k _ _ _ _ _ B)
  · cases hs
theorem am_ok_ifCond {cc : Jvm.ClassFile.Cond} {off : Int} (F : am_Fx p R s m args meth c mi) (Wd : am_Wd b tU base Lx xs D cT s s.heap) (B : am_St b tU base Lx xs D cT n0 m0 s mi h H locs ls lo cells slots) (hd : decode (am_mb mi) pc = .ok (.ifCond cc off, len)) (hl : len = am_len (.ifCond cc off) len) (hs : am_step mi (.ifCond cc off) pc lo st h = some (.inl (pc', lo', st', h'))) (hR : h'.2.2.2.2.1 ≤ n0 + R.cells ∧ h'.2.2.2.2.2 ≤ m0 + R.slots) (k : am_K b tU base Lx xs D cT n0 m0 p l e R s m args below meth c Q mi pc' lo' st' h') : W p l e R s m args below meth c H locs cells slots Q (F0 m pc ls (st.map (am_cv (am_ad b tU base)))) := by
  obtain ⟨hx, hb, hml, hown, hts, hr, hlk, hin, hrk, hlr⟩ := F
  obtain ⟨hP, hS, hsz, hL, hwf, hce, hsl⟩ := id B
  obtain rfl : len = 3 := hl
  obtain ⟨x, r, e9, hs2⟩ := am_int1_some hs
  clear hs
  subst e9
  have hs := hs2
  clear hs2
  obtain ⟨hc, hpc, rfl, rfl, rfl⟩ := am_br_some hs
  cases cc with
  | eq => exact lv_if_eq hx hb (tgt := ((pc : Int) + off).toNat) hd hc (fun q => by
      have e9 : pc' = ((pc : Int) + off).toNat := by rw [hpc]; simp [am_cb, q]
      rw [← e9]; exact k _ _ _ _ _ B) (fun q => by
      have e9 : pc' = pc + 3 := by rw [hpc]; simp [am_cb, q]
      rw [← e9]; exact k _ _ _ _ _ B)
  | ne => exact lv_if_ne hx hb (tgt := ((pc : Int) + off).toNat) hd hc (fun q => by
      have e9 : pc' = ((pc : Int) + off).toNat := by rw [hpc]; simp [am_cb, q]
      rw [← e9]; exact k _ _ _ _ _ B) (fun q => by
      have e9 : pc' = pc + 3 := by rw [hpc]; simp [am_cb, q]
      rw [← e9]; exact k _ _ _ _ _ B)
  | lt => exact lv_if_lt hx hb (tgt := ((pc : Int) + off).toNat) hd hc (fun q => by
      have e9 : pc' = ((pc : Int) + off).toNat := by rw [hpc]; simp [am_cb, q]
      rw [← e9]; exact k _ _ _ _ _ B) (fun q => by
      have e9 : pc' = pc + 3 := by rw [hpc]; simp [am_cb, q]
      rw [← e9]; exact k _ _ _ _ _ B)
  | ge => exact lv_if_ge hx hb (tgt := ((pc : Int) + off).toNat) hd hc (fun q => by
      have e9 : pc' = ((pc : Int) + off).toNat := by rw [hpc]; simp [am_cb, q]
      rw [← e9]; exact k _ _ _ _ _ B) (fun q => by
      have e9 : pc' = pc + 3 := by rw [hpc]; simp [am_cb, q]
      rw [← e9]; exact k _ _ _ _ _ B)
  | gt => exact lv_if_gt hx hb (tgt := ((pc : Int) + off).toNat) hd hc (fun q => by
      have e9 : pc' = ((pc : Int) + off).toNat := by rw [hpc]; simp [am_cb, q]
      rw [← e9]; exact k _ _ _ _ _ B) (fun q => by
      have e9 : pc' = pc + 3 := by rw [hpc]; simp [am_cb, q]
      rw [← e9]; exact k _ _ _ _ _ B)
  | le => exact lv_if_le hx hb (tgt := ((pc : Int) + off).toNat) hd hc (fun q => by
      have e9 : pc' = ((pc : Int) + off).toNat := by rw [hpc]; simp [am_cb, q]
      rw [← e9]; exact k _ _ _ _ _ B) (fun q => by
      have e9 : pc' = pc + 3 := by rw [hpc]; simp [am_cb, q]
      rw [← e9]; exact k _ _ _ _ _ B)
theorem am_ok_if_icmp {cc : Jvm.ClassFile.Cond} {off : Int} (F : am_Fx p R s m args meth c mi) (Wd : am_Wd b tU base Lx xs D cT s s.heap) (B : am_St b tU base Lx xs D cT n0 m0 s mi h H locs ls lo cells slots) (hd : decode (am_mb mi) pc = .ok (.if_icmp cc off, len)) (hl : len = am_len (.if_icmp cc off) len) (hs : am_step mi (.if_icmp cc off) pc lo st h = some (.inl (pc', lo', st', h'))) (hR : h'.2.2.2.2.1 ≤ n0 + R.cells ∧ h'.2.2.2.2.2 ≤ m0 + R.slots) (k : am_K b tU base Lx xs D cT n0 m0 p l e R s m args below meth c Q mi pc' lo' st' h') : W p l e R s m args below meth c H locs cells slots Q (F0 m pc ls (st.map (am_cv (am_ad b tU base)))) := by
  obtain ⟨hx, hb, hml, hown, hts, hr, hlk, hin, hrk, hlr⟩ := F
  obtain ⟨hP, hS, hsz, hL, hwf, hce, hsl⟩ := id B
  obtain rfl : len = 3 := hl
  obtain ⟨x, y, r, e9, hs2⟩ := am_int2_some hs
  clear hs
  subst e9
  have hs := hs2
  clear hs2
  obtain ⟨hc, hpc, rfl, rfl, rfl⟩ := am_br_some hs
  cases cc with
  | eq => exact lv_icmp_eq hx hb (tgt := ((pc : Int) + off).toNat) hd hc (fun q => by
      have e9 : pc' = ((pc : Int) + off).toNat := by rw [hpc]; simp [am_cb, q]
      rw [← e9]; exact k _ _ _ _ _ B) (fun q => by
      have e9 : pc' = pc + 3 := by rw [hpc]; simp [am_cb, q]
      rw [← e9]; exact k _ _ _ _ _ B)
  | ne => exact lv_icmp_ne hx hb (tgt := ((pc : Int) + off).toNat) hd hc (fun q => by
      have e9 : pc' = ((pc : Int) + off).toNat := by rw [hpc]; simp [am_cb, q]
      rw [← e9]; exact k _ _ _ _ _ B) (fun q => by
      have e9 : pc' = pc + 3 := by rw [hpc]; simp [am_cb, q]
      rw [← e9]; exact k _ _ _ _ _ B)
  | lt => exact lv_icmp_lt hx hb (tgt := ((pc : Int) + off).toNat) hd hc (fun q => by
      have e9 : pc' = ((pc : Int) + off).toNat := by rw [hpc]; simp [am_cb, q]
      rw [← e9]; exact k _ _ _ _ _ B) (fun q => by
      have e9 : pc' = pc + 3 := by rw [hpc]; simp [am_cb, q]
      rw [← e9]; exact k _ _ _ _ _ B)
  | ge => exact lv_icmp_ge hx hb (tgt := ((pc : Int) + off).toNat) hd hc (fun q => by
      have e9 : pc' = ((pc : Int) + off).toNat := by rw [hpc]; simp [am_cb, q]
      rw [← e9]; exact k _ _ _ _ _ B) (fun q => by
      have e9 : pc' = pc + 3 := by rw [hpc]; simp [am_cb, q]
      rw [← e9]; exact k _ _ _ _ _ B)
  | gt => exact lv_icmp_gt hx hb (tgt := ((pc : Int) + off).toNat) hd hc (fun q => by
      have e9 : pc' = ((pc : Int) + off).toNat := by rw [hpc]; simp [am_cb, q]
      rw [← e9]; exact k _ _ _ _ _ B) (fun q => by
      have e9 : pc' = pc + 3 := by rw [hpc]; simp [am_cb, q]
      rw [← e9]; exact k _ _ _ _ _ B)
  | le => exact lv_icmp_le hx hb (tgt := ((pc : Int) + off).toNat) hd hc (fun q => by
      have e9 : pc' = ((pc : Int) + off).toNat := by rw [hpc]; simp [am_cb, q]
      rw [← e9]; exact k _ _ _ _ _ B) (fun q => by
      have e9 : pc' = pc + 3 := by rw [hpc]; simp [am_cb, q]
      rw [← e9]; exact k _ _ _ _ _ B)
theorem am_ok_goto {off : Int} (F : am_Fx p R s m args meth c mi) (Wd : am_Wd b tU base Lx xs D cT s s.heap) (B : am_St b tU base Lx xs D cT n0 m0 s mi h H locs ls lo cells slots) (hd : decode (am_mb mi) pc = .ok (.goto off, len)) (hl : len = am_len (.goto off) len) (hs : am_step mi (.goto off) pc lo st h = some (.inl (pc', lo', st', h'))) (hR : h'.2.2.2.2.1 ≤ n0 + R.cells ∧ h'.2.2.2.2.2 ≤ m0 + R.slots) (k : am_K b tU base Lx xs D cT n0 m0 p l e R s m args below meth c Q mi pc' lo' st' h') : W p l e R s m args below meth c H locs cells slots Q (F0 m pc ls (st.map (am_cv (am_ad b tU base)))) := by
  obtain ⟨hx, hb, hml, hown, hts, hr, hlk, hin, hrk, hlr⟩ := F
  obtain ⟨hP, hS, hsz, hL, hwf, hce, hsl⟩ := id B
  obtain rfl : len = 3 := hl
  obtain ⟨hc, rfl, rfl, rfl⟩ := am_go_some hs
  exact lv_goto hx hb hd hc (k _ _ _ _ _ B)
theorem am_ok_tableswitch {d u w : Int} {offs : Array Int} (F : am_Fx p R s m args meth c mi) (Wd : am_Wd b tU base Lx xs D cT s s.heap) (B : am_St b tU base Lx xs D cT n0 m0 s mi h H locs ls lo cells slots) (hd : decode (am_mb mi) pc = .ok (.tableswitch d u w offs, len)) (hl : len = am_len (.tableswitch d u w offs) len) (hs : am_step mi (.tableswitch d u w offs) pc lo st h = some (.inl (pc', lo', st', h'))) (hR : h'.2.2.2.2.1 ≤ n0 + R.cells ∧ h'.2.2.2.2.2 ≤ m0 + R.slots) (k : am_K b tU base Lx xs D cT n0 m0 p l e R s m args below meth c Q mi pc' lo' st' h') : W p l e R s m args below meth c H locs cells slots Q (F0 m pc ls (st.map (am_cv (am_ad b tU base)))) := by
  obtain ⟨hx, hb, hml, hown, hts, hr, hlk, hin, hrk, hlr⟩ := F
  obtain ⟨hP, hS, hsz, hL, hwf, hce, hsl⟩ := id B
  obtain ⟨x, r, e9, hs2⟩ := am_int1_some hs
  clear hs
  subst e9
  have hs := hs2
  clear hs2
  by_cases hc : x.toInt < u ∨ w < x.toInt
  · rw [if_pos hc] at hs
    obtain ⟨ht, rfl, rfl, rfl⟩ := am_go_some hs
    exact lv_tableOut hx hb hd hc ht (k _ _ _ _ _ B)
  · rw [if_neg hc] at hs
    split at hs
    · next o ho =>
      obtain ⟨ht, rfl, rfl, rfl⟩ := am_go_some hs
      exact lv_tableIn hx hb hd (fun q => hc (Or.inl q)) (fun q => hc (Or.inr q)) ho ht (k _ _ _ _ _ B)
    · cases hs
theorem am_ok_lookupswitch {d : Int} {ps : Array (Int × Int)} (F : am_Fx p R s m args meth c mi) (Wd : am_Wd b tU base Lx xs D cT s s.heap) (B : am_St b tU base Lx xs D cT n0 m0 s mi h H locs ls lo cells slots) (hd : decode (am_mb mi) pc = .ok (.lookupswitch d ps, len)) (hl : len = am_len (.lookupswitch d ps) len) (hs : am_step mi (.lookupswitch d ps) pc lo st h = some (.inl (pc', lo', st', h'))) (hR : h'.2.2.2.2.1 ≤ n0 + R.cells ∧ h'.2.2.2.2.2 ≤ m0 + R.slots) (k : am_K b tU base Lx xs D cT n0 m0 p l e R s m args below meth c Q mi pc' lo' st' h') : W p l e R s m args below meth c H locs cells slots Q (F0 m pc ls (st.map (am_cv (am_ad b tU base)))) := by
  obtain ⟨hx, hb, hml, hown, hts, hr, hlk, hin, hrk, hlr⟩ := F
  obtain ⟨hP, hS, hsz, hL, hwf, hce, hsl⟩ := id B
  obtain ⟨x, r, e9, hs2⟩ := am_int1_some hs
  clear hs
  subst e9
  have hs := hs2
  clear hs2
  obtain ⟨hc, hs⟩ := am_if_some hs
  obtain ⟨ht, rfl, rfl, rfl⟩ := am_go_some hs
  exact lv_lookup hx hb hd hc rfl ht (k _ _ _ _ _ B)
theorem am_ok_getfield {idx : Nat} (F : am_Fx p R s m args meth c mi) (Wd : am_Wd b tU base Lx xs D cT s s.heap) (B : am_St b tU base Lx xs D cT n0 m0 s mi h H locs ls lo cells slots) (hd : decode (am_mb mi) pc = .ok (.getfield idx, len)) (hl : len = am_len (.getfield idx) len) (hs : am_step mi (.getfield idx) pc lo st h = some (.inl (pc', lo', st', h'))) (hR : h'.2.2.2.2.1 ≤ n0 + R.cells ∧ h'.2.2.2.2.2 ≤ m0 + R.slots) (k : am_K b tU base Lx xs D cT n0 m0 p l e R s m args below meth c Q mi pc' lo' st' h') : W p l e R s m args below meth c H locs cells slots Q (F0 m pc ls (st.map (am_cv (am_ad b tU base)))) := by
  obtain ⟨hx, hb, hml, hown, hts, hr, hlk, hin, hrk, hlr⟩ := F
  obtain ⟨hP, hS, hsz, hL, hwf, hce, hsl⟩ := id B
  obtain rfl : len = 3 := hl
  obtain ⟨a, r, e9, hs2⟩ := am_ref1_some hs
  clear hs
  subst e9
  have hs := hs2
  clear hs2
  cases hq : am_FT.lookup (idx * 16 + am_own mi) with
  | none => rw [hq] at hs; cases hs
  | some q =>
    obtain ⟨ci, kf⟩ := q
    rw [hq] at hs
    obtain ⟨hk, hs⟩ := am_if_some hs
    obtain ⟨hci, hkf, hlink⟩ := am_f_word hq
    obtain ⟨o1, o2, o3, o4, o5, o6, o7⟩ := am_kOK_all ci hci
    have h3 := am_ge3 hwf (a := a) (by omega) (by omega)
    have hat := (am_at (b := b) (tU := tU) (base := base) (cT := cT) hwf h3 (by omega)).2
    rw [am_el_obj hk hci] at hat
    have key : ∀ (v : Value), am_fv (am_ad b tU base) (am_ty ci kf) h.1 h.2.1 h.2.2.1 a kf = v → W p l e R s m args below meth c H locs cells slots Q (F0 m (pc + 3) ls (v :: r.map (am_cv (am_ad b tU base)))) → W p l e R s m args below meth c H locs cells slots Q (F0 m pc ls (.ref (am_ad b tU base a) :: r.map (am_cv (am_ad b tU base)))) := fun v hv kk =>
      va_get hx hb hts o1 hown Wd.1 hP (a - 3) hat o4 kf hkf (hts _ hlink) (fun x hx9 => by rw [o7 kf hkf] at hx9; exact hx9) (by rw [am_fs_get hkf, hv]) hd kk
    by_cases hI : am_isI (am_ty ci kf) = true
    · rw [if_pos hI] at hs
      obtain ⟨rfl, rfl, rfl, rfl⟩ := am_nx_some hs
      exact key (.int (h.1 a kf)) (by unfold am_fv; rw [if_pos hI]) (k _ _ _ _ _ B)
    · rw [if_neg hI] at hs
      by_cases hJ : am_ty ci kf = .long
      · rw [if_pos hJ] at hs
        obtain ⟨rfl, rfl, rfl, rfl⟩ := am_nx_some hs
        exact key (.long (h.2.1 a kf)) (by unfold am_fv; rw [if_neg hI, if_pos hJ]) (k _ _ _ _ _ B)
      · rw [if_neg hJ] at hs
        obtain ⟨hN, hs⟩ := am_if_some hs
        obtain ⟨rfl, rfl, rfl, rfl⟩ := am_nx_some hs
        exact key (.ref (am_ad b tU base (h.2.2.1 a kf))) (by unfold am_fv am_rf; rw [if_neg hI, if_neg hJ, if_neg hN.2]) (k _ _ _ _ _ B)
theorem am_ok_putfield {idx : Nat} (F : am_Fx p R s m args meth c mi) (Wd : am_Wd b tU base Lx xs D cT s s.heap) (B : am_St b tU base Lx xs D cT n0 m0 s mi h H locs ls lo cells slots) (hd : decode (am_mb mi) pc = .ok (.putfield idx, len)) (hl : len = am_len (.putfield idx) len) (hs : am_step mi (.putfield idx) pc lo st h = some (.inl (pc', lo', st', h'))) (hR : h'.2.2.2.2.1 ≤ n0 + R.cells ∧ h'.2.2.2.2.2 ≤ m0 + R.slots) (k : am_K b tU base Lx xs D cT n0 m0 p l e R s m args below meth c Q mi pc' lo' st' h') : W p l e R s m args below meth c H locs cells slots Q (F0 m pc ls (st.map (am_cv (am_ad b tU base)))) := by
  obtain ⟨hx, hb, hml, hown, hts, hr, hlk, hin, hrk, hlr⟩ := F
  obtain ⟨hP, hS, hsz, hL, hwf, hce, hsl⟩ := id B
  obtain rfl : len = 3 := hl
  simp only [am_step] at hs
  split at hs
  case h_2 => cases hs
  case h_1 v a r =>
  cases hq : am_FT.lookup (idx * 16 + am_own mi) with
  | none => rw [hq] at hs; cases hs
  | some q =>
    obtain ⟨ci, kf⟩ := q
    rw [hq] at hs
    obtain ⟨⟨hk, hfi⟩, hs⟩ := am_if_some hs
    obtain ⟨hci, hkf, hlink⟩ := am_f_word hq
    obtain ⟨o1, o2, o3, o4, o5, o6, o7⟩ := am_kOK_all ci hci
    have h3 := am_ge3 hwf (a := a) (by omega) (by omega)
    have hat := (am_at (b := b) (tU := tU) (base := base) (cT := cT) hwf h3 (by omega)).2
    rw [am_el_obj hk hci] at hat
    have key : ∀ (I : am_I) (L : am_L) (P : am_P) (v : Value), (∀ b, b ≠ a → I b = h.1 b) → (∀ b, b ≠ a → L b = h.2.1 b) → (∀ b, b ≠ a → P b = h.2.2.1 b) → narrow (am_ty ci kf) v = v → fits (am_ty ci kf) v = true → am_fv (am_ad b tU base) (am_ty ci kf) I L P a kf = v → (∀ j, j ≠ kf → am_fv (am_ad b tU base) (am_ty ci j) I L P a j = am_fv (am_ad b tU base) (am_ty ci j) h.1 h.2.1 h.2.2.1 a j) →
        am_K b tU base Lx xs D cT n0 m0 p l e R s m args below meth c Q mi (pc + 3) lo r (I, L, P, h.2.2.2) → W p l e R s m args below meth c H locs cells slots Q (F0 m pc ls (v :: .ref (am_ad b tU base a) :: r.map (am_cv (am_ad b tU base)))) := by
      intro I L P v hI hLo hPo hn hf hv ho kk
      have e1 : (am_wo (am_ad b tU base) cT base h).set (a - 3) (am_ad b tU base a, .inr (ci, (am_fs (am_ad b tU base) ci h a).set kf v)) = am_wo (am_ad b tU base) cT base (I, L, P, h.2.2.2) := by
        rw [← am_chg (b := b) (tU := tU) (base := base) (cT := cT) hwf h3 (by omega) hI hLo hPo, am_el_obj (h := (I, L, P, h.2.2.2)) hk hci, am_fs_set (h' := (I, L, P, h.2.2.2)) hkf hv ho]
      have kk2 : ∀ (H1 : Heap) (locs1 : List Loc), va_P D vwCl ((am_wo (am_ad b tU base) cT base h).set (a - 3) (am_ad b tU base a, .inr (ci, (am_fs (am_ad b tU base) ci h a).set kf v))) H1 → va_D (fun q => base ≤ q) ((am_wo (am_ad b tU base) cT base h).set (a - 3) (am_ad b tU base a, .inr (ci, (am_fs (am_ad b tU base) ci h a).set kf v))) → va_S (fun q => base ≤ q) s.heap H1 locs1 → H1.size = H.size → W p l e R s m args below meth c H1 locs1 cells slots Q (F0 m (pc + 3) ls (r.map (am_cv (am_ad b tU base)))) := by
        intro H1 locs1 q1 q2 q3 q4
        rw [e1] at q1
        exact kk _ _ _ _ _ ⟨q1, q3, q4.trans hsz, hL, am_wf_row hwf h3 hI, hce, hsl⟩
      by_cases hfin : ((am_T ci) kf).2.2.2 = true
      · exact am_putF hx hb hts o1 (am_ty ci) o3 o2 hown Wd.1 hP am_dis hS (a - 3) hat o4 kf hkf (hts _ hlink) (fun x hx9 => by rw [o7 kf hkf] at hx9; exact hx9) hfin (hin (hfi hfin).1) ((o7 kf hkf).trans (hfi hfin).2) (o3 kf hkf) hn hf (by simp [am_fs]; exact hkf) hd kk2
      · exact am_put hx hb hts o1 (am_ty ci) o3 o2 hown Wd.1 hP am_dis hS (a - 3) hat o4 kf hkf (hts _ hlink) (fun x hx9 => by rw [o7 kf hkf] at hx9; exact hx9) (by simpa using hfin) (o3 kf hkf) hn hf (by simp [am_fs]; exact hkf) hd kk2
    cases v with
    | int x =>
      obtain ⟨⟨hI, hft⟩, hs⟩ := am_if_some hs
      obtain ⟨rfl, rfl, rfl, rfl⟩ := am_nx_some hs
      exact key (am_u h.1 a kf x) h.2.1 h.2.2.1 (.int x) (fun b hb => am_u_ne hb) (fun _ _ => rfl) (fun _ _ => rfl) hft.1 hft.2 (by unfold am_fv; rw [if_pos hI, am_u_eq]; simp) (fun j hj => by unfold am_fv; rw [am_u_eq]; simp [hj]) k
    | long x =>
      obtain ⟨hI, hs⟩ := am_if_some hs
      obtain ⟨rfl, rfl, rfl, rfl⟩ := am_nx_some hs
      exact key h.1 (am_u h.2.1 a kf x) h.2.2.1 (.long x) (fun _ _ => rfl) (fun b hb => am_u_ne hb) (fun _ _ => rfl) (by rw [hI]; rfl) (by rw [hI]; rfl) (by unfold am_fv; rw [hI, if_neg (by decide), if_pos rfl, am_u_eq]; simp) (fun j hj => by unfold am_fv; rw [am_u_eq]; simp [hj]) k
    | ref x =>
      obtain ⟨⟨hI, hx0⟩, hs⟩ := am_if_some hs
      obtain ⟨rfl, rfl, rfl, rfl⟩ := am_nx_some hs
      have hnn : narrow (am_ty ci kf) (.ref (am_ad b tU base x)) = .ref (am_ad b tU base x) ∧ fits (am_ty ci kf) (.ref (am_ad b tU base x)) = true ∧ am_isI (am_ty ci kf) = false ∧ am_ty ci kf ≠ .long := by
        cases ht : am_ty ci kf <;> rw [ht] at hI <;> first | (exact absurd hI (by decide)) | exact ⟨rfl, rfl, rfl, by decide⟩ | exact ⟨rfl, rfl, rfl, fun q => by cases q⟩
      exact key h.1 h.2.1 (am_u h.2.2.1 a kf x) (.ref (am_ad b tU base x)) (fun _ _ => rfl) (fun _ _ => rfl) (fun b hb => am_u_ne hb) hnn.1 hnn.2.1 (by unfold am_fv; rw [hnn.2.2.1, if_neg (by decide), if_neg hnn.2.2.2, am_u_eq]; simp [am_rf, hx0]) (fun j hj => by unfold am_fv; rw [am_u_eq]; simp [hj]) k
    | _ => exact absurd hs (by simp)
theorem am_ok_getstatic {idx : Nat} (F : am_Fx p R s m args meth c mi) (Wd : am_Wd b tU base Lx xs D cT s s.heap) (B : am_St b tU base Lx xs D cT n0 m0 s mi h H locs ls lo cells slots) (hd : decode (am_mb mi) pc = .ok (.getstatic idx, len)) (hl : len = am_len (.getstatic idx) len) (hs : am_step mi (.getstatic idx) pc lo st h = some (.inl (pc', lo', st', h'))) (hR : h'.2.2.2.2.1 ≤ n0 + R.cells ∧ h'.2.2.2.2.2 ≤ m0 + R.slots) (k : am_K b tU base Lx xs D cT n0 m0 p l e R s m args below meth c Q mi pc' lo' st' h') : W p l e R s m args below meth c H locs cells slots Q (F0 m pc ls (st.map (am_cv (am_ad b tU base)))) := by
  obtain ⟨hx, hb, hml, hown, hts, hr, hlk, hin, hrk, hlr⟩ := F
  obtain ⟨hP, hS, hsz, hL, hwf, hce, hsl⟩ := id B
  obtain rfl : len = 3 := hl
  obtain ⟨hq, hs⟩ := am_if_some hs
  obtain ⟨rfl, rfl, rfl, rfl⟩ := am_nx_some hs
  have e1 : am_own mi = am_UN.1 := congrArg Prod.fst hq
  have e2 : idx = am_UN.2 := congrArg Prod.snd hq
  exact va_gets hx hb Wd.2.1 hS hown (ref := "MindsByTen$Ways") (by rw [e1, e2]; exact hts _ am_unit_link) (fun x hx9 => hx9) hd (k _ _ _ _ _ B)
theorem am_ok_caload  (F : am_Fx p R s m args meth c mi) (Wd : am_Wd b tU base Lx xs D cT s s.heap) (B : am_St b tU base Lx xs D cT n0 m0 s mi h H locs ls lo cells slots) (hd : decode (am_mb mi) pc = .ok (.caload, len)) (hl : len = am_len (.caload) len) (hs : am_step mi (.caload) pc lo st h = some (.inl (pc', lo', st', h'))) (hR : h'.2.2.2.2.1 ≤ n0 + R.cells ∧ h'.2.2.2.2.2 ≤ m0 + R.slots) (k : am_K b tU base Lx xs D cT n0 m0 p l e R s m args below meth c Q mi pc' lo' st' h') : W p l e R s m args below meth c H locs cells slots Q (F0 m pc ls (st.map (am_cv (am_ad b tU base)))) := by
  obtain ⟨hx, hb, hml, hown, hts, hr, hlk, hin, hrk, hlr⟩ := F
  obtain ⟨hP, hS, hsz, hL, hwf, hce, hsl⟩ := id B
  obtain rfl : len = 1 := hl
  obtain ⟨a, i, r, e9, hs2⟩ := am_ari_some hs
  clear hs
  subst e9
  have hs := hs2
  clear hs2
  obtain ⟨⟨hk, hi⟩, hs⟩ := am_if_some hs
  obtain ⟨rfl, rfl, rfl, rfl⟩ := am_nx_some hs
  have h3 := am_ge3 hwf (a := a) (by omega) (by omega)
  have hat := (am_at (b := b) (tU := tU) (base := base) (cT := cT) hwf h3 (by omega)).2
  rw [am_el_c hk] at hat
  exact va_cald hx hb Wd.1 hP (a - 3) 2 hat rfl hi hd (k _ _ _ _ _ B)
theorem am_ok_baload  (F : am_Fx p R s m args meth c mi) (Wd : am_Wd b tU base Lx xs D cT s s.heap) (B : am_St b tU base Lx xs D cT n0 m0 s mi h H locs ls lo cells slots) (hd : decode (am_mb mi) pc = .ok (.baload, len)) (hl : len = am_len (.baload) len) (hs : am_step mi (.baload) pc lo st h = some (.inl (pc', lo', st', h'))) (hR : h'.2.2.2.2.1 ≤ n0 + R.cells ∧ h'.2.2.2.2.2 ≤ m0 + R.slots) (k : am_K b tU base Lx xs D cT n0 m0 p l e R s m args below meth c Q mi pc' lo' st' h') : W p l e R s m args below meth c H locs cells slots Q (F0 m pc ls (st.map (am_cv (am_ad b tU base)))) := by
  obtain ⟨hx, hb, hml, hown, hts, hr, hlk, hin, hrk, hlr⟩ := F
  obtain ⟨hP, hS, hsz, hL, hwf, hce, hsl⟩ := id B
  obtain rfl : len = 1 := hl
  obtain ⟨a, i, r, e9, hs2⟩ := am_ari_some hs
  clear hs
  subst e9
  have hs := hs2
  clear hs2
  obtain ⟨⟨hk, hi⟩, hs⟩ := am_if_some hs
  obtain ⟨rfl, rfl, rfl, rfl⟩ := am_nx_some hs
  have h3 := am_ge3 hwf (a := a) (by omega) (by omega)
  have hat := (am_at (b := b) (tU := tU) (base := base) (cT := cT) hwf h3 (by omega)).2
  rw [am_el_z hk] at hat
  exact va_zald hx hb Wd.1 hP (a - 3) 3 hat rfl hi hd (k _ _ _ _ _ B)
theorem am_ok_laload  (F : am_Fx p R s m args meth c mi) (Wd : am_Wd b tU base Lx xs D cT s s.heap) (B : am_St b tU base Lx xs D cT n0 m0 s mi h H locs ls lo cells slots) (hd : decode (am_mb mi) pc = .ok (.laload, len)) (hl : len = am_len (.laload) len) (hs : am_step mi (.laload) pc lo st h = some (.inl (pc', lo', st', h'))) (hR : h'.2.2.2.2.1 ≤ n0 + R.cells ∧ h'.2.2.2.2.2 ≤ m0 + R.slots) (k : am_K b tU base Lx xs D cT n0 m0 p l e R s m args below meth c Q mi pc' lo' st' h') : W p l e R s m args below meth c H locs cells slots Q (F0 m pc ls (st.map (am_cv (am_ad b tU base)))) := by
  obtain ⟨hx, hb, hml, hown, hts, hr, hlk, hin, hrk, hlr⟩ := F
  obtain ⟨hP, hS, hsz, hL, hwf, hce, hsl⟩ := id B
  obtain rfl : len = 1 := hl
  obtain ⟨a, i, r, e9, hs2⟩ := am_ari_some hs
  clear hs
  subst e9
  have hs := hs2
  clear hs2
  obtain ⟨⟨hk, hi⟩, hs⟩ := am_if_some hs
  obtain ⟨rfl, rfl, rfl, rfl⟩ := am_nx_some hs
  have h3 := am_ge3 hwf (a := a) (by omega) (by omega)
  have hat := (am_at (b := b) (tU := tU) (base := base) (cT := cT) hwf h3 (by omega)).2
  rw [am_el_l hk] at hat
  exact va_lald hx hb Wd.1 hP (a - 3) 1 hat rfl hi hd (k _ _ _ _ _ B)
theorem am_ok_iaload  (F : am_Fx p R s m args meth c mi) (Wd : am_Wd b tU base Lx xs D cT s s.heap) (B : am_St b tU base Lx xs D cT n0 m0 s mi h H locs ls lo cells slots) (hd : decode (am_mb mi) pc = .ok (.iaload, len)) (hl : len = am_len (.iaload) len) (hs : am_step mi (.iaload) pc lo st h = some (.inl (pc', lo', st', h'))) (hR : h'.2.2.2.2.1 ≤ n0 + R.cells ∧ h'.2.2.2.2.2 ≤ m0 + R.slots) (k : am_K b tU base Lx xs D cT n0 m0 p l e R s m args below meth c Q mi pc' lo' st' h') : W p l e R s m args below meth c H locs cells slots Q (F0 m pc ls (st.map (am_cv (am_ad b tU base)))) := by
  obtain ⟨hx, hb, hml, hown, hts, hr, hlk, hin, hrk, hlr⟩ := F
  obtain ⟨hP, hS, hsz, hL, hwf, hce, hsl⟩ := id B
  obtain rfl : len = 1 := hl
  obtain ⟨a, i, r, e9, hs2⟩ := am_ari_some hs
  clear hs
  subst e9
  have hs := hs2
  clear hs2
  obtain ⟨⟨hk, hi⟩, hs⟩ := am_if_some hs
  obtain ⟨rfl, rfl, rfl, rfl⟩ := am_nx_some hs
  have hlt : i.toNatClampNeg < (h.2.2.2.1 a).2 := Nat.not_le.mp fun q => hi (Or.inr q)
  match a, hk, hi, hlt, k with
  | 0, hk, hi, hlt, k => rw [hwf.2.1] at hk; cases hk
  | 1, hk, hi, hlt, k =>
    rw [hwf.2.2.1] at hi hlt
    have e9 : h.1 1 i.toNatClampNeg = xs i.toNatClampNeg := hwf.2.2.2.2.1 _ hlt
    have kk := k _ _ _ _ _ B
    rw [e9] at kk
    exact va_sld (A := fun q => base ≤ q) hx hb Wd.2.2.2.1 (Nat.lt_of_lt_of_le Wd.2.2.2.2.1 Wd.2.2.2.2.2.1) (Nat.not_le.mpr Wd.2.2.2.2.1) hS hi hd kk
  | 2, hk, hi, hlt, k =>
    rw [hwf.2.2.2.1] at hi hlt
    have e9 : h.1 2 i.toNatClampNeg = am_unit i.toNatClampNeg := hwf.2.2.2.2.2 _ hlt
    have kk := k _ _ _ _ _ B
    rw [e9] at kk
    exact va_ti hx hb Wd.2.2.1 hS hi rfl hd kk
  | a + 3, hk, hi, hlt, k =>
    have hat := (am_at (b := b) (tU := tU) (base := base) (cT := cT) hwf (a := a + 3) (by omega) (by omega)).2
    rw [am_el_i hk] at hat
    exact va_iald hx hb Wd.1 hP (a + 3 - 3) 0 hat rfl hi hd (k _ _ _ _ _ B)
theorem am_ok_aaload  (F : am_Fx p R s m args meth c mi) (Wd : am_Wd b tU base Lx xs D cT s s.heap) (B : am_St b tU base Lx xs D cT n0 m0 s mi h H locs ls lo cells slots) (hd : decode (am_mb mi) pc = .ok (.aaload, len)) (hl : len = am_len (.aaload) len) (hs : am_step mi (.aaload) pc lo st h = some (.inl (pc', lo', st', h'))) (hR : h'.2.2.2.2.1 ≤ n0 + R.cells ∧ h'.2.2.2.2.2 ≤ m0 + R.slots) (k : am_K b tU base Lx xs D cT n0 m0 p l e R s m args below meth c Q mi pc' lo' st' h') : W p l e R s m args below meth c H locs cells slots Q (F0 m pc ls (st.map (am_cv (am_ad b tU base)))) := by
  obtain ⟨hx, hb, hml, hown, hts, hr, hlk, hin, hrk, hlr⟩ := F
  obtain ⟨hP, hS, hsz, hL, hwf, hce, hsl⟩ := id B
  obtain rfl : len = 1 := hl
  obtain ⟨a, i, r, e9, hs2⟩ := am_ari_some hs
  clear hs
  subst e9
  have hs := hs2
  clear hs2
  obtain ⟨⟨hk, hi, hne⟩, hs⟩ := am_if_some hs
  obtain ⟨rfl, rfl, rfl, rfl⟩ := am_nx_some hs
  have h3 := am_ge3 hwf (a := a) (by omega) (by omega)
  have hat := (am_at (b := b) (tU := tU) (base := base) (cT := cT) hwf h3 (by omega)).2
  rw [am_el_q hk] at hat
  refine va_aldq hx hb Wd.1 hP (a - 3) 4 hat rfl hi hd ?_
  rw [if_neg hne]
  exact k _ _ _ _ _ B
theorem am_ok_iastore  (F : am_Fx p R s m args meth c mi) (Wd : am_Wd b tU base Lx xs D cT s s.heap) (B : am_St b tU base Lx xs D cT n0 m0 s mi h H locs ls lo cells slots) (hd : decode (am_mb mi) pc = .ok (.iastore, len)) (hl : len = am_len (.iastore) len) (hs : am_step mi (.iastore) pc lo st h = some (.inl (pc', lo', st', h'))) (hR : h'.2.2.2.2.1 ≤ n0 + R.cells ∧ h'.2.2.2.2.2 ≤ m0 + R.slots) (k : am_K b tU base Lx xs D cT n0 m0 p l e R s m args below meth c Q mi pc' lo' st' h') : W p l e R s m args below meth c H locs cells slots Q (F0 m pc ls (st.map (am_cv (am_ad b tU base)))) := by
  obtain ⟨hx, hb, hml, hown, hts, hr, hlk, hin, hrk, hlr⟩ := F
  obtain ⟨hP, hS, hsz, hL, hwf, hce, hsl⟩ := id B
  obtain rfl : len = 1 := hl
  obtain ⟨a, i, v, r, e9, hs2⟩ := am_arv_some hs
  clear hs
  subst e9
  have hs := hs2
  clear hs2
  cases v with
  | int x =>
    obtain ⟨hc, hs⟩ := am_if_some hs
    obtain ⟨rfl, rfl, rfl, rfl⟩ := am_nx_some hs
    have hk := hc.1
    have h3 : 3 ≤ a := hc.2.2
    have hat := (am_at (b := b) (tU := tU) (base := base) (cT := cT) hwf h3 (by omega)).2
    rw [am_el_i hk] at hat
    refine am_iast2 hx hb Wd.1 hP am_dis hS (a - 3) 0 hat rfl hc.2.1 hd (fun H1 locs1 q1 q2 q3 q4 => ?_)
    refine k _ _ _ _ _ ⟨?_, q3, q4.trans hsz, hL, am_wf_row hwf h3 (fun b hb => am_u_ne hb), hce, hsl⟩
    rw [← am_chg (b := b) (tU := tU) (base := base) (cT := cT) (I := am_u h.1 a i.toNatClampNeg x) (L := h.2.1) (P := h.2.2.1) hwf h3 (by omega) (fun b hb => am_u_ne hb) (fun _ _ => rfl) (fun _ _ => rfl), am_el_i (h := (am_u h.1 a i.toNatClampNeg x, h.2)) hk]
    dsimp only
    rw [am_u_eq]
    exact q1
  | _ => exact absurd hs (by simp)
theorem am_ok_castore  (F : am_Fx p R s m args meth c mi) (Wd : am_Wd b tU base Lx xs D cT s s.heap) (B : am_St b tU base Lx xs D cT n0 m0 s mi h H locs ls lo cells slots) (hd : decode (am_mb mi) pc = .ok (.castore, len)) (hl : len = am_len (.castore) len) (hs : am_step mi (.castore) pc lo st h = some (.inl (pc', lo', st', h'))) (hR : h'.2.2.2.2.1 ≤ n0 + R.cells ∧ h'.2.2.2.2.2 ≤ m0 + R.slots) (k : am_K b tU base Lx xs D cT n0 m0 p l e R s m args below meth c Q mi pc' lo' st' h') : W p l e R s m args below meth c H locs cells slots Q (F0 m pc ls (st.map (am_cv (am_ad b tU base)))) := by
  obtain ⟨hx, hb, hml, hown, hts, hr, hlk, hin, hrk, hlr⟩ := F
  obtain ⟨hP, hS, hsz, hL, hwf, hce, hsl⟩ := id B
  obtain rfl : len = 1 := hl
  obtain ⟨a, i, v, r, e9, hs2⟩ := am_arv_some hs
  clear hs
  subst e9
  have hs := hs2
  clear hs2
  cases v with
  | int x =>
    obtain ⟨hc, hs⟩ := am_if_some hs
    obtain ⟨rfl, rfl, rfl, rfl⟩ := am_nx_some hs
    have hk := hc.1
    have h3 : 3 ≤ a := am_ge3 hwf (a := a) (by omega) (by omega)
    have hat := (am_at (b := b) (tU := tU) (base := base) (cT := cT) hwf h3 (by omega)).2
    rw [am_el_c hk] at hat
    refine am_cast2 hx hb Wd.1 hP am_dis hS (a - 3) 2 hat rfl hc.2 hd (fun H1 locs1 q1 q2 q3 q4 => ?_)
    refine k _ _ _ _ _ ⟨?_, q3, q4.trans hsz, hL, am_wf_row hwf h3 (fun b hb => am_u_ne hb), hce, hsl⟩
    rw [← am_chg (b := b) (tU := tU) (base := base) (cT := cT) (I := am_u h.1 a i.toNatClampNeg (vp_nar .char x)) (L := h.2.1) (P := h.2.2.1) hwf h3 (by omega) (fun b hb => am_u_ne hb) (fun _ _ => rfl) (fun _ _ => rfl), am_el_c (h := (am_u h.1 a i.toNatClampNeg (vp_nar .char x), h.2)) hk]
    dsimp only
    rw [am_u_eq]
    exact q1
  | _ => exact absurd hs (by simp)
theorem am_ok_bastore  (F : am_Fx p R s m args meth c mi) (Wd : am_Wd b tU base Lx xs D cT s s.heap) (B : am_St b tU base Lx xs D cT n0 m0 s mi h H locs ls lo cells slots) (hd : decode (am_mb mi) pc = .ok (.bastore, len)) (hl : len = am_len (.bastore) len) (hs : am_step mi (.bastore) pc lo st h = some (.inl (pc', lo', st', h'))) (hR : h'.2.2.2.2.1 ≤ n0 + R.cells ∧ h'.2.2.2.2.2 ≤ m0 + R.slots) (k : am_K b tU base Lx xs D cT n0 m0 p l e R s m args below meth c Q mi pc' lo' st' h') : W p l e R s m args below meth c H locs cells slots Q (F0 m pc ls (st.map (am_cv (am_ad b tU base)))) := by
  obtain ⟨hx, hb, hml, hown, hts, hr, hlk, hin, hrk, hlr⟩ := F
  obtain ⟨hP, hS, hsz, hL, hwf, hce, hsl⟩ := id B
  obtain rfl : len = 1 := hl
  obtain ⟨a, i, v, r, e9, hs2⟩ := am_arv_some hs
  clear hs
  subst e9
  have hs := hs2
  clear hs2
  cases v with
  | int x =>
    obtain ⟨hc, hs⟩ := am_if_some hs
    obtain ⟨rfl, rfl, rfl, rfl⟩ := am_nx_some hs
    have hk := hc.1
    have h3 : 3 ≤ a := am_ge3 hwf (a := a) (by omega) (by omega)
    have hat := (am_at (b := b) (tU := tU) (base := base) (cT := cT) hwf h3 (by omega)).2
    rw [am_el_z hk] at hat
    refine am_zast2 hx hb Wd.1 hP am_dis hS (a - 3) 3 hat rfl hc.2 hd (fun H1 locs1 q1 q2 q3 q4 => ?_)
    refine k _ _ _ _ _ ⟨?_, q3, q4.trans hsz, hL, am_wf_row hwf h3 (fun b hb => am_u_ne hb), hce, hsl⟩
    rw [← am_chg (b := b) (tU := tU) (base := base) (cT := cT) (I := am_u h.1 a i.toNatClampNeg (vp_nar .boolean x)) (L := h.2.1) (P := h.2.2.1) hwf h3 (by omega) (fun b hb => am_u_ne hb) (fun _ _ => rfl) (fun _ _ => rfl), am_el_z (h := (am_u h.1 a i.toNatClampNeg (vp_nar .boolean x), h.2)) hk]
    dsimp only
    rw [am_u_eq]
    exact q1
  | _ => exact absurd hs (by simp)
theorem am_ok_lastore  (F : am_Fx p R s m args meth c mi) (Wd : am_Wd b tU base Lx xs D cT s s.heap) (B : am_St b tU base Lx xs D cT n0 m0 s mi h H locs ls lo cells slots) (hd : decode (am_mb mi) pc = .ok (.lastore, len)) (hl : len = am_len (.lastore) len) (hs : am_step mi (.lastore) pc lo st h = some (.inl (pc', lo', st', h'))) (hR : h'.2.2.2.2.1 ≤ n0 + R.cells ∧ h'.2.2.2.2.2 ≤ m0 + R.slots) (k : am_K b tU base Lx xs D cT n0 m0 p l e R s m args below meth c Q mi pc' lo' st' h') : W p l e R s m args below meth c H locs cells slots Q (F0 m pc ls (st.map (am_cv (am_ad b tU base)))) := by
  obtain ⟨hx, hb, hml, hown, hts, hr, hlk, hin, hrk, hlr⟩ := F
  obtain ⟨hP, hS, hsz, hL, hwf, hce, hsl⟩ := id B
  obtain rfl : len = 1 := hl
  obtain ⟨a, i, v, r, e9, hs2⟩ := am_arv_some hs
  clear hs
  subst e9
  have hs := hs2
  clear hs2
  cases v with
  | long x =>
    obtain ⟨hc, hs⟩ := am_if_some hs
    obtain ⟨rfl, rfl, rfl, rfl⟩ := am_nx_some hs
    have hk := hc.1
    have h3 : 3 ≤ a := am_ge3 hwf (a := a) (by omega) (by omega)
    have hat := (am_at (b := b) (tU := tU) (base := base) (cT := cT) hwf h3 (by omega)).2
    rw [am_el_l hk] at hat
    refine am_last2 hx hb Wd.1 hP am_dis hS (a - 3) 1 hat rfl hc.2 hd (fun H1 locs1 q1 q2 q3 q4 => ?_)
    refine k _ _ _ _ _ ⟨?_, q3, q4.trans hsz, hL, am_wf_row hwf h3 (fun _ _ => rfl), hce, hsl⟩
    rw [← am_chg (b := b) (tU := tU) (base := base) (cT := cT) (I := h.1) (L := am_u h.2.1 a i.toNatClampNeg x) (P := h.2.2.1) hwf h3 (by omega) (fun _ _ => rfl) (fun b hb => am_u_ne hb) (fun _ _ => rfl), am_el_l (h := (h.1, am_u h.2.1 a i.toNatClampNeg x, h.2.2)) hk]
    dsimp only
    rw [am_u_eq]
    exact q1
  | _ => exact absurd hs (by simp)
theorem am_ok_aastore  (F : am_Fx p R s m args meth c mi) (Wd : am_Wd b tU base Lx xs D cT s s.heap) (B : am_St b tU base Lx xs D cT n0 m0 s mi h H locs ls lo cells slots) (hd : decode (am_mb mi) pc = .ok (.aastore, len)) (hl : len = am_len (.aastore) len) (hs : am_step mi (.aastore) pc lo st h = some (.inl (pc', lo', st', h'))) (hR : h'.2.2.2.2.1 ≤ n0 + R.cells ∧ h'.2.2.2.2.2 ≤ m0 + R.slots) (k : am_K b tU base Lx xs D cT n0 m0 p l e R s m args below meth c Q mi pc' lo' st' h') : W p l e R s m args below meth c H locs cells slots Q (F0 m pc ls (st.map (am_cv (am_ad b tU base)))) := by
  obtain ⟨hx, hb, hml, hown, hts, hr, hlk, hin, hrk, hlr⟩ := F
  obtain ⟨hP, hS, hsz, hL, hwf, hce, hsl⟩ := id B
  obtain rfl : len = 1 := hl
  obtain ⟨a, i, v, r, e9, hs2⟩ := am_arv_some hs
  clear hs
  subst e9
  have hs := hs2
  clear hs2
  cases v with
  | ref x =>
    obtain ⟨⟨hk, hi, hx4⟩, hs⟩ := am_if_some hs
    obtain ⟨rfl, rfl, rfl, rfl⟩ := am_nx_some hs
    have h3 : 3 ≤ a := am_ge3 hwf (a := a) (by omega) (by omega)
    have hx3 : 3 ≤ x := am_ge3 hwf (a := x) (by omega) (by omega)
    have hat := (am_at (b := b) (tU := tU) (base := base) (cT := cT) hwf h3 (by omega)).2
    rw [am_el_q hk] at hat
    have hax := (am_at (b := b) (tU := tU) (base := base) (cT := cT) hwf hx3 (by omega)).2
    rw [am_el_obj (ci := 3) hx4 (by omega)] at hax
    refine am_astq2 hx hb Wd.1 hP am_dis hS (a - 3) 4 (x - 3) 3 (r := (RX3, TX3, 4)) hat rfl hax rfl hi hd (fun H1 locs1 q1 q2 q3 q4 => ?_)
    refine k _ _ _ _ _ ⟨?_, q3, q4.trans hsz, hL, am_wf_row hwf h3 (fun _ _ => rfl), hce, hsl⟩
    rw [← am_chg (b := b) (tU := tU) (base := base) (cT := cT) (I := h.1) (L := h.2.1) (P := am_u h.2.2.1 a i.toNatClampNeg x) hwf h3 (by omega) (fun _ _ => rfl) (fun _ _ => rfl) (fun b hb => am_u_ne hb), am_el_q (h := (h.1, h.2.1, am_u h.2.2.1 a i.toNatClampNeg x, h.2.2.2)) hk]
    have e9 : (fun j => if am_u h.2.2.1 a i.toNatClampNeg x a j = 0 then none else some (am_ad b tU base (am_u h.2.2.1 a i.toNatClampNeg x a j))) = va_up (fun j => if h.2.2.1 a j = 0 then none else some (am_ad b tU base (h.2.2.1 a j))) i.toNatClampNeg (some (am_ad b tU base x)) := by
      funext j
      rw [am_u_eq]
      by_cases hj : j = i.toNatClampNeg
      · have hx0 : x ≠ 0 := fun q => absurd (q ▸ hx3) (by decide)
        simp [va_up, hj, hx0]
      · simp [va_up, hj]
    dsimp only at e9 ⊢
    rw [e9]
    exact q1
  | _ => exact absurd hs (by simp)
theorem am_ok_arraylength  (F : am_Fx p R s m args meth c mi) (Wd : am_Wd b tU base Lx xs D cT s s.heap) (B : am_St b tU base Lx xs D cT n0 m0 s mi h H locs ls lo cells slots) (hd : decode (am_mb mi) pc = .ok (.arraylength, len)) (hl : len = am_len (.arraylength) len) (hs : am_step mi (.arraylength) pc lo st h = some (.inl (pc', lo', st', h'))) (hR : h'.2.2.2.2.1 ≤ n0 + R.cells ∧ h'.2.2.2.2.2 ≤ m0 + R.slots) (k : am_K b tU base Lx xs D cT n0 m0 p l e R s m args below meth c Q mi pc' lo' st' h') : W p l e R s m args below meth c H locs cells slots Q (F0 m pc ls (st.map (am_cv (am_ad b tU base)))) := by
  obtain ⟨hx, hb, hml, hown, hts, hr, hlk, hin, hrk, hlr⟩ := F
  obtain ⟨hP, hS, hsz, hL, hwf, hce, hsl⟩ := id B
  obtain rfl : len = 1 := hl
  obtain ⟨a, r, e9, hs2⟩ := am_ref1_some hs
  clear hs
  subst e9
  have hs := hs2
  clear hs2
  obtain ⟨⟨hk, hk2, h2⟩, hs⟩ := am_if_some hs
  obtain ⟨rfl, rfl, rfl, rfl⟩ := am_nx_some hs
  by_cases h1 : a = 1
  · subst h1
    have kk := k _ _ _ _ _ B
    rw [hwf.2.2.1] at kk
    exact va_slen (A := fun q => base ≤ q) hx hb Wd.2.2.2.1 (Nat.lt_of_lt_of_le Wd.2.2.2.2.1 Wd.2.2.2.2.2.1) (Nat.not_le.mpr Wd.2.2.2.2.1) hS hd kk
  · have h3 : 3 ≤ a := by
      have h0 : a ≠ 0 := fun q => absurd hk (by rw [q, hwf.2.1]; decide)
      match a, h0, h1, h2 with
      | 0, h0, _, _ => exact absurd rfl h0
      | 1, _, h1, _ => exact absurd rfl h1
      | 2, _, _, h2 => exact absurd rfl h2
      | a + 3, _, _, _ => exact Nat.le_add_left 3 a
    have hat := (am_at (b := b) (tU := tU) (base := base) (cT := cT) hwf h3 (by omega)).2
    have hcs : (h.2.2.2.1 a).1 = 20 ∨ (h.2.2.2.1 a).1 = 21 ∨ (h.2.2.2.1 a).1 = 22 ∨ (h.2.2.2.1 a).1 = 23 ∨ (h.2.2.2.1 a).1 = 24 := by omega
    rcases hcs with q | q | q | q | q
    · rw [am_el_i q] at hat; exact va_alen hx hb Wd.1 hP (a - 3) 0 hat rfl rfl hd (k _ _ _ _ _ B)
    · rw [am_el_l q] at hat; exact va_alen hx hb Wd.1 hP (a - 3) 1 hat rfl rfl hd (k _ _ _ _ _ B)
    · rw [am_el_c q] at hat; exact va_alen hx hb Wd.1 hP (a - 3) 2 hat rfl rfl hd (k _ _ _ _ _ B)
    · rw [am_el_z q] at hat; exact va_alen hx hb Wd.1 hP (a - 3) 3 hat rfl rfl hd (k _ _ _ _ _ B)
    · rw [am_el_q q] at hat; exact va_alen hx hb Wd.1 hP (a - 3) 4 hat rfl rfl hd (k _ _ _ _ _ B)
theorem am_ok_newarray {t : ArrayType} (F : am_Fx p R s m args meth c mi) (Wd : am_Wd b tU base Lx xs D cT s s.heap) (B : am_St b tU base Lx xs D cT n0 m0 s mi h H locs ls lo cells slots) (hd : decode (am_mb mi) pc = .ok (.newarray t, len)) (hl : len = am_len (.newarray t) len) (hs : am_step mi (.newarray t) pc lo st h = some (.inl (pc', lo', st', h'))) (hR : h'.2.2.2.2.1 ≤ n0 + R.cells ∧ h'.2.2.2.2.2 ≤ m0 + R.slots) (k : am_K b tU base Lx xs D cT n0 m0 p l e R s m args below meth c Q mi pc' lo' st' h') : W p l e R s m args below meth c H locs cells slots Q (F0 m pc ls (st.map (am_cv (am_ad b tU base)))) := by
  obtain ⟨hx, hb, hml, hown, hts, hr, hlk, hin, hrk, hlr⟩ := F
  obtain ⟨hP, hS, hsz, hL, hwf, hce, hsl⟩ := id B
  obtain rfl : len = 2 := hl
  obtain ⟨n, r, e9, hs2⟩ := am_int1_some hs
  clear hs
  subst e9
  have hs := hs2
  clear hs2
  obtain ⟨⟨hn, hn2, ht⟩, hs⟩ := am_if_some hs
  obtain ⟨rfl, rfl, rfl, rfl⟩ := am_nx_some hs
  have hR1 : h.2.2.2.2.1 + 1 ≤ n0 + R.cells := hR.1
  have hR2 : h.2.2.2.2.2 + n.toNatClampNeg ≤ m0 + R.slots := hR.2
  have harr : Cond.arrayClass (newarray.typeOf t) ∈ am_W ∧ componentBytes (newarray.typeOf t) ≤ 8 ∧ ∃ t0, (am_tys cT)[t0]? = some (cT t0, newarray.typeOf t) ∧ am_akind t = 20 + t0 ∧ t0 < 4 := by
    cases t <;> first | exact absurd rfl ht | exact ⟨am_arr_int, by decide, 0, rfl, rfl, by decide⟩ | exact ⟨am_arr_long, by decide, 1, rfl, rfl, by decide⟩ | exact ⟨am_arr_char, by decide, 2, rfl, rfl, by decide⟩ | exact ⟨am_arr_boolean, by decide, 3, rfl, rfl, by decide⟩
  obtain ⟨hw, hcb, t0, hty, hak, ht4⟩ := harr
  refine va_newaK hx hb (hts _ hw) rfl hd rfl hn rfl (Nat.le_trans (Nat.mul_le_mul hn2 hcb) (by omega)) (by omega) (by omega) hsz fun H1 cA e1 z1 o1 hAr hNm => ?_
  have hcA : cA = cT t0 := by
    have h9 := (Wd.1.2 t0 _ hty).2
    cases t <;> first | exact absurd rfl ht | exact Option.some.inj (hNm.symm.trans h9)
  subst hcA
  have hnk : (fun b9 => if b9 = h.2.2.2.2.1 + 3 then (am_akind t, n.toNatClampNeg) else h.2.2.2.1 b9) (h.2.2.2.2.1 + 3) = (am_akind t, n.toNatClampNeg) := if_pos rfl
  refine k H1 locs ls _ _ (am_born_St (kind := am_akind t) (len := n.toNatClampNeg) (sz := n.toNatClampNeg) B ?_ z1 o1)
  show va_at D vwCl (base + h.2.2.2.2.1, am_el (am_ad b tU base) cT (am_al (am_akind t) n.toNatClampNeg n.toNatClampNeg h) (h.2.2.2.2.1 + 3)) H1
  have hk9 : ((am_al (am_akind t) n.toNatClampNeg n.toNatClampNeg h).2.2.2.1 (h.2.2.2.2.1 + 3)) = (am_akind t, n.toNatClampNeg) := hnk
  cases t <;> first | exact absurd rfl ht | skip
  · rw [am_el_z (by rw [hk9]; rfl), hk9]
    obtain rfl : t0 = 3 := by simp [am_akind] at hak; omega
    show H1[base + h.2.2.2.2.1]? = some (vp_cell _ _)
    rw [vp_cell_i, e1]; simp [am_al, am_row_eq, newarray.typeOf, defaultValue]
  · rw [am_el_c (by rw [hk9]; rfl), hk9]
    obtain rfl : t0 = 2 := by simp [am_akind] at hak; omega
    show H1[base + h.2.2.2.2.1]? = some (vp_cell _ _)
    rw [vp_cell_i, e1]; simp [am_al, am_row_eq, newarray.typeOf, defaultValue]
  · rw [am_el_i (by rw [hk9]; rfl), hk9]
    obtain rfl : t0 = 0 := by simp [am_akind] at hak; omega
    show H1[base + h.2.2.2.2.1]? = some (vp_cell _ _)
    rw [vp_cell_i, e1]; simp [am_al, am_row_eq, newarray.typeOf, defaultValue]
  · rw [am_el_l (by rw [hk9]; rfl), hk9]
    obtain rfl : t0 = 1 := by simp [am_akind] at hak; omega
    show H1[base + h.2.2.2.2.1]? = some (vp_cell _ _)
    rw [vp_cell_l, e1]; simp [am_al, am_row_eq, newarray.typeOf, defaultValue]
theorem am_ok_anewarray {idx : Nat} (F : am_Fx p R s m args meth c mi) (Wd : am_Wd b tU base Lx xs D cT s s.heap) (B : am_St b tU base Lx xs D cT n0 m0 s mi h H locs ls lo cells slots) (hd : decode (am_mb mi) pc = .ok (.anewarray idx, len)) (hl : len = am_len (.anewarray idx) len) (hs : am_step mi (.anewarray idx) pc lo st h = some (.inl (pc', lo', st', h'))) (hR : h'.2.2.2.2.1 ≤ n0 + R.cells ∧ h'.2.2.2.2.2 ≤ m0 + R.slots) (k : am_K b tU base Lx xs D cT n0 m0 p l e R s m args below meth c Q mi pc' lo' st' h') : W p l e R s m args below meth c H locs cells slots Q (F0 m pc ls (st.map (am_cv (am_ad b tU base)))) := by
  obtain ⟨hx, hb, hml, hown, hts, hr, hlk, hin, hrk, hlr⟩ := F
  obtain ⟨hP, hS, hsz, hL, hwf, hce, hsl⟩ := id B
  obtain rfl : len = 3 := hl
  obtain ⟨n, r, e9, hs2⟩ := am_int1_some hs
  clear hs
  subst e9
  have hs := hs2
  clear hs2
  obtain ⟨⟨hn, hn2, ht⟩, hs⟩ := am_if_some hs
  obtain ⟨rfl, rfl, rfl, rfl⟩ := am_nx_some hs
  have hR1 : h.2.2.2.2.1 + 1 ≤ n0 + R.cells := hR.1
  have hR2 : h.2.2.2.2.2 + n.toNatClampNeg ≤ m0 + R.slots := hR.2
  obtain ⟨-, hw⟩ := am_n_word ht
  refine W.anew hx hb hown (hts _ hw) (va_AO.use Wd.2.2.2.2.2.2.2) rfl hd rfl hn (by omega) (by omega) (by omega) fun cA kA comp f1 f2 f3 f4 => ?_
  have hcA : cA = cT 4 := by
    obtain ⟨kA', comp', g1, g2, g3, g4⟩ := (Wd.1.2 4 (cT 4, .object "MindsByTen$Moment") rfl).2
    exact Option.some.inj (f1.symm.trans g4)
  subst hcA
  generalize hH1 : H.push ({ cls := cT 4, slots := Array.replicate n.toNatClampNeg .null, vm := .none } : Cell) = H1
  have z1 : H1.size = H.size + 1 := by rw [← hH1, Array.size_push]
  have e1 : H1[H.size]? = some (arrV (cT 4) n.toNatClampNeg (fun _ => .null)) := by rw [← hH1, Array.getElem?_push_size, ← arrV_new]
  have o1 : ∀ q : Nat, q < H.size → H1[q]? = H[q]? := fun q hq => by rw [← hH1, Array.getElem?_push, if_neg (Nat.ne_of_lt hq)]
  rw [hsz] at z1 e1 o1
  have hst : F0 m (pc + 3) ls (.ref H.size :: r.map (am_cv (am_ad b tU base))) = F0 m (pc + 3) ls ((Value.ref (h.2.2.2.2.1 + 3) :: r).map (am_cv (am_ad b tU base))) := by rw [hsz]; rfl
  refine W.eq hst ?_
  refine k H1 locs ls _ _ (am_born_St (kind := 24) (len := n.toNatClampNeg) (sz := n.toNatClampNeg) B ?_ z1 o1)
  have hk9 : ((am_al 24 n.toNatClampNeg n.toNatClampNeg h).2.2.2.1 (h.2.2.2.2.1 + 3)) = (24, n.toNatClampNeg) := if_pos rfl
  rw [am_el_q (by rw [hk9]), hk9]
  show H1[base + h.2.2.2.2.1]? = some (vp_cell _ _)
  rw [vp_cell_q, e1]; simp [am_al, am_row_eq, va_rf]
theorem am_ok_new {idx : Nat} (F : am_Fx p R s m args meth c mi) (Wd : am_Wd b tU base Lx xs D cT s s.heap) (B : am_St b tU base Lx xs D cT n0 m0 s mi h H locs ls lo cells slots) (hd : decode (am_mb mi) pc = .ok (.new idx, len)) (hl : len = am_len (.new idx) len) (hs : am_step mi (.new idx) pc lo st h = some (.inl (pc', lo', st', h'))) (hR : h'.2.2.2.2.1 ≤ n0 + R.cells ∧ h'.2.2.2.2.2 ≤ m0 + R.slots) (k : am_K b tU base Lx xs D cT n0 m0 p l e R s m args below meth c Q mi pc' lo' st' h') : W p l e R s m args below meth c H locs cells slots Q (F0 m pc ls (st.map (am_cv (am_ad b tU base)))) := by
  obtain ⟨hx, hb, hml, hown, hts, hr, hlk, hin, hrk, hlr⟩ := F
  obtain ⟨hP, hS, hsz, hL, hwf, hce, hsl⟩ := id B
  obtain rfl : len = 3 := hl
  cases hq : am_CT.lookup (idx * 16 + am_own mi) with
  | none => simp [am_step, hq] at hs
  | some ci =>
    simp only [am_step, hq] at hs
    obtain ⟨rfl, rfl, rfl, rfl⟩ := am_nx_some hs
    have hR1 : h.2.2.2.2.1 + 1 ≤ n0 + R.cells := hR.1
    have hR2 : h.2.2.2.2.2 + am_N ci ≤ m0 + R.slots := hR.2
    obtain ⟨hci, hw⟩ := am_n_word hq
    obtain ⟨o1, o2, o3, o4, o5, o6, o7⟩ := am_kOK_all ci hci
    have hKn := Wd.1.1 ci _ o4
    refine W.newcK hx hb hown (hts _ hw) (hts _ o5) (hts _ o6) rfl hd (by omega) (by omega) hKn.2.1 hsz fun H1 kC hkC e1 z1 oo => ?_
    refine k H1 locs ls _ _ (am_born_St (kind := ci + 1) (len := 0) (sz := am_N ci) B ?_ z1 oo)
    have hk9 : ((am_al (ci + 1) 0 (am_N ci) h).2.2.2.1 (h.2.2.2.2.1 + 3)) = (ci + 1, 0) := if_pos rfl
    rw [am_el_obj (by rw [hk9]) hci]
    refine ⟨_, o4, (u_born (am_ty ci) hts o1 hKn hkC e1 o3).to (fun j hj => ?_)⟩
    have e9 := am_fs_get (ad := am_ad b tU base) (h := am_al (ci + 1) 0 (am_N ci) h) (a := h.2.2.2.2.1 + 3) hj
    show defaultValue (am_ty ci j) = vp_V (am_fs (am_ad b tU base) ci (am_al (ci + 1) 0 (am_N ci) h) (h.2.2.2.2.1 + 3)) j
    unfold vp_V
    rw [List.getD_eq_getElem?_getD, e9]
    have hok : am_isI (am_ty ci j) = true ∨ am_ty ci j = .long ∨ am_isR (am_ty ci j) = true := am_tyok ci hci j hj
    cases ht : am_ty ci j <;> rw [ht] at hok <;> first | (exfalso; simp [am_isI, am_isR] at hok; done) | simp [am_fv, am_isI, am_al, am_row_eq, am_rf, defaultValue]
theorem am_ok_invokespecial {idx : Nat} (F : am_Fx p R s m args meth c mi) (Wd : am_Wd b tU base Lx xs D cT s s.heap) (B : am_St b tU base Lx xs D cT n0 m0 s mi h H locs ls lo cells slots) (hd : decode (am_mb mi) pc = .ok (.invokespecial idx, len)) (hl : len = am_len (.invokespecial idx) len) (hs : am_step mi (.invokespecial idx) pc lo st h = some (.inl (pc', lo', st', h'))) (hR : h'.2.2.2.2.1 ≤ n0 + R.cells ∧ h'.2.2.2.2.2 ≤ m0 + R.slots) (k : am_K b tU base Lx xs D cT n0 m0 p l e R s m args below meth c Q mi pc' lo' st' h') : W p l e R s m args below meth c H locs cells slots Q (F0 m pc ls (st.map (am_cv (am_ad b tU base)))) := by
  obtain ⟨hx, hb, hml, hown, hts, hr, hlk, hin, hrk, hlr⟩ := F
  obtain ⟨hP, hS, hsz, hL, hwf, hce, hsl⟩ := id B
  obtain rfl : len = 3 := hl
  simp only [am_step] at hs
  split at hs
  · split at hs
    · obtain ⟨-, hs⟩ := am_if_some hs
      cases hs
    · cases hs
  · split at hs
    · obtain ⟨-, hs⟩ := am_if_some hs
      cases hs
    · cases hs
  · next j hq =>
    obtain ⟨a, r, e9, hs2⟩ := am_ref1_some hs
    clear hs
    subst e9
    have hs := hs2
    clear hs2
    obtain ⟨hf, hs⟩ := am_if_some hs
    obtain ⟨rfl, rfl, rfl, rfl⟩ := am_nx_some hs
    have hw := am_c_word hq
    simp only [am_cOK, am_k1, am_k2] at hw
    refine W.objInit hx hb hown (hts _ hw) (hts _ am_obj_inst) (hts _ am_obj_code) rfl (by rw [hml]; exact hL.1) rfl hd (by have := hf.2.1; omega) ?_ (k _ _ _ _ _ B)
    have e9 := am_wsum_map (ad := am_ad b tU base) r
    have h9 := hf.1
    have h8 := hf.2.2
    show 2 * 0 + ((r.map (am_cv (am_ad b tU base))).map fun v => v.category).sum + 12 ≤ R.locals
    rw [e9]
    omega
  · cases hs
theorem am_ok_invokestatic {idx : Nat} (F : am_Fx p R s m args meth c mi) (Wd : am_Wd b tU base Lx xs D cT s s.heap) (B : am_St b tU base Lx xs D cT n0 m0 s mi h H locs ls lo cells slots) (hd : decode (am_mb mi) pc = .ok (.invokestatic idx, len)) (hl : len = am_len (.invokestatic idx) len) (hs : am_step mi (.invokestatic idx) pc lo st h = some (.inl (pc', lo', st', h'))) (hR : h'.2.2.2.2.1 ≤ n0 + R.cells ∧ h'.2.2.2.2.2 ≤ m0 + R.slots) (k : am_K b tU base Lx xs D cT n0 m0 p l e R s m args below meth c Q mi pc' lo' st' h') : W p l e R s m args below meth c H locs cells slots Q (F0 m pc ls (st.map (am_cv (am_ad b tU base)))) := by
  obtain ⟨hx, hb, hml, hown, hts, hr, hlk, hin, hrk, hlr⟩ := F
  obtain ⟨hP, hS, hsz, hL, hwf, hce, hsl⟩ := id B
  obtain rfl : len = 3 := hl
  simp only [am_step] at hs
  split at hs
  · obtain ⟨-, hs⟩ := am_if_some hs
    cases hs
  · next j hq =>
    split at hs
    · next n dp a sp a0 r =>
      obtain ⟨⟨hf, hk0, hk1, h30, h31, hsp, hdp, hn, hb0, hb1⟩, hs⟩ := am_if_some hs
      obtain ⟨rfl, rfl, rfl, rfl⟩ := am_nx_some hs
      have hw := am_c_word hq
      simp only [am_cOK, am_k1, am_k2] at hw
      have hat0 := (am_at (b := b) (tU := tU) (base := base) (cT := cT) hwf h30 (by omega)).2
      have hat1 := (am_at (b := b) (tU := tU) (base := base) (cT := cT) hwf h31 (by omega)).2
      rw [am_el_i hk0] at hat0
      rw [am_el_i hk1] at hat1
      refine am_copyi2 hx hb (by rw [hml]; exact hL.1.symm) hown (hts _ hw) (hts _ am_copy_native) (hts _ am_copy_static) (hts _ am_copy_init) Wd.1 hP am_dis hS (a0 - 3) (a - 3) 0 0 hat0 hat1 rfl rfl rfl hsp hdp hn hb0 hb1 (fun _ _ => rfl) (by have := hf.2.1; omega) ?_ hd (fun H1 locs1 q1 q2 q3 q4 => ?_)
      · have e9 := am_wsum_map (ad := am_ad b tU base) r
        have h9 := hf.1
        have h8 := hf.2.2
        have hw9 : nativeFrameWords "java/lang/System" "arraycopy" 5 ≤ 20 := by decide +kernel
        rw [e9]
        omega
      · refine k _ _ _ _ _ ⟨?_, q3, q4.trans hsz, hL, am_wf_row hwf h31 (fun b hb => am_row_ne hb), hce, hsl⟩
        rw [← am_chg (b := b) (tU := tU) (base := base) (cT := cT) (I := am_row h.1 a (va_cpy (h.1 a0) (h.1 a) sp.toNatClampNeg dp.toNatClampNeg n.toNatClampNeg)) (L := h.2.1) (P := h.2.2.1) hwf h31 (by omega) (fun b hb => am_row_ne hb) (fun _ _ => rfl) (fun _ _ => rfl), am_el_i (h := (am_row h.1 a (va_cpy (h.1 a0) (h.1 a) sp.toNatClampNeg dp.toNatClampNeg n.toNatClampNeg), h.2)) hk1]
        dsimp only
        rw [am_row_eq]
        exact q1
    · cases hs
  · next j hq =>
    obtain ⟨x, r, e9, hs2⟩ := am_int1_some hs
    clear hs
    subst e9
    have hs := hs2
    clear hs2
    obtain ⟨hf, hs⟩ := am_if_some hs
    obtain ⟨rfl, rfl, rfl, rfl⟩ := am_nx_some hs
    have hw := am_c_word hq
    simp only [am_cOK, am_k1, am_k2] at hw
    refine va_mabs hx hb (by rw [hml]; exact hL.1.symm) hown (hts _ hw) (hts _ am_abs_static) (hts _ am_math_init) (hts _ am_abs_code) (by have := hf.2.1; omega) ?_ (by omega) (by omega) hd (k _ _ _ _ _ B)
    have e9 := am_wsum_map (ad := am_ad b tU base) r
    have h9 := hf.1
    have h8 := hf.2.2
    rw [e9]
    omega
  · next j hq =>
    obtain ⟨x, y, r, e9, hs2⟩ := am_int2_some hs
    clear hs
    subst e9
    have hs := hs2
    clear hs2
    obtain ⟨hf, hs⟩ := am_if_some hs
    obtain ⟨rfl, rfl, rfl, rfl⟩ := am_nx_some hs
    have hw := am_c_word hq
    simp only [am_cOK, am_k1, am_k2] at hw
    refine va_mmax hx hb (by rw [hml]; exact hL.1.symm) hown (hts _ hw) (hts _ am_max_static) (hts _ am_math_init) (hts _ am_max_code) (by have := hf.2.1; omega) ?_ (by omega) (by omega) hd (k _ _ _ _ _ B)
    have e9 := am_wsum_map (ad := am_ad b tU base) r
    have h9 := hf.1
    have h8 := hf.2.2
    rw [e9]
    omega
  · next j hq =>
    obtain ⟨x, y, r, e9, hs2⟩ := am_int2_some hs
    clear hs
    subst e9
    have hs := hs2
    clear hs2
    obtain ⟨hf, hs⟩ := am_if_some hs
    obtain ⟨rfl, rfl, rfl, rfl⟩ := am_nx_some hs
    have hw := am_c_word hq
    simp only [am_cOK, am_k1, am_k2] at hw
    refine va_mmin hx hb (by rw [hml]; exact hL.1.symm) hown (hts _ hw) (hts _ am_min_static) (hts _ am_math_init) (hts _ am_min_code) (by have := hf.2.1; omega) ?_ (by omega) (by omega) hd (k _ _ _ _ _ B)
    have e9 := am_wsum_map (ad := am_ad b tU base) r
    have h9 := hf.1
    have h8 := hf.2.2
    rw [e9]
    omega
  · cases hs
end SB
