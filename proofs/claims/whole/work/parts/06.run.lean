theorem am_step_mono {mi pc pc' : Nat} {i : Instr} {lo lo' : am_Lo} {st st' : List Value} {h h' : am_H} (hs : am_step mi i pc lo st h = some (.inl (pc', lo', st', h'))) : h.2.2.2.2.1 ≤ h'.2.2.2.2.1 ∧ h.2.2.2.2.2 ≤ h'.2.2.2.2.2 := by
  have fin : ∀ {p1 : Nat} {l1 : am_Lo} {s1 : List Value} {h1 : am_H}, am_nx p1 l1 s1 h1 = some (.inl (pc', lo', st', h')) → (h.2.2.2.2.1 ≤ h1.2.2.2.2.1 ∧ h.2.2.2.2.2 ≤ h1.2.2.2.2.2) → h.2.2.2.2.1 ≤ h'.2.2.2.2.1 ∧ h.2.2.2.2.2 ≤ h'.2.2.2.2.2 := by
    intro p1 l1 s1 h1 e1 e2
    obtain ⟨-, -, -, rfl⟩ := am_nx_some e1
    exact e2
  have same : h.2.2.2.2.1 ≤ h.2.2.2.2.1 ∧ h.2.2.2.2.2 ≤ h.2.2.2.2.2 := ⟨Nat.le_refl _, Nat.le_refl _⟩
  cases i <;> simp only [am_step, am_int1, am_int2, am_lng1, am_lng2, am_ref1, am_ari, am_arv, am_ld, am_br, am_go] at hs <;> (repeat' (split at hs)) <;> first | exact fin hs same | exact fin hs ⟨Nat.le_succ _, Nat.le_add_right _ _⟩ | (exact absurd hs (by simp))
section SR
variable {b tU base Lx : Nat} {xs : Nat → Int32} {D : va_G} {cT : Nat → ClassId} {n0 m0 : Nat}
variable {p : Program} {l : Launch} {e : Env} {R : Room} {s : State} {m : MethodId} {args : Array Value} {below : List Frame} {meth : Method} {c : Code} {H : Heap} {locs : List Loc} {cells slots : Nat} {Q : State → Prop}
variable {mi pc pc' len : Nat} {lo lo' : am_Lo} {st st' : List Value} {h h' : am_H} {ls : Array Slot}
theorem am_ok {i : Instr} (F : am_Fx p R s m args meth c mi) (Wd : am_Wd b tU base Lx xs D cT s s.heap) (B : am_St b tU base Lx xs D cT n0 m0 s mi h H locs ls lo cells slots) (hd : decode (am_mb mi) pc = .ok (i, len)) (hl : len = am_len i len) (hs : am_step mi i pc lo st h = some (.inl (pc', lo', st', h'))) (hR : h'.2.2.2.2.1 ≤ n0 + R.cells ∧ h'.2.2.2.2.2 ≤ m0 + R.slots) (k : am_K b tU base Lx xs D cT n0 m0 p l e R s m args below meth c Q mi pc' lo' st' h') : W p l e R s m args below meth c H locs cells slots Q (F0 m pc ls (st.map (am_cv (am_ad b tU base)))) := by
  cases i with
  | iconst n => exact am_ok_iconst F Wd B hd hl hs hR k
  | bipush n => exact am_ok_bipush F Wd B hd hl hs hR k
  | sipush n => exact am_ok_sipush F Wd B hd hl hs hR k
  | lconst n => exact am_ok_lconst F Wd B hd hl hs hR k
  | ldc idx => exact am_ok_ldc F Wd B hd hl hs hR k
  | ldc_w idx => exact am_ok_ldc_w F Wd B hd hl hs hR k
  | ldc2_w idx => exact am_ok_ldc2_w F Wd B hd hl hs hR k
  | iload_n q => exact am_ok_iload_n F Wd B hd hl hs hR k
  | iload q => exact am_ok_iload F Wd B hd hl hs hR k
  | lload_n q => exact am_ok_lload_n F Wd B hd hl hs hR k
  | lload q => exact am_ok_lload F Wd B hd hl hs hR k
  | aload_n q => exact am_ok_aload_n F Wd B hd hl hs hR k
  | aload q => exact am_ok_aload F Wd B hd hl hs hR k
  | istore_n q => exact am_ok_istore_n F Wd B hd hl hs hR k
  | istore q => exact am_ok_istore F Wd B hd hl hs hR k
  | astore_n q => exact am_ok_astore_n F Wd B hd hl hs hR k
  | astore q => exact am_ok_astore F Wd B hd hl hs hR k
  | lstore_n q => exact am_ok_lstore_n F Wd B hd hl hs hR k
  | lstore q => exact am_ok_lstore F Wd B hd hl hs hR k
  | iinc q n => exact am_ok_iinc F Wd B hd hl hs hR k
  | iadd  => exact am_ok_iadd F Wd B hd hl hs hR k
  | isub  => exact am_ok_isub F Wd B hd hl hs hR k
  | imul  => exact am_ok_imul F Wd B hd hl hs hR k
  | iand  => exact am_ok_iand F Wd B hd hl hs hR k
  | ior  => exact am_ok_ior F Wd B hd hl hs hR k
  | ixor  => exact am_ok_ixor F Wd B hd hl hs hR k
  | ishl  => exact am_ok_ishl F Wd B hd hl hs hR k
  | ishr  => exact am_ok_ishr F Wd B hd hl hs hR k
  | iushr  => exact am_ok_iushr F Wd B hd hl hs hR k
  | idiv  => exact am_ok_idiv F Wd B hd hl hs hR k
  | irem  => exact am_ok_irem F Wd B hd hl hs hR k
  | ineg  => exact am_ok_ineg F Wd B hd hl hs hR k
  | i2l  => exact am_ok_i2l F Wd B hd hl hs hR k
  | i2c  => exact am_ok_i2c F Wd B hd hl hs hR k
  | l2i  => exact am_ok_l2i F Wd B hd hl hs hR k
  | ladd  => exact am_ok_ladd F Wd B hd hl hs hR k
  | lsub  => exact am_ok_lsub F Wd B hd hl hs hR k
  | land  => exact am_ok_land F Wd B hd hl hs hR k
  | lor  => exact am_ok_lor F Wd B hd hl hs hR k
  | lxor  => exact am_ok_lxor F Wd B hd hl hs hR k
  | lcmp  => exact am_ok_lcmp F Wd B hd hl hs hR k
  | lshl  => exact am_ok_lshl F Wd B hd hl hs hR k
  | lushr  => exact am_ok_lushr F Wd B hd hl hs hR k
  | dup  => exact am_ok_dup F Wd B hd hl hs hR k
  | dup2  => exact am_ok_dup2 F Wd B hd hl hs hR k
  | ifCond cc off => exact am_ok_ifCond F Wd B hd hl hs hR k
  | if_icmp cc off => exact am_ok_if_icmp F Wd B hd hl hs hR k
  | goto off => exact am_ok_goto F Wd B hd hl hs hR k
  | tableswitch d u w offs => exact am_ok_tableswitch F Wd B hd hl hs hR k
  | lookupswitch d ps => exact am_ok_lookupswitch F Wd B hd hl hs hR k
  | getfield idx => exact am_ok_getfield F Wd B hd hl hs hR k
  | putfield idx => exact am_ok_putfield F Wd B hd hl hs hR k
  | getstatic idx => exact am_ok_getstatic F Wd B hd hl hs hR k
  | caload  => exact am_ok_caload F Wd B hd hl hs hR k
  | baload  => exact am_ok_baload F Wd B hd hl hs hR k
  | laload  => exact am_ok_laload F Wd B hd hl hs hR k
  | iaload  => exact am_ok_iaload F Wd B hd hl hs hR k
  | aaload  => exact am_ok_aaload F Wd B hd hl hs hR k
  | iastore  => exact am_ok_iastore F Wd B hd hl hs hR k
  | castore  => exact am_ok_castore F Wd B hd hl hs hR k
  | bastore  => exact am_ok_bastore F Wd B hd hl hs hR k
  | lastore  => exact am_ok_lastore F Wd B hd hl hs hR k
  | aastore  => exact am_ok_aastore F Wd B hd hl hs hR k
  | arraylength  => exact am_ok_arraylength F Wd B hd hl hs hR k
  | newarray t => exact am_ok_newarray F Wd B hd hl hs hR k
  | anewarray idx => exact am_ok_anewarray F Wd B hd hl hs hR k
  | new idx => exact am_ok_new F Wd B hd hl hs hR k
  | invokespecial idx => exact am_ok_invokespecial F Wd B hd hl hs hR k
  | invokestatic idx => exact am_ok_invokestatic F Wd B hd hl hs hR k
  | invokevirtual idx =>
    simp only [am_step] at hs
    split at hs
    · split at hs
      · obtain ⟨-, hs⟩ := am_if_some hs
        cases hs
      · cases hs
    · cases hs
  | ireturn =>
    simp only [am_step] at hs
    split at hs
    · split at hs
      · obtain ⟨-, hs⟩ := am_if_some hs
        cases hs
      · cases hs
    · cases hs
  | lreturn =>
    simp only [am_step] at hs
    split at hs
    · obtain ⟨-, hs⟩ := am_if_some hs
      cases hs
    · cases hs
  | return_ =>
    simp only [am_step] at hs
    split at hs
    · obtain ⟨-, hs⟩ := am_if_some hs
      cases hs
    · cases hs
  | _ => exact absurd hs (by simp [am_step])
/-! calls -/
def am_ws (j : Nat) : List Cond := .code (am_y j) (am_mb j) (am_mL j) (am_ret j) :: am_W
def am_rm (j mc ms : Nat) : Room := { frames := am_rk j, cells := mc, slots := ms, locals := am_lr j }
theorem am_Wd_moved {U U' : State} {H : Heap} (hvm : U.vm.Alike U'.vm) (hN : ∀ x : String × Nat × MethodName, va_Nw (.methodLinkNest x.1 x.2.1 x.2.2 "MindsByTen") U → va_Nw (.methodLinkNest x.1 x.2.1 x.2.2 "MindsByTen") U') (q : am_Wd b tU base Lx xs D cT U H) : am_Wd b tU base Lx xs D cT U' H := by
  obtain ⟨q1, q2, q3, q4, q5, q6, q7, q8⟩ := q
  exact ⟨va_K.moved hvm q1, va_Z.moved hvm q2, va_T.moved hvm q3, va_X.moved hvm q4, q5, q6, fun x hx => hN x (q7 x hx), va_AO.moved hvm q8⟩
theorem am_Wd_kept {U : State} {H H1 : Heap} (q : am_Wd b tU base Lx xs D cT U H) (hsz : H.size ≤ H1.size) (hk : ∀ a : Nat, a < H.size → ¬ base ≤ a → H1[a]? = H[a]?) : am_Wd b tU base Lx xs D cT U H1 := by
  obtain ⟨q1, q2, q3, q4, q5, q6, q7, q8⟩ := q
  exact ⟨q1, va_Z.kept q2 hk, va_T.kept q3 hk, va_X.kept q4 (hk b (by omega) (by omega)), q5, by omega, q7, q8⟩
/-- the world at a call -/
def am_Pb (b tU base Lx : Nat) (xs : Nat → Int32) (D : va_G) (cT : Nat → ClassId) (h : am_H) (U : State) : Prop :=
  am_Wd b tU base Lx xs D cT U U.heap ∧ va_P D vwCl (am_wo (am_ad b tU base) cT base h) U.heap ∧ U.heap.size = base + h.2.2.2.2.1 ∧ am_wf Lx xs h
def am_Qb (b tU base Lx : Nat) (xs : Nat → Int32) (D : va_G) (cT : Nat → ClassId) (v : Option Value) (h1 : am_H) : Array Value → State → Outcome → State → Prop := fun _ st oc t =>
  oc = .returned (v.map (am_cv (am_ad b tU base))) ∧ va_P D vwCl (am_wo (am_ad b tU base) cT base h1) t.heap ∧ t.heap.size = base + h1.2.2.2.2.1 ∧ am_wf Lx xs h1 ∧ va_F (fun q => base ≤ q) st t
def am_Met (b tU base Lx : Nat) (xs : Nat → Int32) (D : va_G) (cT : Nat → ClassId) (l : Launch) (j : Nat) (as : List Value) (h : am_H) (v : Option Value) (h1 : am_H) : Prop :=
  Met l (am_y j) (am_ws j) (am_rm j (h1.2.2.2.2.1 - h.2.2.2.2.1) (h1.2.2.2.2.2 - h.2.2.2.2.2)) (va_Pc (as.map (am_cv (am_ad b tU base))) (am_Pb b tU base Lx xs D cT h)) (am_Qb b tU base Lx xs D cT v h1) (h1.2.2.2.2.1 - h.2.2.2.2.1) (h1.2.2.2.2.2 - h.2.2.2.2.2) (fun q => base ≤ q)
theorem am_blind : FrameBlind (va_Pc (st.map (am_cv (am_ad b tU base))) (am_Pb b tU base Lx xs D cT h)) := by
  intro a U g mk q
  obtain ⟨q1, q2, q3, q4, q5⟩ := q
  exact ⟨q1, am_Wd_moved (U := U) (U' := U.calling g mk a) (Vm.Alike.refl U.vm) (fun x hx => va_Nw.same (u := U) (U := U.calling g mk a) rfl rfl hx) q2, q3, q4, q5⟩
theorem am_pre (Wd : am_Wd b tU base Lx xs D cT s s.heap) (B : am_St b tU base Lx xs D cT n0 m0 s mi h H locs ls lo cells slots) (as : List Value) : ∀ U : State, U.heap = H → s.WarmedH U.vm → va_Pc (as.map (am_cv (am_ad b tU base))) (am_Pb b tU base Lx xs D cT h) (as.map (am_cv (am_ad b tU base))).toArray U := by
  intro U hU hW
  obtain ⟨hP, hS, hsz, hL, hwf, hce, hsl⟩ := B
  refine ⟨rfl, ?_, by rw [hU]; exact hP, by rw [hU]; exact hsz, hwf⟩
  rw [hU]
  exact am_Wd_kept (am_Wd_moved hW.alike (fun x hx => va_Nw.warmM hW hx) Wd) hS.1 (fun a h1 h2 => hS.2.1 a h1 h2)
/-- behind a call -/
theorem am_after {j : Nat} {as r : List Value} {v : Option Value} {h1 : am_H} {ar : Array Value} (B : am_St b tU base Lx xs D cT n0 m0 s mi h H locs ls lo cells slots) (hmo : h.2.2.2.2.1 ≤ h1.2.2.2.2.1 ∧ h.2.2.2.2.2 ≤ h1.2.2.2.2.2)
    (hr : va_Run p l e R s m args below meth c H locs cells slots (h1.2.2.2.2.1 - h.2.2.2.2.1) (h1.2.2.2.2.2 - h.2.2.2.2.2) (F0 m pc ls (st.map (am_cv (am_ad b tU base)))) (r.map (am_cv (am_ad b tU base))) (am_Qb b tU base Lx xs D cT v h1 ar) (fun q => base ≤ q))
    (k : am_K b tU base Lx xs D cT n0 m0 p l e R s m args below meth c Q mi (pc + 3) lo (am_rs v r) h1) : W p l e R s m args below meth c H locs cells slots Q (F0 m pc ls (st.map (am_cv (am_ad b tU base)))) := by
  intro T hT X
  obtain ⟨w, st₀, t, T', L, h0, X', hL2, e1, e2, ⟨q1, q2, q3, q4, q5⟩, sg⟩ := hr T hT X
  obtain ⟨hP, hS, hsz, hL, hwf, hce, hsl⟩ := B
  obtain rfl : w = v.map (am_cv (am_ad b tU base)) := by simpa using q1
  have kk := k T'.heap (locs ++ L) ls (cells + (h1.2.2.2.2.1 - h.2.2.2.2.1)) (slots + (h1.2.2.2.2.2 - h.2.2.2.2.2)) ⟨by rw [e1]; exact q2, ⟨?_, ?_, ?_⟩, by rw [e1]; exact q3, hL, q4, by omega, by omega⟩
  · obtain ⟨t2, a1, b1⟩ := kk T' rfl X'
    refine ⟨t2, sg t2 ?_, b1⟩
    have e9 : F0 m (pc + 3) ls ((am_rs v r).map (am_cv (am_ad b tU base))) = { F0 m pc ls (st.map (am_cv (am_ad b tU base))) with pc := (F0 m pc ls (st.map (am_cv (am_ad b tU base)))).pc + 3, stack := (v.map (am_cv (am_ad b tU base))).toList ++ r.map (am_cv (am_ad b tU base)) } := by
      cases v <;> rfl
    rw [← e9]
    exact a1
  · rw [e1]; exact Nat.le_trans hS.1 (by have := q5.1; rw [h0] at this; exact this)
  · intro q g1 g2
    rw [e1, q5.2 q (by rw [h0]; exact Nat.lt_of_lt_of_le g1 hS.1) g2, h0]
    exact hS.2.1 q g1 g2
  · intro x hx
    rcases List.mem_append.mp hx with g | g
    · exact hS.2.2 x g
    · exact hL2 x g
theorem am_goodW {ws : List Cond} (hw : ∀ w ∈ ws, w ∈ am_W) : GoodIn am_W ws := fun w h => ⟨hw w h, am_Wgood w (hw w h)⟩
theorem am_good_ws {j : Nat} (hj : j < 159) : GoodIn am_W (am_ws j) := am_goodW fun w hw => by
  rcases List.mem_cons.mp hw with rfl | hw
  · exact (am_mOK_all j hj).2.1
  · exact hw
theorem am_take {n : Nat} {x : Value} {r : List Value} (hx : st.drop n = x :: r) : st = st.take n ++ x :: r ∧ (st.take n).length = n := by
  have h1 : st = st.take n ++ x :: r := by rw [← hx, List.take_append_drop]
  refine ⟨h1, ?_⟩
  rw [List.length_take]
  have h2 : n < st.length := by
    rcases Nat.lt_or_ge n st.length with q | q
    · exact q
    · rw [List.drop_eq_nil_of_le q] at hx; cases hx
  omega
theorem am_callV {idx j bb : Nat} {r : List Value} {v : Option Value} {h1 : am_H} (F : am_Fx p R s m args meth c mi) (Wd : am_Wd b tU base Lx xs D cT s s.heap) (B : am_St b tU base Lx xs D cT n0 m0 s mi h H locs ls lo cells slots) (hd : decode (am_mb mi) pc = .ok (.invokevirtual idx, 3)) (hq : am_MT.lookup (idx * 16 + am_own mi) = some (0, j)) (hdr : st.drop (am_np j) = .ref bb :: r) (hk : (h.2.2.2.1 bb).1 = am_own j + 1) (hc : am_okc mi j r)
    (hmo : h.2.2.2.2.1 ≤ h1.2.2.2.2.1 ∧ h.2.2.2.2.2 ≤ h1.2.2.2.2.2) (hR : h1.2.2.2.2.1 ≤ n0 + R.cells ∧ h1.2.2.2.2.2 ≤ m0 + R.slots) (M : am_Met b tU base Lx xs D cT l j (.ref bb :: (st.take (am_np j)).reverse) h v h1)
    (k : am_K b tU base Lx xs D cT n0 m0 p l e R s m args below meth c Q mi (pc + 3) lo (am_rs v r) h1) : W p l e R s m args below meth c H locs cells slots Q (F0 m pc ls (st.map (am_cv (am_ad b tU base)))) := by
  obtain ⟨hx, hb, hml, hown, hts, hr, hlk, hin, hrk, hlr⟩ := F
  obtain ⟨hP, hS, hsz, hL, hwf, hce, hsl⟩ := id B
  have hw := am_c_word hq
  simp only [am_cOK, am_k1, am_k2] at hw
  obtain ⟨hj, w1, w2, w3, hown8⟩ := hw
  obtain ⟨o1, o2, o3, o4, o5⟩ := am_mOK_all j hj
  obtain ⟨g1, g2⟩ := am_take hdr
  have h3 := am_ge3 hwf (a := bb) (by omega) (by omega)
  have hat := (am_at (b := b) (tU := tU) (base := base) (cT := cT) hwf h3 (by omega)).2
  rw [am_el_obj hk hown8] at hat
  have hC := (am_kOK_all (am_own j) hown8).2.2.2.1
  have hg : GoodIn am_W (wsV (am_cn (am_own mi)) idx (am_C (am_own j)) (am_y j) (am_ws j)) := am_goodW fun w hw => by
    simp only [wsV, List.cons_append, List.nil_append, List.mem_cons] at hw
    rcases hw with rfl | rfl | rfl | rfl | hw
    · exact w1
    · exact w2
    · have e9 : am_C (am_own j) = (am_y j).cls := o5.symm
      rw [e9]; exact w3
    · have e9 : am_C (am_own j) = (am_y j).cls := o5.symm
      rw [e9]; exact o3
    · exact (am_good_ws hj w hw).1
  refine am_after (j := j) (as := .ref bb :: (st.take (am_np j)).reverse) B hmo (va_runV (As := ((st.take (am_np j)).reverse).map (am_cv (am_ad b tU base))) (n := am_np j) ⟨hx, hb, hml, hown, hts⟩ M
    (cwV (am_np j) hts hg rfl rfl rfl ⟨o5, o4.1, o4.2.1, o4.2.2⟩ ⟨by show am_rk j + 1 ≤ R.frames; have := hc.2.1; omega, by show 8 + (am_mL j + 11) + am_lr j ≤ R.locals; have := hc.2.2; omega⟩)
    ⟨am_blind, va_recv Wd.1 hP hC hat, am_pre Wd B (.ref bb :: (st.take (am_np j)).reverse)⟩ rfl (by rw [List.length_map, List.length_reverse]; exact g2) hL.1 ?_ (lv_room (by rw [am_wsum_map]; exact hc.1)) hd ⟨by omega, by omega⟩) k
  show st.map (am_cv (am_ad b tU base)) = (((st.take (am_np j)).reverse).map (am_cv (am_ad b tU base))).reverse ++ .ref (am_ad b tU base bb) :: r.map (am_cv (am_ad b tU base))
  rw [← List.map_reverse, List.reverse_reverse]
  have e9 := congrArg (List.map (am_cv (am_ad b tU base))) g1
  rw [List.map_append] at e9
  exact e9
theorem am_callS {idx j : Nat} {v : Option Value} {h1 : am_H} (F : am_Fx p R s m args meth c mi) (Wd : am_Wd b tU base Lx xs D cT s s.heap) (B : am_St b tU base Lx xs D cT n0 m0 s mi h H locs ls lo cells slots) (hd : decode (am_mb mi) pc = .ok (.invokestatic idx, 3)) (hq : am_MT.lookup (idx * 16 + am_own mi) = some (1, j)) (hdr : (st.take (am_np j)).length = am_np j) (hc : am_okc mi j (st.drop (am_np j)))
    (hmo : h.2.2.2.2.1 ≤ h1.2.2.2.2.1 ∧ h.2.2.2.2.2 ≤ h1.2.2.2.2.2) (hR : h1.2.2.2.2.1 ≤ n0 + R.cells ∧ h1.2.2.2.2.2 ≤ m0 + R.slots) (M : am_Met b tU base Lx xs D cT l j ((st.take (am_np j)).reverse) h v h1)
    (k : am_K b tU base Lx xs D cT n0 m0 p l e R s m args below meth c Q mi (pc + 3) lo (am_rs v (st.drop (am_np j))) h1) : W p l e R s m args below meth c H locs cells slots Q (F0 m pc ls (st.map (am_cv (am_ad b tU base)))) := by
  obtain ⟨hx, hb, hml, hown, hts, hr, hlk, hin, hrk, hlr⟩ := F
  obtain ⟨hP, hS, hsz, hL, hwf, hce, hsl⟩ := id B
  have hw := am_c_word hq
  simp only [am_cOK, am_k1, am_k2] at hw
  obtain ⟨hj, w1, w2⟩ := hw
  obtain ⟨o1, o2, o3, o4, o5⟩ := am_mOK_all j hj
  have hg : GoodIn am_W (va_wsS (am_cn (am_own mi)) idx (am_y j) (am_ws j)) := am_goodW fun w hw => by
    simp only [va_wsS, List.cons_append, List.nil_append, List.mem_cons] at hw
    rcases hw with rfl | rfl | rfl | hw
    · exact w1
    · exact w2
    · exact o3
    · exact (am_good_ws hj w hw).1
  refine am_after (j := j) (as := (st.take (am_np j)).reverse) B hmo (va_runS (As := ((st.take (am_np j)).reverse).map (am_cv (am_ad b tU base))) (n := am_np j) ⟨hx, hb, hml, hown, hts⟩ M
    (va_cwS (am_np j) hts hg rfl rfl rfl ⟨o4.1, o4.2.1, o4.2.2⟩ ⟨by show am_rk j + 1 ≤ R.frames; have := hc.2.1; omega, by show 8 + (am_mL j + 11) + am_lr j ≤ R.locals; have := hc.2.2; omega⟩)
    ⟨am_blind, am_pre Wd B ((st.take (am_np j)).reverse)⟩ rfl (by rw [List.length_map, List.length_reverse]; exact hdr) hL.1 ?_ (lv_room (by rw [am_wsum_map]; exact hc.1)) hd ⟨by omega, by omega⟩) k
  show st.map (am_cv (am_ad b tU base)) = (((st.take (am_np j)).reverse).map (am_cv (am_ad b tU base))).reverse ++ (st.drop (am_np j)).map (am_cv (am_ad b tU base))
  rw [← List.map_reverse, List.reverse_reverse, ← List.map_append, List.take_append_drop]
theorem am_callI {idx j bb kd : Nat} {r : List Value} {v : Option Value} {h1 : am_H} (F : am_Fx p R s m args meth c mi) (Wd : am_Wd b tU base Lx xs D cT s s.heap) (B : am_St b tU base Lx xs D cT n0 m0 s mi h H locs ls lo cells slots) (hd : decode (am_mb mi) pc = .ok (.invokespecial idx, 3)) (hq : am_MT.lookup (idx * 16 + am_own mi) = some (kd, j)) (hkd : kd = 2 ∨ kd = 3) (hdr : st.drop (am_np j) = .ref bb :: r) (hc : am_okc mi j r)
    (hmo : h.2.2.2.2.1 ≤ h1.2.2.2.2.1 ∧ h.2.2.2.2.2 ≤ h1.2.2.2.2.2) (hR : h1.2.2.2.2.1 ≤ n0 + R.cells ∧ h1.2.2.2.2.2 ≤ m0 + R.slots) (M : am_Met b tU base Lx xs D cT l j (.ref bb :: (st.take (am_np j)).reverse) h v h1)
    (k : am_K b tU base Lx xs D cT n0 m0 p l e R s m args below meth c Q mi (pc + 3) lo (am_rs v r) h1) : W p l e R s m args below meth c H locs cells slots Q (F0 m pc ls (st.map (am_cv (am_ad b tU base)))) := by
  obtain ⟨hx, hb, hml, hown, hts, hr, hlk, hin, hrk, hlr⟩ := F
  obtain ⟨hP, hS, hsz, hL, hwf, hce, hsl⟩ := id B
  have hw := am_c_word hq
  obtain ⟨g1, g2⟩ := am_take hdr
  have hst : st.map (am_cv (am_ad b tU base)) = (((st.take (am_np j)).reverse).map (am_cv (am_ad b tU base))).reverse ++ .ref (am_ad b tU base bb) :: r.map (am_cv (am_ad b tU base)) := by
    rw [← List.map_reverse, List.reverse_reverse]
    have e9 := congrArg (List.map (am_cv (am_ad b tU base))) g1
    rw [List.map_append] at e9
    exact e9
  rcases hkd with rfl | rfl
  · simp only [am_cOK, am_k1, am_k2] at hw
    obtain ⟨hj, w1, w2, w3, w4⟩ := hw
    obtain ⟨o1, o2, o3, o4, o5⟩ := am_mOK_all j hj
    exact am_after (j := j) (as := .ref bb :: (st.take (am_np j)).reverse) B hmo (va_runI (As := ((st.take (am_np j)).reverse).map (am_cv (am_ad b tU base))) (n := am_np j) ⟨hx, hb, hml, hown, hts⟩ M
      (cwI (bytes := am_mb j) (maxL := am_mL j) (ws' := am_W) (am_np j) hts (am_good_ws hj) (by unfold am_ws; rw [w4]) rfl rfl (hts _ o3) (hts _ w1) (hts _ w2) w3 ⟨o4.1, o4.2.1, o4.2.2⟩ ⟨by show am_rk j + 1 ≤ R.frames; have := hc.2.1; omega, by show 8 + (am_mL j + 11) + am_lr j ≤ R.locals; have := hc.2.2; omega⟩)
      ⟨am_blind, am_pre Wd B (.ref bb :: (st.take (am_np j)).reverse)⟩ rfl (by rw [List.length_map, List.length_reverse]; exact g2) hL.1 hst (lv_room (by rw [am_wsum_map]; exact hc.1)) hd ⟨by omega, by omega⟩) k
  · simp only [am_cOK, am_k1, am_k2] at hw
    obtain ⟨hj, w1, w2, w3, w4⟩ := hw
    obtain ⟨o1, o2, o3, o4, o5⟩ := am_mOK_all j hj
    have hN9 := Wd.2.2.2.2.2.2.1
    have hN := hN9 (am_cn (am_own mi), idx, am_y j) w1
    clear hN9
    dsimp only at hN
    have hws9 : am_ws j = Cond.code (am_y j) (am_mb j) (am_mL j) none :: am_W := by unfold am_ws; rw [w4]
    have hcn := va_cnB (R := R) (own := am_cn (am_own mi)) (host := "MindsByTen") (index := idx) (y := am_y j) (bytes := am_mb j) (maxL := am_mL j) (ws' := am_W) (ret := none) (rm := am_rm j (h1.2.2.2.2.1 - h.2.2.2.2.1) (h1.2.2.2.2.2 - h.2.2.2.2.2)) (am_np j) hts (am_good_ws hj) hws9 rfl rfl hN (hts _ o3) ⟨o4.1, o4.2.1, o4.2.2⟩ ⟨by show am_rk j + 1 ≤ R.frames; have := hc.2.1; omega, by show 8 + (am_mL j + 11) + am_lr j ≤ R.locals; have := hc.2.2; omega⟩
    exact am_after (j := j) (as := .ref bb :: (st.take (am_np j)).reverse) B hmo (va_runIN (As := ((st.take (am_np j)).reverse).map (am_cv (am_ad b tU base))) (n := am_np j) ⟨hx, hb, hml, hown, hts⟩ M
      ⟨hcn, w3, hts _ w2⟩
      ⟨am_blind, am_pre Wd B (.ref bb :: (st.take (am_np j)).reverse)⟩ rfl (by rw [List.length_map, List.length_reverse]; exact g2) hL.1 hst (lv_room (by rw [am_wsum_map]; exact hc.1)) hd ⟨by omega, by omega⟩) k
/-- any call -/
theorem am_okcall {i : Instr} {j : Nat} {as r : List Value} {v : Option Value} {h1 : am_H} (F : am_Fx p R s m args meth c mi) (Wd : am_Wd b tU base Lx xs D cT s s.heap) (B : am_St b tU base Lx xs D cT n0 m0 s mi h H locs ls lo cells slots) (hd : decode (am_mb mi) pc = .ok (i, len)) (hl : len = am_len i len) (hs : am_step mi i pc lo st h = some (.inr (.inl (j, as, r))))
    (hmo : h.2.2.2.2.1 ≤ h1.2.2.2.2.1 ∧ h.2.2.2.2.2 ≤ h1.2.2.2.2.2) (hR : h1.2.2.2.2.1 ≤ n0 + R.cells ∧ h1.2.2.2.2.2 ≤ m0 + R.slots) (M : am_Met b tU base Lx xs D cT l j as h v h1)
    (k : am_K b tU base Lx xs D cT n0 m0 p l e R s m args below meth c Q mi (pc + 3) lo (am_rs v r) h1) : W p l e R s m args below meth c H locs cells slots Q (F0 m pc ls (st.map (am_cv (am_ad b tU base)))) := by
  cases i with
  | invokevirtual idx =>
    obtain rfl : len = 3 := hl
    simp only [am_step] at hs
    split at hs
    · next j2 hq =>
      split at hs
      · next bb r2 hdr =>
        obtain ⟨⟨hk, hc⟩, hs⟩ := am_if_some hs
        simp only [Option.some.injEq, Sum.inr.injEq, Sum.inl.injEq, Prod.mk.injEq] at hs
        obtain ⟨rfl, rfl, rfl⟩ := hs
        exact am_callV F Wd B hd hq hdr hk hc hmo hR M k
      · cases hs
    · cases hs
  | invokestatic idx =>
    obtain rfl : len = 3 := hl
    simp only [am_step] at hs
    split at hs
    · next j2 hq =>
      obtain ⟨⟨hk, hc⟩, hs⟩ := am_if_some hs
      simp only [Option.some.injEq, Sum.inr.injEq, Sum.inl.injEq, Prod.mk.injEq] at hs
      obtain ⟨rfl, rfl, rfl⟩ := hs
      exact am_callS F Wd B hd hq hk hc hmo hR M k
    all_goals (exfalso; first | (cases hs; done) | (simp only [am_int1, am_int2] at hs; (repeat' (split at hs)) <;> simp [am_nx] at hs; done) | ((repeat' (split at hs)) <;> simp [am_nx] at hs))
  | invokespecial idx =>
    obtain rfl : len = 3 := hl
    simp only [am_step] at hs
    split at hs
    · next j2 hq =>
      split at hs
      · next bb r2 hdr =>
        obtain ⟨hc, hs⟩ := am_if_some hs
        simp only [Option.some.injEq, Sum.inr.injEq, Sum.inl.injEq, Prod.mk.injEq] at hs
        obtain ⟨rfl, rfl, rfl⟩ := hs
        exact am_callI F Wd B hd hq (Or.inl rfl) hdr hc hmo hR M k
      · cases hs
    · next j2 hq =>
      split at hs
      · next bb r2 hdr =>
        obtain ⟨hc, hs⟩ := am_if_some hs
        simp only [Option.some.injEq, Sum.inr.injEq, Sum.inl.injEq, Prod.mk.injEq] at hs
        obtain ⟨rfl, rfl, rfl⟩ := hs
        exact am_callI F Wd B hd hq (Or.inr rfl) hdr hc hmo hR M k
      · cases hs
    all_goals (exfalso; first | (cases hs; done) | (simp only [am_ref1] at hs; (repeat' (split at hs)) <;> simp [am_nx] at hs; done) | ((repeat' (split at hs)) <;> simp [am_nx] at hs))
  | _ =>
    exfalso
    simp only [am_step, am_int1, am_int2, am_lng1, am_lng2, am_ref1, am_ari, am_arv, am_ld, am_br, am_go] at hs
    (repeat' (split at hs)) <;> simp [am_nx] at hs
/-- which methods a run may call -/
theorem am_callee {i : Instr} {j : Nat} {as r : List Value} (hs : am_step mi i pc lo st h = some (.inr (.inl (j, as, r)))) : j < 159 := by
  cases i with
  | invokevirtual idx =>
    simp only [am_step] at hs
    split at hs
    · next j2 hq =>
      split at hs
      · obtain ⟨-, hs⟩ := am_if_some hs
        simp only [Option.some.injEq, Sum.inr.injEq, Sum.inl.injEq, Prod.mk.injEq] at hs
        obtain ⟨rfl, -, -⟩ := hs
        have hw := am_c_word hq
        simp only [am_cOK, am_k1, am_k2] at hw
        exact hw.1
      · cases hs
    · cases hs
  | invokestatic idx =>
    simp only [am_step] at hs
    split at hs
    · next j2 hq =>
      obtain ⟨-, hs⟩ := am_if_some hs
      simp only [Option.some.injEq, Sum.inr.injEq, Sum.inl.injEq, Prod.mk.injEq] at hs
      obtain ⟨rfl, -, -⟩ := hs
      have hw := am_c_word hq
      simp only [am_cOK, am_k1, am_k2] at hw
      exact hw.1
    all_goals (exfalso; first | (cases hs; done) | (simp only [am_int1, am_int2] at hs; (repeat' (split at hs)) <;> simp [am_nx] at hs; done) | ((repeat' (split at hs)) <;> simp [am_nx] at hs))
  | invokespecial idx =>
    simp only [am_step] at hs
    split at hs
    · next j2 hq =>
      split at hs
      · obtain ⟨-, hs⟩ := am_if_some hs
        simp only [Option.some.injEq, Sum.inr.injEq, Sum.inl.injEq, Prod.mk.injEq] at hs
        obtain ⟨rfl, -, -⟩ := hs
        have hw := am_c_word hq
        simp only [am_cOK, am_k1, am_k2] at hw
        exact hw.1
      · cases hs
    · next j2 hq =>
      split at hs
      · obtain ⟨-, hs⟩ := am_if_some hs
        simp only [Option.some.injEq, Sum.inr.injEq, Sum.inl.injEq, Prod.mk.injEq] at hs
        obtain ⟨rfl, -, -⟩ := hs
        have hw := am_c_word hq
        simp only [am_cOK, am_k1, am_k2] at hw
        exact hw.1
      · cases hs
    all_goals (exfalso; first | (cases hs; done) | (simp only [am_ref1] at hs; (repeat' (split at hs)) <;> simp [am_nx] at hs; done) | ((repeat' (split at hs)) <;> simp [am_nx] at hs))
  | _ =>
    exfalso
    simp only [am_step, am_int1, am_int2, am_lng1, am_lng2, am_ref1, am_ari, am_arv, am_ld, am_br, am_go] at hs
    (repeat' (split at hs)) <;> simp [am_nx] at hs
theorem am_run_le {call : Nat → List Value → am_H → Option (Option Value × am_H)} (hcall : ∀ j as h v h1, j < 159 → call j as h = some (v, h1) → h.2.2.2.2.1 ≤ h1.2.2.2.2.1 ∧ h.2.2.2.2.2 ≤ h1.2.2.2.2.2) :
    ∀ (n pc : Nat) (lo : am_Lo) (st : List Value) (h : am_H) (v : Option Value) (h1 : am_H), am_run call mi n pc lo st h = some (v, h1) → h.2.2.2.2.1 ≤ h1.2.2.2.2.1 ∧ h.2.2.2.2.2 ≤ h1.2.2.2.2.2 := by
  intro n
  induction n with
  | zero => intro pc lo st h v h1 hr; simp [am_run] at hr
  | succ n ih =>
    intro pc lo st h v h1 hr
    rw [am_run] at hr
    cases hd : decode (am_mb mi) pc with
    | error e => rw [hd] at hr; exact absurd hr (by simp)
    | ok q =>
      obtain ⟨i, len⟩ := q
      rw [hd] at hr
      dsimp only at hr
      obtain ⟨hl, hr⟩ := am_if_some hr
      cases hs : am_step mi i pc lo st h with
      | none => rw [hs] at hr; exact absurd hr (by simp)
      | some x =>
        rw [hs] at hr
        match x, hr, hs with
        | .inl (pc', lo', st', h'), hr, hs =>
          have h9 := am_step_mono hs
          have h8 := ih _ _ _ _ _ _ hr
          exact ⟨Nat.le_trans h9.1 h8.1, Nat.le_trans h9.2 h8.2⟩
        | .inr (.inl (j, as, r)), hr, hs =>
          dsimp only at hr
          cases hcj : call j as h with
          | none => rw [hcj] at hr; exact absurd hr (by simp)
          | some y =>
            obtain ⟨w, h'⟩ := y
            rw [hcj] at hr
            have h9 := hcall j as h w h' (am_callee hs) hcj
            have h8 := ih _ _ _ _ _ _ hr
            exact ⟨Nat.le_trans h9.1 h8.1, Nat.le_trans h9.2 h8.2⟩
        | .inr (.inr w), hr, hs =>
          simp only [Option.some.injEq, Prod.mk.injEq] at hr
          obtain ⟨-, rfl⟩ := hr
          exact ⟨Nat.le_refl _, Nat.le_refl _⟩
/-- A RUN OF THE MACHINE OF NUMBERS IS A RUN OF THE MACHINE -/
theorem am_run_ok {call : Nat → List Value → am_H → Option (Option Value × am_H)} (hcall : ∀ j as h v h1, j < 159 → call j as h = some (v, h1) → (h.2.2.2.2.1 ≤ h1.2.2.2.2.1 ∧ h.2.2.2.2.2 ≤ h1.2.2.2.2.2) ∧ am_Met b tU base Lx xs D cT l j as h v h1) (F : am_Fx p R s m args meth c mi) (Wd : am_Wd b tU base Lx xs D cT s s.heap) {v : Option Value} {h1 : am_H} (hR : h1.2.2.2.2.1 ≤ n0 + R.cells ∧ h1.2.2.2.2.2 ≤ m0 + R.slots)
    (kend : ∀ (i : Instr) (pc len : Nat) (lo : am_Lo) (st : List Value) (H : Heap) (locs : List Loc) (ls : Array Slot) (cells slots : Nat), decode (am_mb mi) pc = .ok (i, len) → len = am_len i len → am_step mi i pc lo st h1 = some (.inr (.inr v)) → am_St b tU base Lx xs D cT n0 m0 s mi h1 H locs ls lo cells slots → W p l e R s m args below meth c H locs cells slots Q (F0 m pc ls (st.map (am_cv (am_ad b tU base))))) :
    ∀ (n pc : Nat) (lo : am_Lo) (st : List Value) (h : am_H), am_run call mi n pc lo st h = some (v, h1) → ∀ (H : Heap) (locs : List Loc) (ls : Array Slot) (cells slots : Nat), am_St b tU base Lx xs D cT n0 m0 s mi h H locs ls lo cells slots → W p l e R s m args below meth c H locs cells slots Q (F0 m pc ls (st.map (am_cv (am_ad b tU base)))) := by
  intro n
  induction n with
  | zero => intro pc lo st h hr; simp [am_run] at hr
  | succ n ih =>
    intro pc lo st h hr H locs ls cells slots B
    rw [am_run] at hr
    cases hd : decode (am_mb mi) pc with
    | error e => rw [hd] at hr; exact absurd hr (by simp)
    | ok q =>
      obtain ⟨i, len⟩ := q
      rw [hd] at hr
      dsimp only at hr
      obtain ⟨hl, hr⟩ := am_if_some hr
      have hle := fun pc lo st h hr => am_run_le (mi := mi) (fun j as h v h1 hj hc => (hcall j as h v h1 hj hc).1) n pc lo st h v h1 hr
      cases hs : am_step mi i pc lo st h with
      | none => rw [hs] at hr; exact absurd hr (by simp)
      | some x =>
        rw [hs] at hr
        match x, hr, hs with
        | .inl (pc', lo', st', h'), hr, hs =>
          have h8 := hle _ _ _ _ hr
          exact am_ok F Wd B hd hl hs ⟨Nat.le_trans h8.1 hR.1, Nat.le_trans h8.2 hR.2⟩ (fun H' locs' ls' cells' slots' B' => ih _ _ _ _ hr _ _ _ _ _ B')
        | .inr (.inl (j, as, r)), hr, hs =>
          dsimp only at hr
          cases hcj : call j as h with
          | none => rw [hcj] at hr; exact absurd hr (by simp)
          | some y =>
            obtain ⟨w, h'⟩ := y
            rw [hcj] at hr
            have h9 := hcall j as h w h' (am_callee hs) hcj
            have h8 := hle _ _ _ _ hr
            exact am_okcall F Wd B hd hl hs h9.1 ⟨Nat.le_trans h8.1 hR.1, Nat.le_trans h8.2 hR.2⟩ h9.2 (fun H' locs' ls' cells' slots' B' => ih _ _ _ _ hr _ _ _ _ _ B')
        | .inr (.inr w), hr, hs =>
          simp only [Option.some.injEq, Prod.mk.injEq] at hr
          obtain ⟨rfl, rfl⟩ := hr
          exact kend i pc len lo st H locs ls cells slots hd hl hs B
theorem am_init_lh (as : List Value) (hl : (am_al0 as).length ≤ am_mL mi) {ad : Nat → Nat} : am_lh ad ((lg_sl (as.map (am_cv ad)) ++ List.replicate (am_mL mi - (lg_sl (as.map (am_cv ad))).length) Slot.unset).toArray) (am_mL mi) (am_init mi as) := by
  have hlen : ∀ as : List Value, (lg_sl (as.map (am_cv ad))).length = (am_al0 as).length := by
    intro as
    induction as with
    | nil => rfl
    | cons v l ih =>
      have e1 : lg_sl ((v :: l).map (am_cv ad)) = (if (am_cv ad v).category = 2 then [Slot.val (am_cv ad v), Slot.second] else [Slot.val (am_cv ad v)]) ++ lg_sl (l.map (am_cv ad)) := by simp [lg_sl]
      rw [e1, am_cv_cat, List.length_append, ih]
      by_cases hc : v.category = 2
      · simp [am_al0, hc]; omega
      · simp [am_al0, hc]; omega
  have hv := lv_entry (as.map (am_cv ad)) (n := am_mL mi) (by rw [hlen]; exact hl)
  have key : ∀ (as : List Value) (i j : Nat) (v : Value), (am_al0 as)[j]? = some (some v) → (i + j, am_cv ad v) ∈ lv_args i (as.map (am_cv ad)) := by
    intro as
    induction as with
    | nil => intro i j v h; simp [am_al0] at h
    | cons w l ih =>
      intro i j v h
      simp only [List.map_cons, lv_args, am_cv_cat]
      by_cases hc : w.category = 2
      · simp only [am_al0, hc, if_true] at h ⊢
        match j, h with
        | 0, h => simp at h; subst h; simp
        | 1, h => simp at h
        | j + 2, h =>
          have := ih (i + 2) j v (by simpa using h)
          rw [show i + (j + 2) = i + 2 + j by omega]
          exact List.mem_cons_of_mem _ this
      · simp only [am_al0, hc, if_false] at h ⊢
        match j, h with
        | 0, h => simp at h; subst h; simp
        | j + 1, h =>
          have := ih (i + 1) j v (by simpa using h)
          rw [show i + (j + 1) = i + 1 + j by omega]
          exact List.mem_cons_of_mem _ this
  refine ⟨hv.1, hv.2.1, ?_, fun i v hi => ?_⟩
  · unfold am_init; rw [List.length_append, List.length_replicate]; omega
  · unfold am_init at hi
    by_cases hlt : i < (am_al0 as).length
    · rw [List.getElem?_append_left hlt] at hi
      have := hv.2.2 _ (key as 0 i v hi)
      simpa using this
    · rw [List.getElem?_append_right (by omega)] at hi
      simp [List.getElem?_replicate] at hi
theorem am_call_ok : ∀ (f j : Nat) (as : List Value) (h : am_H) (v : Option Value) (h1 : am_H), j < 159 → am_call f j as h = some (v, h1) → (h.2.2.2.2.1 ≤ h1.2.2.2.2.1 ∧ h.2.2.2.2.2 ≤ h1.2.2.2.2.2) ∧ am_Met b tU base Lx xs D cT l j as h v h1 := by
  intro f
  induction f with
  | zero => intro j as h v h1 _ hr; simp [am_call] at hr
  | succ f ih =>
    intro j as h v h1 hj hr
    rw [am_call] at hr
    obtain ⟨hl, hr⟩ := am_if_some hr
    have hle := am_run_le (mi := j) (fun j as h v h1 hj hc => (ih j as h v h1 hj hc).1) f _ _ _ _ _ _ hr
    refine ⟨hle, ?_⟩
    obtain ⟨o1, o2, o3, o4, o5⟩ := am_mOK_all j hj
    refine Met.ofW (cc := am_mb j) (maxL := am_mL j) (ret := am_ret j) o1 rfl ?_
    intro p e s m args below meth c s₁ Bo hml hv
    obtain ⟨rfl, hWd, hP, hsz, hwf⟩ := hv
    have hts := atoms_spec (ws := am_ws j) Bo.pre
    have hown : s.vm.findClass (am_y j).cls = some m.cls := findClass_of_methodNamed Bo.named
    have hmn : meth.name = (am_y j).name := (name_of_methodNamed Bo.named Bo.method).1
    rw [lg_entry_eq]
    refine am_run_ok (b := b) (tU := tU) (base := base) (Lx := Lx) (xs := xs) (D := D) (cT := cT) (mi := j) (n0 := h.2.2.2.2.1) (m0 := h.2.2.2.2.2) (call := am_call f) ih ⟨Bo.exec, Bo.bytes, hml, by rw [← o5]; exact hown, fun w hw => hts w (List.mem_cons_of_mem _ hw), Bo.returns, Bo.notSynchronized, fun q => hmn.trans q, Nat.le_refl _, Nat.le_refl _⟩ hWd (v := v) (h1 := h1) ⟨?_, ?_⟩ ?_ f 0 (am_init j as) [] h hr s.heap [] _ 0 0 ⟨hP, va_S.rf, hsz, am_init_lh as hl, hwf, Nat.zero_add _, Nat.zero_add _⟩
    · show h1.2.2.2.2.1 ≤ h.2.2.2.2.1 + (h1.2.2.2.2.1 - h.2.2.2.2.1)
      omega
    · show h1.2.2.2.2.2 ≤ h.2.2.2.2.2 + (h1.2.2.2.2.2 - h.2.2.2.2.2)
      omega
    · intro i pc len lo st H locs ls cells slots hd hl2 hs B
      obtain ⟨gP, gS, gsz, gL, gwf, gce, gsl⟩ := B
      obtain rfl : h1.2.2.2.2.1 - h.2.2.2.2.1 = cells := by omega
      obtain rfl : h1.2.2.2.2.2 - h.2.2.2.2.2 = slots := by omega
      have hQ : ∀ t : State, t.heap = H → am_Qb b tU base Lx xs D cT v h1 (as.map (am_cv (am_ad b tU base))).toArray s (.returned (v.map (am_cv (am_ad b tU base)))) t := fun t ht => ⟨rfl, by rw [ht]; exact gP, by rw [ht]; exact gsz, gwf, gS.F ht⟩
      cases i with
      | ireturn =>
        obtain rfl : len = 1 := hl2
        simp only [am_step] at hs
        split at hs
        · split at hs
          · next t0 ht0 =>
            obtain ⟨hn, hs⟩ := am_if_some hs
            simp only [Option.some.injEq, Sum.inr.injEq] at hs
            subst hs
            exact W.zret Bo.exec Bo.bytes (Bo.returns.trans ht0) hn (fun t ht _ => hQ t ht) gS.2.2 hd Bo.notSynchronized
          · cases hs
        · cases hs
      | lreturn =>
        obtain rfl : len = 1 := hl2
        simp only [am_step] at hs
        split at hs
        · obtain ⟨hn, hs⟩ := am_if_some hs
          simp only [Option.some.injEq, Sum.inr.injEq] at hs
          subst hs
          exact W.lret Bo.exec Bo.bytes (Bo.returns.trans hn) (fun t ht _ => hQ t ht) gS.2.2 hd Bo.notSynchronized
        · cases hs
      | return_ =>
        obtain rfl : len = 1 := hl2
        simp only [am_step] at hs
        split at hs
        · obtain ⟨hn, hs⟩ := am_if_some hs
          simp only [Option.some.injEq, Sum.inr.injEq] at hs
          subst hs
          exact W.vret Bo.exec Bo.bytes (Bo.returns.trans hn) (fun t ht _ => hQ t ht) gS.2.2 hd Bo.notSynchronized
        · cases hs
      | _ =>
        exfalso
        simp only [am_step, am_int1, am_int2, am_lng1, am_lng2, am_ref1, am_ari, am_arv, am_ld, am_br, am_go] at hs
        (repeat' (split at hs)) <;> simp [am_nx] at hs
end SR
