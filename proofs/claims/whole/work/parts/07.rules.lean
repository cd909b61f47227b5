/-! the machine of numbers, an instruction a rule: each says what Ex is in terms of the next place -/
theorem am_dc {b b' : ByteArray} {pc : Nat} {r : Except DecodeError (Instr × Nat)} (e : b = b') (h : decode b' pc = r) : decode b pc = r := by rw [e]; exact h
section RU
variable {mi pc : Nat} {lo : am_Lo} {st : List Value} {I : am_I} {L : am_L} {P : am_P} {S : am_S} {Q : Option Value → am_I → am_L → am_P → am_S → Prop}
theorem ex_iconst {n : Int} {v : Int32} (hd : decode (am_mb mi) pc = .ok (.iconst n, 1)) (hv : Int32.ofInt n = v) : Ex mi pc lo st I L P S Q ↔ Ex mi (pc + 1) lo (.int v :: st) I L P S Q := by subst hv; exact ex_nx hd rfl rfl
theorem ex_bipush {n : Int} {v : Int32} (hd : decode (am_mb mi) pc = .ok (.bipush n, 2)) (hv : (Int8.ofInt n).toInt32 = v) : Ex mi pc lo st I L P S Q ↔ Ex mi (pc + 2) lo (.int v :: st) I L P S Q := by subst hv; exact ex_nx hd rfl rfl
theorem ex_sipush {n : Int} {v : Int32} (hd : decode (am_mb mi) pc = .ok (.sipush n, 3)) (hv : (Int16.ofInt n).toInt32 = v) : Ex mi pc lo st I L P S Q ↔ Ex mi (pc + 3) lo (.int v :: st) I L P S Q := by subst hv; exact ex_nx hd rfl rfl
theorem ex_lconst {n : Fin 2} {v : Int64} (hd : decode (am_mb mi) pc = .ok (.lconst n, 1)) (hv : Int64.ofNat (n : Nat) = v) : Ex mi pc lo st I L P S Q ↔ Ex mi (pc + 1) lo (.long v :: st) I L P S Q := by subst hv; exact ex_nx hd rfl rfl
theorem ex_ldc {idx : Nat} {v : Int32} (hd : decode (am_mb mi) pc = .ok (.ldc idx, 2)) (hv : am_KT.lookup (idx * 16 + am_own mi) = some v) : Ex mi pc lo st I L P S Q ↔ Ex mi (pc + 2) lo (.int v :: st) I L P S Q := ex_nx hd rfl (by simp only [am_step, hv])
theorem ex_ldc_w {idx : Nat} {v : Int32} (hd : decode (am_mb mi) pc = .ok (.ldc_w idx, 3)) (hv : am_KT.lookup (idx * 16 + am_own mi) = some v) : Ex mi pc lo st I L P S Q ↔ Ex mi (pc + 3) lo (.int v :: st) I L P S Q := ex_nx hd rfl (by simp only [am_step, hv])
theorem ex_ldc2_w {idx : Nat} {v : Int64} (hd : decode (am_mb mi) pc = .ok (.ldc2_w idx, 3)) (hv : am_LT.lookup (idx * 16 + am_own mi) = some v) : Ex mi pc lo st I L P S Q ↔ Ex mi (pc + 3) lo (.long v :: st) I L P S Q := ex_nx hd rfl (by simp only [am_step, hv])
theorem ex_iload {k : Nat} {x : Int32} {n : Nat} {i : Instr} (hd : decode (am_mb mi) pc = .ok (i, n)) (hi : (i = .iload k ∧ n = 2) ∨ ((∃ q : Fin 4, i = .iload_n q ∧ (q : Nat) = k) ∧ n = 1)) (hk : lo[k]? = some (some (.int x))) : Ex mi pc lo st I L P S Q ↔ Ex mi (pc + n) lo (.int x :: st) I L P S Q := by
  rcases hi with ⟨rfl, rfl⟩ | ⟨⟨q, rfl, rfl⟩, rfl⟩
  · exact ex_nx hd rfl (by simp only [am_step, am_ld, hk])
  · exact ex_nx hd rfl (by simp only [am_step, am_ld, hk])
theorem ex_lload {k : Nat} {x : Int64} {n : Nat} {i : Instr} (hd : decode (am_mb mi) pc = .ok (i, n)) (hi : (i = .lload k ∧ n = 2) ∨ ((∃ q : Fin 4, i = .lload_n q ∧ (q : Nat) = k) ∧ n = 1)) (hk : lo[k]? = some (some (.long x))) : Ex mi pc lo st I L P S Q ↔ Ex mi (pc + n) lo (.long x :: st) I L P S Q := by
  rcases hi with ⟨rfl, rfl⟩ | ⟨⟨q, rfl, rfl⟩, rfl⟩
  · exact ex_nx hd rfl (by simp only [am_step, am_ld, hk])
  · exact ex_nx hd rfl (by simp only [am_step, am_ld, hk])
theorem ex_aload {k : Nat} {x : Nat} {n : Nat} {i : Instr} (hd : decode (am_mb mi) pc = .ok (i, n)) (hi : (i = .aload k ∧ n = 2) ∨ ((∃ q : Fin 4, i = .aload_n q ∧ (q : Nat) = k) ∧ n = 1)) (hk : lo[k]? = some (some (.ref x))) : Ex mi pc lo st I L P S Q ↔ Ex mi (pc + n) lo (.ref x :: st) I L P S Q := by
  rcases hi with ⟨rfl, rfl⟩ | ⟨⟨q, rfl, rfl⟩, rfl⟩
  · exact ex_nx hd rfl (by simp only [am_step, am_ld, hk])
  · exact ex_nx hd rfl (by simp only [am_step, am_ld, hk])
theorem ex_istore {k : Nat} {x : Int32} {n : Nat} {i : Instr} {lo' : am_Lo} (hd : decode (am_mb mi) pc = .ok (i, n)) (hi : (i = .istore k ∧ n = 2) ∨ ((∃ q : Fin 4, i = .istore_n q ∧ (q : Nat) = k) ∧ n = 1)) (hk : k < lo.length) (hl : am_sto (.int x) lo k = lo') : Ex mi pc lo (.int x :: st) I L P S Q ↔ Ex mi (pc + n) lo' st I L P S Q := by
  subst hl
  rcases hi with ⟨rfl, rfl⟩ | ⟨⟨q, rfl, rfl⟩, rfl⟩
  · exact ex_nx hd rfl (by simp only [am_step, am_int1, hk, if_true])
  · exact ex_nx hd rfl (by simp only [am_step, am_int1, hk, if_true])
theorem ex_lstore {k : Nat} {x : Int64} {n : Nat} {i : Instr} {lo' : am_Lo} (hd : decode (am_mb mi) pc = .ok (i, n)) (hi : (i = .lstore k ∧ n = 2) ∨ ((∃ q : Fin 4, i = .lstore_n q ∧ (q : Nat) = k) ∧ n = 1)) (hk : k + 1 < lo.length) (hl : (am_sto (.long x) lo k).set (k + 1) none = lo') : Ex mi pc lo (.long x :: st) I L P S Q ↔ Ex mi (pc + n) lo' st I L P S Q := by
  subst hl
  rcases hi with ⟨rfl, rfl⟩ | ⟨⟨q, rfl, rfl⟩, rfl⟩
  · exact ex_nx hd rfl (by simp only [am_step, am_lng1, hk, if_true])
  · exact ex_nx hd rfl (by simp only [am_step, am_lng1, hk, if_true])
theorem ex_astore {k : Nat} {x : Nat} {n : Nat} {i : Instr} {lo' : am_Lo} (hd : decode (am_mb mi) pc = .ok (i, n)) (hi : (i = .astore k ∧ n = 2) ∨ ((∃ q : Fin 4, i = .astore_n q ∧ (q : Nat) = k) ∧ n = 1)) (hk : k < lo.length) (hl : am_sto (.ref x) lo k = lo') : Ex mi pc lo (.ref x :: st) I L P S Q ↔ Ex mi (pc + n) lo' st I L P S Q := by
  subst hl
  rcases hi with ⟨rfl, rfl⟩ | ⟨⟨q, rfl, rfl⟩, rfl⟩
  · exact ex_nx hd rfl (by simp only [am_step, am_ref1, hk, if_true])
  · exact ex_nx hd rfl (by simp only [am_step, am_ref1, hk, if_true])
theorem ex_iinc {k : Nat} {n : Int} {x v : Int32} {lo' : am_Lo} (hd : decode (am_mb mi) pc = .ok (.iinc k n, 3)) (hk : lo[k]? = some (some (.int x))) (hv : Int32.ofInt n = v) (hl : lo.set k (some (.int (x + v))) = lo') : Ex mi pc lo st I L P S Q ↔ Ex mi (pc + 3) lo' st I L P S Q := by
  subst hv; subst hl
  exact ex_nx hd rfl (by simp only [am_step, am_ld, hk])
theorem ex_iadd {x y : Int32} (hd : decode (am_mb mi) pc = .ok (.iadd, 1)) : Ex mi pc lo (.int y :: .int x :: st) I L P S Q ↔ Ex mi (pc + 1) lo (.int (x + y) :: st) I L P S Q := ex_nx hd rfl rfl
theorem ex_isub {x y : Int32} (hd : decode (am_mb mi) pc = .ok (.isub, 1)) : Ex mi pc lo (.int y :: .int x :: st) I L P S Q ↔ Ex mi (pc + 1) lo (.int (x - y) :: st) I L P S Q := ex_nx hd rfl rfl
theorem ex_imul {x y : Int32} (hd : decode (am_mb mi) pc = .ok (.imul, 1)) : Ex mi pc lo (.int y :: .int x :: st) I L P S Q ↔ Ex mi (pc + 1) lo (.int (x * y) :: st) I L P S Q := ex_nx hd rfl rfl
theorem ex_iand {x y : Int32} (hd : decode (am_mb mi) pc = .ok (.iand, 1)) : Ex mi pc lo (.int y :: .int x :: st) I L P S Q ↔ Ex mi (pc + 1) lo (.int (x &&& y) :: st) I L P S Q := ex_nx hd rfl rfl
theorem ex_ior {x y : Int32} (hd : decode (am_mb mi) pc = .ok (.ior, 1)) : Ex mi pc lo (.int y :: .int x :: st) I L P S Q ↔ Ex mi (pc + 1) lo (.int (x ||| y) :: st) I L P S Q := ex_nx hd rfl rfl
theorem ex_ixor {x y : Int32} (hd : decode (am_mb mi) pc = .ok (.ixor, 1)) : Ex mi pc lo (.int y :: .int x :: st) I L P S Q ↔ Ex mi (pc + 1) lo (.int (x ^^^ y) :: st) I L P S Q := ex_nx hd rfl rfl
theorem ex_ishl {x y : Int32} (hd : decode (am_mb mi) pc = .ok (.ishl, 1)) : Ex mi pc lo (.int y :: .int x :: st) I L P S Q ↔ Ex mi (pc + 1) lo (.int (x <<< (y &&& 31)) :: st) I L P S Q := ex_nx hd rfl rfl
theorem ex_ishr {x y : Int32} (hd : decode (am_mb mi) pc = .ok (.ishr, 1)) : Ex mi pc lo (.int y :: .int x :: st) I L P S Q ↔ Ex mi (pc + 1) lo (.int (x >>> (y &&& 31)) :: st) I L P S Q := ex_nx hd rfl rfl
theorem ex_iushr {x y : Int32} (hd : decode (am_mb mi) pc = .ok (.iushr, 1)) : Ex mi pc lo (.int y :: .int x :: st) I L P S Q ↔ Ex mi (pc + 1) lo (.int ((x.toUInt32 >>> (y.toUInt32 &&& Int32.toUInt32 31)).toInt32) :: st) I L P S Q := ex_nx hd rfl rfl
theorem ex_ineg {x : Int32} (hd : decode (am_mb mi) pc = .ok (.ineg, 1)) : Ex mi pc lo (.int x :: st) I L P S Q ↔ Ex mi (pc + 1) lo (.int (-x) :: st) I L P S Q := ex_nx hd rfl rfl
theorem ex_i2l {x : Int32} (hd : decode (am_mb mi) pc = .ok (.i2l, 1)) : Ex mi pc lo (.int x :: st) I L P S Q ↔ Ex mi (pc + 1) lo (.long (x.toInt64) :: st) I L P S Q := ex_nx hd rfl rfl
theorem ex_i2c {x : Int32} (hd : decode (am_mb mi) pc = .ok (.i2c, 1)) : Ex mi pc lo (.int x :: st) I L P S Q ↔ Ex mi (pc + 1) lo (.int ((x.toUInt32 % 65536).toInt32) :: st) I L P S Q := ex_nx hd rfl rfl
theorem ex_l2i {x : Int64} (hd : decode (am_mb mi) pc = .ok (.l2i, 1)) : Ex mi pc lo (.long x :: st) I L P S Q ↔ Ex mi (pc + 1) lo (.int (x.toInt32) :: st) I L P S Q := ex_nx hd rfl rfl
theorem ex_ladd {x y : Int64} (hd : decode (am_mb mi) pc = .ok (.ladd, 1)) : Ex mi pc lo (.long y :: .long x :: st) I L P S Q ↔ Ex mi (pc + 1) lo (.long (x + y) :: st) I L P S Q := ex_nx hd rfl rfl
theorem ex_lsub {x y : Int64} (hd : decode (am_mb mi) pc = .ok (.lsub, 1)) : Ex mi pc lo (.long y :: .long x :: st) I L P S Q ↔ Ex mi (pc + 1) lo (.long (x - y) :: st) I L P S Q := ex_nx hd rfl rfl
theorem ex_land {x y : Int64} (hd : decode (am_mb mi) pc = .ok (.land, 1)) : Ex mi pc lo (.long y :: .long x :: st) I L P S Q ↔ Ex mi (pc + 1) lo (.long (x &&& y) :: st) I L P S Q := ex_nx hd rfl rfl
theorem ex_lor {x y : Int64} (hd : decode (am_mb mi) pc = .ok (.lor, 1)) : Ex mi pc lo (.long y :: .long x :: st) I L P S Q ↔ Ex mi (pc + 1) lo (.long (x ||| y) :: st) I L P S Q := ex_nx hd rfl rfl
theorem ex_lxor {x y : Int64} (hd : decode (am_mb mi) pc = .ok (.lxor, 1)) : Ex mi pc lo (.long y :: .long x :: st) I L P S Q ↔ Ex mi (pc + 1) lo (.long (x ^^^ y) :: st) I L P S Q := ex_nx hd rfl rfl
theorem ex_lcmp {x y : Int64} (hd : decode (am_mb mi) pc = .ok (.lcmp, 1)) : Ex mi pc lo (.long y :: .long x :: st) I L P S Q ↔ Ex mi (pc + 1) lo (.int (lg_cmp x y) :: st) I L P S Q := ex_nx hd rfl rfl
theorem ex_lshl {y : Int32} {x : Int64} (hd : decode (am_mb mi) pc = .ok (.lshl, 1)) : Ex mi pc lo (.int y :: .long x :: st) I L P S Q ↔ Ex mi (pc + 1) lo (.long (x <<< (y.toInt64 &&& 63)) :: st) I L P S Q := ex_nx hd rfl rfl
theorem ex_lushr {y : Int32} {x : Int64} (hd : decode (am_mb mi) pc = .ok (.lushr, 1)) : Ex mi pc lo (.int y :: .long x :: st) I L P S Q ↔ Ex mi (pc + 1) lo (.long ((x.toUInt64 >>> (y.toInt64.toUInt64 &&& Int64.toUInt64 63)).toInt64) :: st) I L P S Q := ex_nx hd rfl rfl
theorem ex_idiv {x y : Int32} (hd : decode (am_mb mi) pc = .ok (.idiv, 1)) : Ex mi pc lo (.int y :: .int x :: st) I L P S Q ↔ ¬ y = 0 ∧ Ex mi (pc + 1) lo (.int (x / y) :: st) I L P S Q := by
  refine ex_nxc hd rfl inferInstance ?_
  by_cases h : y = 0 <;> simp [am_step, am_int2, h]
theorem ex_irem {x y : Int32} (hd : decode (am_mb mi) pc = .ok (.irem, 1)) : Ex mi pc lo (.int y :: .int x :: st) I L P S Q ↔ ¬ y = 0 ∧ Ex mi (pc + 1) lo (.int (x - x / y * y) :: st) I L P S Q := by
  refine ex_nxc hd rfl inferInstance ?_
  by_cases h : y = 0 <;> simp [am_step, am_int2, h]
theorem ex_dup_i {x : Int32} (hd : decode (am_mb mi) pc = .ok (.dup, 1)) : Ex mi pc lo (.int x :: st) I L P S Q ↔ Ex mi (pc + 1) lo (.int x :: .int x :: st) I L P S Q := ex_nx hd rfl rfl
theorem ex_dup_r {x : Nat} (hd : decode (am_mb mi) pc = .ok (.dup, 1)) : Ex mi pc lo (.ref x :: st) I L P S Q ↔ Ex mi (pc + 1) lo (.ref x :: .ref x :: st) I L P S Q := ex_nx hd rfl rfl
theorem ex_dup2 {x : Int32} {a : Nat} (hd : decode (am_mb mi) pc = .ok (.dup2, 1)) : Ex mi pc lo (.int x :: .ref a :: st) I L P S Q ↔ Ex mi (pc + 1) lo (.int x :: .ref a :: .int x :: .ref a :: st) I L P S Q := ex_nx hd rfl rfl
theorem ex_if_eq {x : Int32} {off : Int} {tgt : Nat} (hd : decode (am_mb mi) pc = .ok (.ifCond .eq off, 3)) (ht : (pc : Int) + off = (tgt : Int)) : Ex mi pc lo (.int x :: st) I L P S Q ↔ if x = 0 then Ex mi tgt lo st I L P S Q else Ex mi (pc + 3) lo st I L P S Q := ex_br (b := am_cb .eq x 0) hd rfl rfl ht rfl
theorem ex_icmp_eq {x y : Int32} {off : Int} {tgt : Nat} (hd : decode (am_mb mi) pc = .ok (.if_icmp .eq off, 3)) (ht : (pc : Int) + off = (tgt : Int)) : Ex mi pc lo (.int y :: .int x :: st) I L P S Q ↔ if x = y then Ex mi tgt lo st I L P S Q else Ex mi (pc + 3) lo st I L P S Q := ex_br (b := am_cb .eq x y) hd rfl rfl ht rfl
theorem ex_if_ne {x : Int32} {off : Int} {tgt : Nat} (hd : decode (am_mb mi) pc = .ok (.ifCond .ne off, 3)) (ht : (pc : Int) + off = (tgt : Int)) : Ex mi pc lo (.int x :: st) I L P S Q ↔ if ¬ x = 0 then Ex mi tgt lo st I L P S Q else Ex mi (pc + 3) lo st I L P S Q := ex_br (b := am_cb .ne x 0) hd rfl (by simp [am_cb]) ht rfl
theorem ex_icmp_ne {x y : Int32} {off : Int} {tgt : Nat} (hd : decode (am_mb mi) pc = .ok (.if_icmp .ne off, 3)) (ht : (pc : Int) + off = (tgt : Int)) : Ex mi pc lo (.int y :: .int x :: st) I L P S Q ↔ if ¬ x = y then Ex mi tgt lo st I L P S Q else Ex mi (pc + 3) lo st I L P S Q := ex_br (b := am_cb .ne x y) hd rfl (by simp [am_cb]) ht rfl
theorem ex_if_lt {x : Int32} {off : Int} {tgt : Nat} (hd : decode (am_mb mi) pc = .ok (.ifCond .lt off, 3)) (ht : (pc : Int) + off = (tgt : Int)) : Ex mi pc lo (.int x :: st) I L P S Q ↔ if x < 0 then Ex mi tgt lo st I L P S Q else Ex mi (pc + 3) lo st I L P S Q := ex_br (b := am_cb .lt x 0) hd rfl rfl ht rfl
theorem ex_icmp_lt {x y : Int32} {off : Int} {tgt : Nat} (hd : decode (am_mb mi) pc = .ok (.if_icmp .lt off, 3)) (ht : (pc : Int) + off = (tgt : Int)) : Ex mi pc lo (.int y :: .int x :: st) I L P S Q ↔ if x < y then Ex mi tgt lo st I L P S Q else Ex mi (pc + 3) lo st I L P S Q := ex_br (b := am_cb .lt x y) hd rfl rfl ht rfl
theorem ex_if_ge {x : Int32} {off : Int} {tgt : Nat} (hd : decode (am_mb mi) pc = .ok (.ifCond .ge off, 3)) (ht : (pc : Int) + off = (tgt : Int)) : Ex mi pc lo (.int x :: st) I L P S Q ↔ if 0 ≤ x then Ex mi tgt lo st I L P S Q else Ex mi (pc + 3) lo st I L P S Q := ex_br (b := am_cb .ge x 0) hd rfl rfl ht rfl
theorem ex_icmp_ge {x y : Int32} {off : Int} {tgt : Nat} (hd : decode (am_mb mi) pc = .ok (.if_icmp .ge off, 3)) (ht : (pc : Int) + off = (tgt : Int)) : Ex mi pc lo (.int y :: .int x :: st) I L P S Q ↔ if y ≤ x then Ex mi tgt lo st I L P S Q else Ex mi (pc + 3) lo st I L P S Q := ex_br (b := am_cb .ge x y) hd rfl rfl ht rfl
theorem ex_if_gt {x : Int32} {off : Int} {tgt : Nat} (hd : decode (am_mb mi) pc = .ok (.ifCond .gt off, 3)) (ht : (pc : Int) + off = (tgt : Int)) : Ex mi pc lo (.int x :: st) I L P S Q ↔ if 0 < x then Ex mi tgt lo st I L P S Q else Ex mi (pc + 3) lo st I L P S Q := ex_br (b := am_cb .gt x 0) hd rfl rfl ht rfl
theorem ex_icmp_gt {x y : Int32} {off : Int} {tgt : Nat} (hd : decode (am_mb mi) pc = .ok (.if_icmp .gt off, 3)) (ht : (pc : Int) + off = (tgt : Int)) : Ex mi pc lo (.int y :: .int x :: st) I L P S Q ↔ if y < x then Ex mi tgt lo st I L P S Q else Ex mi (pc + 3) lo st I L P S Q := ex_br (b := am_cb .gt x y) hd rfl rfl ht rfl
theorem ex_if_le {x : Int32} {off : Int} {tgt : Nat} (hd : decode (am_mb mi) pc = .ok (.ifCond .le off, 3)) (ht : (pc : Int) + off = (tgt : Int)) : Ex mi pc lo (.int x :: st) I L P S Q ↔ if x ≤ 0 then Ex mi tgt lo st I L P S Q else Ex mi (pc + 3) lo st I L P S Q := ex_br (b := am_cb .le x 0) hd rfl rfl ht rfl
theorem ex_icmp_le {x y : Int32} {off : Int} {tgt : Nat} (hd : decode (am_mb mi) pc = .ok (.if_icmp .le off, 3)) (ht : (pc : Int) + off = (tgt : Int)) : Ex mi pc lo (.int y :: .int x :: st) I L P S Q ↔ if x ≤ y then Ex mi tgt lo st I L P S Q else Ex mi (pc + 3) lo st I L P S Q := ex_br (b := am_cb .le x y) hd rfl rfl ht rfl
theorem ex_goto {off : Int} {tgt : Nat} (hd : decode (am_mb mi) pc = .ok (.goto off, 3)) (ht : (pc : Int) + off = (tgt : Int)) : Ex mi pc lo st I L P S Q ↔ Ex mi tgt lo st I L P S Q := ex_go hd rfl ht rfl
/-- switches: the keys from k on -/
def am_tE (x : Int32) : Int → List Nat → Prop → (Nat → Prop) → Prop
  | _, [], d, _ => d
  | k, t :: l, d, F => if x = Int32.ofInt k then F t else am_tE x (k + 1) l d F
theorem am_tE_out {x : Int32} {d : Prop} {F : Nat → Prop} : ∀ (l : List Nat) (k : Int), -2 ^ 31 ≤ k → k + l.length ≤ 2 ^ 31 → (x.toInt < k ∨ k + l.length ≤ x.toInt) → (am_tE x k l d F ↔ d)
  | [], k, _, _, _ => Iff.rfl
  | t :: l, k, h1, h2, h => by
    simp only [List.length_cons, Int.natCast_add, Int.natCast_one] at h2 h
    have hne : ¬ x = Int32.ofInt k := fun q => by
      have e := congrArg Int32.toInt q
      rw [Int32.toInt_ofInt_of_le (by omega) (by omega)] at e
      omega
    show (if x = Int32.ofInt k then F t else am_tE x (k + 1) l d F) ↔ d
    rw [if_neg hne]
    exact am_tE_out l (k + 1) (by omega) (by omega) (by omega)
theorem am_tE_in {x : Int32} {d : Prop} {F : Nat → Prop} : ∀ (l : List Nat) (k : Int), -2 ^ 31 ≤ k → k + l.length ≤ 2 ^ 31 → k ≤ x.toInt → ∀ t, l[(x.toInt - k).toNat]? = some t → (am_tE x k l d F ↔ F t)
  | [], k, _, _, _, t, h => by simp at h
  | u :: l, k, h1, h2, h3, t, h => by
    simp only [List.length_cons, Int.natCast_add, Int.natCast_one] at h2
    show (if x = Int32.ofInt k then F u else am_tE x (k + 1) l d F) ↔ F t
    by_cases hk : x.toInt = k
    · have e : x = Int32.ofInt k := by rw [← hk, Int32.ofInt_toInt]
      rw [if_pos e]
      rw [hk, Int.sub_self] at h
      simp at h
      rw [h]
    · have hne : ¬ x = Int32.ofInt k := fun q => by
        have e := congrArg Int32.toInt q
        rw [Int32.toInt_ofInt_of_le (by omega) (by omega)] at e
        exact hk e
      rw [if_neg hne]
      refine am_tE_in l (k + 1) (by omega) (by omega) (by omega) t ?_
      rw [show (x.toInt - k).toNat = (x.toInt - (k + 1)).toNat + 1 by omega, List.getElem?_cons_succ] at h
      exact h
theorem ex_table {d u w : Int} {offs : Array Int} {n dt : Nat} {l : List Nat} {x : Int32} (hd : decode (am_mb mi) pc = .ok (.tableswitch d u w offs, n)) (hdt : (pc : Int) + d = (dt : Int)) (hu : -2 ^ 31 ≤ u) (hlen : (l.length : Int) = w - u + 1) (hw : w < 2 ^ 31) (hl : offs.toList.map (fun o => (pc : Int) + o) = l.map (fun t : Nat => (t : Int))) :
    Ex mi pc lo (.int x :: st) I L P S Q ↔ am_tE x u l (Ex mi dt lo st I L P S Q) (fun t => Ex mi t lo st I L P S Q) := by
  by_cases hx : x.toInt < u ∨ w < x.toInt
  · rw [am_tE_out l u hu (by omega) (by omega)]
    exact ex_go hd rfl hdt (by simp only [am_step, am_int1, if_pos hx])
  · have hi : (x.toInt - u).toNat < l.length := by omega
    have hg : l[(x.toInt - u).toNat]? = some l[(x.toInt - u).toNat] := List.getElem?_eq_getElem hi
    rw [am_tE_in l u hu (by omega) (by omega) _ hg]
    have ho : (offs.toList.map (fun o => (pc : Int) + o))[(x.toInt - u).toNat]? = some ((l[(x.toInt - u).toNat] : Nat) : Int) := by
      rw [hl, List.getElem?_map, hg]; rfl
    rw [List.getElem?_map] at ho
    cases hq : offs.toList[(x.toInt - u).toNat]? with
    | none => rw [hq] at ho; cases ho
    | some o =>
      rw [hq] at ho
      have ho2 : offs[(x.toInt - u).toNat]? = some o := by rw [← hq]; simp
      exact ex_go hd rfl (Option.some.inj ho) (by simp only [am_step, am_int1, if_neg hx, ho2])
def am_lE (x : Int32) : List (Int × Nat) → Prop → (Nat → Prop) → Prop
  | [], d, _ => d
  | (k, t) :: l, d, F => if x = Int32.ofInt k then F t else am_lE x l d F
theorem ex_lookup {d : Int} {ps : Array (Int × Int)} {n dt : Nat} {l : List (Int × Nat)} {x : Int32} (hd : decode (am_mb mi) pc = .ok (.lookupswitch d ps, n)) (hdt : (pc : Int) + d = (dt : Int)) (hs : (ps.toList.zip (ps.toList.drop 1)).all (fun (a, next) => a.1 < next.1) = true) (hb : ∀ q ∈ l, -2 ^ 31 ≤ q.1 ∧ q.1 < 2 ^ 31) (hl : ps.toList.map (fun q => (q.1, (pc : Int) + q.2)) = l.map (fun q : Int × Nat => (q.1, (q.2 : Int)))) :
    Ex mi pc lo (.int x :: st) I L P S Q ↔ am_lE x l (Ex mi dt lo st I L P S Q) (fun t => Ex mi t lo st I L P S Q) := by
  have key : ∀ (p2 : List (Int × Int)) (l2 : List (Int × Nat)), (∀ q ∈ l2, -2 ^ 31 ≤ q.1 ∧ q.1 < 2 ^ 31) → p2.map (fun q => (q.1, (pc : Int) + q.2)) = l2.map (fun q : Int × Nat => (q.1, (q.2 : Int))) → ∃ t : Nat, (pc : Int) + Op.lookupswitch.offset p2 d x.toInt = (t : Int) ∧ (am_lE x l2 (Ex mi dt lo st I L P S Q) (fun t => Ex mi t lo st I L P S Q) ↔ Ex mi t lo st I L P S Q) := by
    intro p2
    induction p2 with
    | nil =>
      intro l2 _ h2
      cases l2 with
      | nil => exact ⟨dt, hdt, Iff.rfl⟩
      | cons a l2 => simp at h2
    | cons a p2 ih =>
      intro l2 hb2 h2
      cases l2 with
      | nil => simp at h2
      | cons c l2 =>
        obtain ⟨k, o⟩ := a
        obtain ⟨k2, t⟩ := c
        simp only [List.map_cons, List.cons.injEq, Prod.mk.injEq] at h2
        obtain ⟨⟨rfl, h3⟩, h4⟩ := h2
        have hb3 := hb2 (k, t) List.mem_cons_self
        rw [Op.lookupswitch.offset_cons]
        by_cases hx : x.toInt = k
        · refine ⟨t, ?_, ?_⟩
          · rw [if_pos (by first | exact hx | exact hx.symm)]; exact h3
          · show (if x = Int32.ofInt k then _ else _) ↔ _
            rw [if_pos (by rw [← hx, Int32.ofInt_toInt])]
        · obtain ⟨t2, e1, e2⟩ := ih l2 (fun q hq => hb2 q (List.mem_cons_of_mem _ hq)) h4
          refine ⟨t2, ?_, ?_⟩
          · rw [if_neg (by first | exact hx | exact fun q => hx q.symm)]; exact e1
          · show (if x = Int32.ofInt k then _ else am_lE x l2 _ _) ↔ _
            rw [if_neg]
            · exact e2
            · intro q
              have e := congrArg Int32.toInt q
              rw [Int32.toInt_ofInt_of_le (by omega) (by omega)] at e
              exact hx e
  obtain ⟨t, e1, e2⟩ := key ps.toList l hb hl
  rw [e2]
  exact ex_go hd rfl e1 (by simp only [am_step, am_int1, hs, if_true])
theorem ex_gfi {idx ci k a : Nat} (hd : decode (am_mb mi) pc = .ok (.getfield idx, 3)) (hf : am_FT.lookup (idx * 16 + am_own mi) = some (ci, k)) (ht : am_isI (am_ty ci k) = true) : Ex mi pc lo (.ref a :: st) I L P S Q ↔ (S.1 a).1 = ci + 1 ∧ Ex mi (pc + 3) lo (.int (I a k) :: st) I L P S Q :=
  ex_nxc hd rfl inferInstance (by simp only [am_step, am_ref1, hf, ht, if_true])
theorem ex_gfl {idx ci k a : Nat} (hd : decode (am_mb mi) pc = .ok (.getfield idx, 3)) (hf : am_FT.lookup (idx * 16 + am_own mi) = some (ci, k)) (ht : am_ty ci k = .long) : Ex mi pc lo (.ref a :: st) I L P S Q ↔ (S.1 a).1 = ci + 1 ∧ Ex mi (pc + 3) lo (.long (L a k) :: st) I L P S Q :=
  ex_nxc hd rfl inferInstance (by simp [am_step, am_ref1, hf, ht, am_isI])
theorem ex_gfr {idx ci k a : Nat} (hd : decode (am_mb mi) pc = .ok (.getfield idx, 3)) (hf : am_FT.lookup (idx * 16 + am_own mi) = some (ci, k)) (ht : am_isR (am_ty ci k) = true) : Ex mi pc lo (.ref a :: st) I L P S Q ↔ ((S.1 a).1 = ci + 1 ∧ ¬ P a k = 0) ∧ Ex mi (pc + 3) lo (.ref (P a k) :: st) I L P S Q := by
  have h1 : am_isI (am_ty ci k) = false ∧ am_ty ci k ≠ .long := by
    cases h : am_ty ci k <;> rw [h] at ht <;> first | (exact absurd ht (by decide)) | exact ⟨rfl, fun q => by cases q⟩
  refine ex_nxc hd rfl inferInstance ?_
  by_cases hc : (S.1 a).1 = ci + 1 <;> by_cases hp : P a k = 0 <;> simp [am_step, am_ref1, hf, ht, h1.1, h1.2, hc, hp]
theorem ex_pfi {idx ci k a : Nat} {x : Int32} (hd : decode (am_mb mi) pc = .ok (.putfield idx, 3)) (hf : am_FT.lookup (idx * 16 + am_own mi) = some (ci, k)) (ht : am_isI (am_ty ci k) = true) (hfi : ((am_T ci) k).2.2.2 = false) : Ex mi pc lo (.int x :: .ref a :: st) I L P S Q ↔ ((S.1 a).1 = ci + 1 ∧ am_fit (am_ty ci k) x) ∧ Ex mi (pc + 3) lo st (am_u I a k x) L P S Q := by
  refine ex_nxc hd rfl inferInstance ?_
  by_cases hc : (S.1 a).1 = ci + 1 <;> by_cases hp : am_fit (am_ty ci k) x <;> simp [am_step, hf, ht, hfi, hc, hp]
theorem ex_pfl {idx ci k a : Nat} {x : Int64} (hd : decode (am_mb mi) pc = .ok (.putfield idx, 3)) (hf : am_FT.lookup (idx * 16 + am_own mi) = some (ci, k)) (ht : am_ty ci k = .long) (hfi : ((am_T ci) k).2.2.2 = false) : Ex mi pc lo (.long x :: .ref a :: st) I L P S Q ↔ (S.1 a).1 = ci + 1 ∧ Ex mi (pc + 3) lo st I (am_u L a k x) P S Q := by
  refine ex_nxc hd rfl inferInstance ?_
  by_cases hc : (S.1 a).1 = ci + 1 <;> simp [am_step, hf, ht, hfi, hc]
theorem ex_pfr {idx ci k a x : Nat} (hd : decode (am_mb mi) pc = .ok (.putfield idx, 3)) (hf : am_FT.lookup (idx * 16 + am_own mi) = some (ci, k)) (ht : am_isR (am_ty ci k) = true) (hfi : ((am_T ci) k).2.2.2 = true → (am_y mi).name = "<init>" ∧ am_C ci = am_cn (am_own mi)) : Ex mi pc lo (.ref x :: .ref a :: st) I L P S Q ↔ ((S.1 a).1 = ci + 1 ∧ ¬ x = 0) ∧ Ex mi (pc + 3) lo st I L (am_u P a k x) S Q := by
  refine ex_nxc hd rfl inferInstance ?_
  have key : ((S.1 a).1 = ci + 1 ∧ (((am_T ci) k).2.2.2 = true → (am_y mi).name = "<init>" ∧ am_C ci = am_cn (am_own mi))) ↔ (S.1 a).1 = ci + 1 := ⟨And.left, fun h => ⟨h, hfi⟩⟩
  simp only [am_step, hf, key]
  by_cases hc : (S.1 a).1 = ci + 1 <;> by_cases hp : x = 0 <;> simp [ht, hc, hp]
theorem ex_getstatic {idx : Nat} (hd : decode (am_mb mi) pc = .ok (.getstatic idx, 3)) (hq : (am_own mi, idx) = am_UN) : Ex mi pc lo st I L P S Q ↔ Ex mi (pc + 3) lo (.ref 2 :: st) I L P S Q := ex_nx hd rfl (by simp only [am_step, hq, if_true])
theorem ex_iaload {a : Nat} {i : Int32} (hd : decode (am_mb mi) pc = .ok (.iaload, 1)) : Ex mi pc lo (.int i :: .ref a :: st) I L P S Q ↔ ((S.1 a).1 = 20 ∧ am_in i (S.1 a).2) ∧ Ex mi (pc + 1) lo (.int (I a i.toNatClampNeg) :: st) I L P S Q := ex_nxc hd rfl inferInstance rfl
theorem ex_caload {a : Nat} {i : Int32} (hd : decode (am_mb mi) pc = .ok (.caload, 1)) : Ex mi pc lo (.int i :: .ref a :: st) I L P S Q ↔ ((S.1 a).1 = 22 ∧ am_in i (S.1 a).2) ∧ Ex mi (pc + 1) lo (.int (I a i.toNatClampNeg) :: st) I L P S Q := ex_nxc hd rfl inferInstance rfl
theorem ex_baload {a : Nat} {i : Int32} (hd : decode (am_mb mi) pc = .ok (.baload, 1)) : Ex mi pc lo (.int i :: .ref a :: st) I L P S Q ↔ ((S.1 a).1 = 23 ∧ am_in i (S.1 a).2) ∧ Ex mi (pc + 1) lo (.int (I a i.toNatClampNeg) :: st) I L P S Q := ex_nxc hd rfl inferInstance rfl
theorem ex_laload {a : Nat} {i : Int32} (hd : decode (am_mb mi) pc = .ok (.laload, 1)) : Ex mi pc lo (.int i :: .ref a :: st) I L P S Q ↔ ((S.1 a).1 = 21 ∧ am_in i (S.1 a).2) ∧ Ex mi (pc + 1) lo (.long (L a i.toNatClampNeg) :: st) I L P S Q := ex_nxc hd rfl inferInstance rfl
theorem ex_aaload {a : Nat} {i : Int32} (hd : decode (am_mb mi) pc = .ok (.aaload, 1)) : Ex mi pc lo (.int i :: .ref a :: st) I L P S Q ↔ ((S.1 a).1 = 24 ∧ am_in i (S.1 a).2 ∧ P a i.toNatClampNeg ≠ 0) ∧ Ex mi (pc + 1) lo (.ref (P a i.toNatClampNeg) :: st) I L P S Q := ex_nxc hd rfl inferInstance rfl
theorem ex_iastore {a : Nat} {i x : Int32} (hd : decode (am_mb mi) pc = .ok (.iastore, 1)) : Ex mi pc lo (.int x :: .int i :: .ref a :: st) I L P S Q ↔ ((S.1 a).1 = 20 ∧ am_in i (S.1 a).2 ∧ 3 ≤ a) ∧ Ex mi (pc + 1) lo st (am_u I a i.toNatClampNeg x) L P S Q := ex_nxc hd rfl inferInstance rfl
theorem ex_castore {a : Nat} {i x : Int32} (hd : decode (am_mb mi) pc = .ok (.castore, 1)) : Ex mi pc lo (.int x :: .int i :: .ref a :: st) I L P S Q ↔ ((S.1 a).1 = 22 ∧ am_in i (S.1 a).2) ∧ Ex mi (pc + 1) lo st (am_u I a i.toNatClampNeg (vp_nar .char x)) L P S Q := ex_nxc hd rfl inferInstance rfl
theorem ex_bastore {a : Nat} {i x : Int32} (hd : decode (am_mb mi) pc = .ok (.bastore, 1)) : Ex mi pc lo (.int x :: .int i :: .ref a :: st) I L P S Q ↔ ((S.1 a).1 = 23 ∧ am_in i (S.1 a).2) ∧ Ex mi (pc + 1) lo st (am_u I a i.toNatClampNeg (vp_nar .boolean x)) L P S Q := ex_nxc hd rfl inferInstance rfl
theorem ex_lastore {a : Nat} {i : Int32} {x : Int64} (hd : decode (am_mb mi) pc = .ok (.lastore, 1)) : Ex mi pc lo (.long x :: .int i :: .ref a :: st) I L P S Q ↔ ((S.1 a).1 = 21 ∧ am_in i (S.1 a).2) ∧ Ex mi (pc + 1) lo st I (am_u L a i.toNatClampNeg x) P S Q := ex_nxc hd rfl inferInstance rfl
theorem ex_aastore {a x : Nat} {i : Int32} (hd : decode (am_mb mi) pc = .ok (.aastore, 1)) : Ex mi pc lo (.ref x :: .int i :: .ref a :: st) I L P S Q ↔ ((S.1 a).1 = 24 ∧ am_in i (S.1 a).2 ∧ (S.1 x).1 = 4) ∧ Ex mi (pc + 1) lo st I L (am_u P a i.toNatClampNeg x) S Q := ex_nxc hd rfl inferInstance rfl
theorem ex_alen {a : Nat} (hd : decode (am_mb mi) pc = .ok (.arraylength, 1)) : Ex mi pc lo (.ref a :: st) I L P S Q ↔ (20 ≤ (S.1 a).1 ∧ (S.1 a).1 ≤ 24 ∧ a ≠ 2) ∧ Ex mi (pc + 1) lo (.int (Int32.ofNat (S.1 a).2) :: st) I L P S Q := ex_nxc hd rfl inferInstance rfl
theorem ex_iv {idx j b : Nat} {as r : List Value} (hd : decode (am_mb mi) pc = .ok (.invokevirtual idx, 3)) (hm : am_MT.lookup (idx * 16 + am_own mi) = some (0, j)) (hrk : am_rk j < am_rk mi ∧ 19 + am_mL j + am_lr j ≤ am_lr mi) {cj : Nat} (hcj : am_own j + 1 = cj) {pc' : Nat} (hpc : pc + 3 = pc') (hst : st.drop (am_np j) = .ref b :: r ∧ (st.take (am_np j)).reverse = as) :
    Ex mi pc lo st I L P S Q ↔ ((S.1 b).1 = cj ∧ am_wsum r ≤ 8) ∧ Ev j (.ref b :: as) I L P S (fun v I L P S => Ex mi pc' lo (am_rs v r) I L P S Q) := by
  subst hcj; subst hpc
  obtain ⟨h1, rfl⟩ := hst
  refine ex_call hd rfl inferInstance ?_
  simp only [am_step, hm, h1]
  by_cases hc : (S.1 b).1 = am_own j + 1 <;> by_cases hw : am_wsum r ≤ 8 <;> simp [hc, hw, hrk]
theorem ex_is {idx j : Nat} {as r : List Value} (hd : decode (am_mb mi) pc = .ok (.invokestatic idx, 3)) (hm : am_MT.lookup (idx * 16 + am_own mi) = some (1, j)) (hrk : am_rk j < am_rk mi ∧ 19 + am_mL j + am_lr j ≤ am_lr mi) {pc' : Nat} (hpc : pc + 3 = pc') (hst : st.drop (am_np j) = r ∧ (st.take (am_np j)).reverse = as ∧ (st.take (am_np j)).length = am_np j) :
    Ex mi pc lo st I L P S Q ↔ am_wsum r ≤ 8 ∧ Ev j as I L P S (fun v I L P S => Ex mi pc' lo (am_rs v r) I L P S Q) := by
  subst hpc
  obtain ⟨rfl, rfl, h1⟩ := hst
  refine ex_call hd rfl inferInstance ?_
  simp only [am_step, hm, h1]
  by_cases hw : am_wsum (st.drop (am_np j)) ≤ 8 <;> simp [hw, hrk]
theorem ex_ii {idx kd j b : Nat} {as r : List Value} (hd : decode (am_mb mi) pc = .ok (.invokespecial idx, 3)) (hm : am_MT.lookup (idx * 16 + am_own mi) = some (kd, j)) (hkd : kd = 2 ∨ kd = 3) (hrk : am_rk j < am_rk mi ∧ 19 + am_mL j + am_lr j ≤ am_lr mi) {pc' : Nat} (hpc : pc + 3 = pc') (hst : st.drop (am_np j) = .ref b :: r ∧ (st.take (am_np j)).reverse = as) :
    Ex mi pc lo st I L P S Q ↔ am_wsum r ≤ 8 ∧ Ev j (.ref b :: as) I L P S (fun v I L P S => Ex mi pc' lo (am_rs v r) I L P S Q) := by
  subst hpc
  obtain ⟨h1, rfl⟩ := hst
  refine ex_call hd rfl inferInstance ?_
  rcases hkd with rfl | rfl <;> (simp only [am_step, hm, h1]; by_cases hw : am_wsum r ≤ 8 <;> simp [hw, hrk])
theorem ex_io {idx z a : Nat} (hd : decode (am_mb mi) pc = .ok (.invokespecial idx, 3)) (hm : am_MT.lookup (idx * 16 + am_own mi) = some (8, z)) (hrk : 1 ≤ am_rk mi ∧ 40 ≤ am_lr mi) : Ex mi pc lo (.ref a :: st) I L P S Q ↔ am_wsum st ≤ 8 ∧ Ex mi (pc + 3) lo st I L P S Q := by
  refine ex_nxc hd rfl inferInstance ?_
  by_cases hw : am_wsum st ≤ 8 <;> simp [am_step, am_ref1, hm, hrk, hw]
/-- one more cell's kind -/
def am_sx (sh : Nat → Nat × Nat) (q : Nat) (v : Nat × Nat) : Nat → Nat × Nat := fun b => if b = q then v else sh b
theorem ex_new {idx ci n m : Nat} {sh : Nat → Nat × Nat} (hd : decode (am_mb mi) pc = .ok (.new idx, 3)) (hf : am_CT.lookup (idx * 16 + am_own mi) = some ci) {N : Nat} (hN : am_N ci = N) : Ex mi pc lo st I L P (sh, n, m) Q ↔ Ex mi (pc + 3) lo (.ref (n + 3) :: st) (am_row I (n + 3) (fun _ => 0)) (am_row L (n + 3) (fun _ => 0)) (am_row P (n + 3) (fun _ => 0)) (am_sx sh (n + 3) (ci + 1, 0), n + 1, m + N) Q := by
  subst hN
  exact ex_nx hd rfl (by simp only [am_step, hf]; rfl)
theorem ex_newarray {t : ArrayType} {n m kd : Nat} {sh : Nat → Nat × Nat} {x : Int32} (hd : decode (am_mb mi) pc = .ok (.newarray t, 2)) (hk : am_akind t = kd) (hk0 : kd ≠ 0) : Ex mi pc lo (.int x :: st) I L P (sh, n, m) Q ↔ (¬ x < 0 ∧ x.toNatClampNeg ≤ 100000) ∧ Ex mi (pc + 2) lo (.ref (n + 3) :: st) (am_row I (n + 3) (fun _ => 0)) (am_row L (n + 3) (fun _ => 0)) (am_row P (n + 3) (fun _ => 0)) (am_sx sh (n + 3) (kd, x.toNatClampNeg), n + 1, m + x.toNatClampNeg) Q := by
  subst hk
  refine ex_nxc hd rfl inferInstance ?_
  by_cases h1 : x < 0 <;> by_cases h2 : x.toNatClampNeg ≤ 100000 <;> simp [am_step, am_int1, h1, h2, hk0] <;> rfl
theorem ex_anewarray {idx n m : Nat} {sh : Nat → Nat × Nat} {x : Int32} (hd : decode (am_mb mi) pc = .ok (.anewarray idx, 3)) (hf : am_CT.lookup (idx * 16 + am_own mi) = some 3) : Ex mi pc lo (.int x :: st) I L P (sh, n, m) Q ↔ (¬ x < 0 ∧ x.toNatClampNeg ≤ 100000) ∧ Ex mi (pc + 3) lo (.ref (n + 3) :: st) (am_row I (n + 3) (fun _ => 0)) (am_row L (n + 3) (fun _ => 0)) (am_row P (n + 3) (fun _ => 0)) (am_sx sh (n + 3) (24, x.toNatClampNeg), n + 1, m + x.toNatClampNeg) Q := by
  refine ex_nxc hd rfl inferInstance ?_
  by_cases h1 : x < 0 <;> by_cases h2 : x.toNatClampNeg ≤ 100000 <;> simp [am_step, am_int1, h1, h2, hf] <;> rfl
theorem ex_abs {idx z : Nat} {x : Int32} (hd : decode (am_mb mi) pc = .ok (.invokestatic idx, 3)) (hm : am_MT.lookup (idx * 16 + am_own mi) = some (10, z)) (hrk : 1 ≤ am_rk mi ∧ 40 ≤ am_lr mi) : Ex mi pc lo (.int x :: st) I L P S Q ↔ am_wsum st ≤ 8 ∧ Ex mi (pc + 3) lo (.int (if 0 ≤ x then x else 0 - x) :: st) I L P S Q := by
  refine ex_nxc hd rfl inferInstance ?_
  by_cases hw : am_wsum st ≤ 8 <;> simp [am_step, am_int1, hm, hrk, hw]
theorem ex_max {idx z : Nat} {x y : Int32} (hd : decode (am_mb mi) pc = .ok (.invokestatic idx, 3)) (hm : am_MT.lookup (idx * 16 + am_own mi) = some (11, z)) (hrk : 1 ≤ am_rk mi ∧ 40 ≤ am_lr mi) : Ex mi pc lo (.int y :: .int x :: st) I L P S Q ↔ am_wsum st ≤ 8 ∧ Ex mi (pc + 3) lo (.int (if x < y then y else x) :: st) I L P S Q := by
  refine ex_nxc hd rfl inferInstance ?_
  by_cases hw : am_wsum st ≤ 8 <;> simp [am_step, am_int2, hm, hrk, hw]
theorem ex_min {idx z : Nat} {x y : Int32} (hd : decode (am_mb mi) pc = .ok (.invokestatic idx, 3)) (hm : am_MT.lookup (idx * 16 + am_own mi) = some (12, z)) (hrk : 1 ≤ am_rk mi ∧ 40 ≤ am_lr mi) : Ex mi pc lo (.int y :: .int x :: st) I L P S Q ↔ am_wsum st ≤ 8 ∧ Ex mi (pc + 3) lo (.int (if y < x then y else x) :: st) I L P S Q := by
  refine ex_nxc hd rfl inferInstance ?_
  by_cases hw : am_wsum st ≤ 8 <;> simp [am_step, am_int2, hm, hrk, hw]
theorem ex_copy {idx z a a0 : Nat} {n dp sp : Int32} (hd : decode (am_mb mi) pc = .ok (.invokestatic idx, 3)) (hm : am_MT.lookup (idx * 16 + am_own mi) = some (9, z)) (hrk : 1 ≤ am_rk mi ∧ 40 ≤ am_lr mi) :
    Ex mi pc lo (.int n :: .int dp :: .ref a :: .int sp :: .ref a0 :: st) I L P S Q ↔ (am_wsum st ≤ 8 ∧ (S.1 a0).1 = 20 ∧ (S.1 a).1 = 20 ∧ 3 ≤ a0 ∧ 3 ≤ a ∧ ¬ sp < 0 ∧ ¬ dp < 0 ∧ ¬ n < 0 ∧ sp.toNatClampNeg + n.toNatClampNeg ≤ (S.1 a0).2 ∧ dp.toNatClampNeg + n.toNatClampNeg ≤ (S.1 a).2) ∧ Ex mi (pc + 3) lo st (am_row I a (va_cpy (I a0) (I a) sp.toNatClampNeg dp.toNatClampNeg n.toNatClampNeg)) L P S Q := by
  refine ex_nxc hd rfl inferInstance ?_
  simp only [am_step, hm]
  by_cases hw : am_wsum st ≤ 8
  · simp only [hw, am_leaf, hrk, and_self, true_and]
  · simp [hw]
theorem ex_ireti {v : Int32} (hd : decode (am_mb mi) pc = .ok (.ireturn, 1)) (hr : am_ret mi = some .int) : Ex mi pc lo [.int v] I L P S Q ↔ Q (some (.int v)) I L P S := by
  have h := ex_ret (mi := mi) (pc := pc) (lo := lo) (st := [.int v]) (I := I) (L := L) (P := P) (S := S) (Q := Q) hd rfl (c := True) inferInstance (v := some (.int v)) (by simp [am_step, hr, vp_nar_int])
  simpa using h
theorem ex_iretz {v : Int32} (hd : decode (am_mb mi) pc = .ok (.ireturn, 1)) (hr : am_ret mi = some .boolean) : Ex mi pc lo [.int v] I L P S Q ↔ narrow .boolean (.int v) = .int v ∧ Q (some (.int v)) I L P S :=
  ex_ret hd rfl inferInstance (by simp only [am_step, hr])
theorem ex_lret {v : Int64} (hd : decode (am_mb mi) pc = .ok (.lreturn, 1)) (hr : am_ret mi = some .long) : Ex mi pc lo [.long v] I L P S Q ↔ Q (some (.long v)) I L P S := by
  have h := ex_ret (mi := mi) (pc := pc) (lo := lo) (st := [.long v]) (I := I) (L := L) (P := P) (S := S) (Q := Q) hd rfl (c := True) inferInstance (v := some (.long v)) (by simp [am_step, hr])
  simpa using h
theorem ex_vret (hd : decode (am_mb mi) pc = .ok (.return_, 1)) (hr : am_ret mi = none) : Ex mi pc lo [] I L P S Q ↔ Q none I L P S := by
  have h := ex_ret (mi := mi) (pc := pc) (lo := lo) (st := []) (I := I) (L := L) (P := P) (S := S) (Q := Q) hd rfl (c := True) inferInstance (v := none) (by simp [am_step, hr])
  simpa using h
end RU
