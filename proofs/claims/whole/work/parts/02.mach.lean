/-! THE ABSTRACT MACHINE: a run of the claim's own code over a heap of numbers; a cell has a number, 1 is the script, 2 the table UNIT, 3 and on are made -/
abbrev am_I : Type := Nat → Nat → Int32
abbrev am_L : Type := Nat → Nat → Int64
abbrev am_P : Type := Nat → Nat → Nat
abbrev am_S : Type := (Nat → Nat × Nat) × Nat × Nat
abbrev am_Lo : Type := List (Option Value)
abbrev am_H : Type := am_I × am_L × am_P × am_S
abbrev am_G : Type := Nat × am_Lo × List Value × am_H
abbrev am_R : Type := Option (am_G ⊕ ((Nat × List Value × List Value) ⊕ Option Value))
def am_u {α : Type} (f : Nat → Nat → α) (a k : Nat) (v : α) : Nat → Nat → α := fun b j => if b = a then (if j = k then v else f b j) else f b j
def am_row {α : Type} (f : Nat → Nat → α) (a : Nat) (r : Nat → α) : Nat → Nat → α := fun b j => if b = a then r j else f b j
def am_kc (o : Option Value) : Option Value := match o with
  | none => none
  | some v => if v.category = 2 then none else some v
def am_sto (v : Value) : am_Lo → Nat → am_Lo
  | [], _ => []
  | _ :: l, 0 => some v :: l
  | o :: [], _ + 1 => [o]
  | o :: _ :: l, 1 => am_kc o :: some v :: l
  | o :: p :: l, i + 2 => o :: am_sto v (p :: l) (i + 1)
def am_nx (pc : Nat) (lo : am_Lo) (st : List Value) (h : am_H) : am_R := some (.inl (pc, lo, st, h))
def am_wsum : List Value → Nat
  | [] => 0
  | v :: l => v.category + am_wsum l
def am_rs (r : Option Value) (st : List Value) : List Value := match r with
  | none => st
  | some v => v :: st
def am_cb (c : Jvm.ClassFile.Cond) (x y : Int32) : Bool := match c with
  | .eq => decide (x = y)
  | .ne => !decide (x = y)
  | .lt => decide (x < y)
  | .ge => decide (y ≤ x)
  | .gt => decide (y < x)
  | .le => decide (x ≤ y)
def am_br (pc : Nat) (off : Int) (c : Bool) (lo : am_Lo) (st : List Value) (h : am_H) : am_R :=
  if 0 ≤ (pc : Int) + off then (match c with | true => am_nx ((pc : Int) + off).toNat lo st h | false => am_nx (pc + 3) lo st h) else none
def am_go (pc : Nat) (off : Int) (lo : am_Lo) (st : List Value) (h : am_H) : am_R :=
  if 0 ≤ (pc : Int) + off then am_nx ((pc : Int) + off).toNat lo st h else none
def am_al (kind len sz : Nat) (h : am_H) : am_H :=
  (am_row h.1 (h.2.2.2.2.1 + 3) (fun _ => 0), am_row h.2.1 (h.2.2.2.2.1 + 3) (fun _ => 0), am_row h.2.2.1 (h.2.2.2.2.1 + 3) (fun _ => 0),
   fun b => if b = h.2.2.2.2.1 + 3 then (kind, len) else h.2.2.2.1 b, h.2.2.2.2.1 + 1, h.2.2.2.2.2 + sz)
def am_ld (lo : am_Lo) (i : Nat) (K : Value → am_R) : am_R := match lo[i]? with
  | some (some v) => K v
  | _ => none
def am_isI (t : FieldType) : Bool := match t with
  | .int => true
  | .boolean => true
  | .char => true
  | _ => false
def am_isR (t : FieldType) : Bool := match t with
  | .object _ => true
  | .array _ => true
  | _ => false
abbrev am_fit (t : FieldType) (x : Int32) : Prop := narrow t (.int x) = .int x ∧ fits t (.int x) = true
abbrev am_in (i : Int32) (n : Nat) : Prop := ¬ (i < 0 ∨ n ≤ i.toNatClampNeg)
def am_akind (t : ArrayType) : Nat := match t with
  | .int => 20
  | .long => 21
  | .char => 22
  | .boolean => 23
  | _ => 0
def am_len (i : Instr) (len : Nat) : Nat := match i with
  | .tableswitch _ _ _ _ => len
  | .lookupswitch _ _ => len
  | .iload _ => 2
  | .lload _ => 2
  | .aload _ => 2
  | .istore _ => 2
  | .lstore _ => 2
  | .astore _ => 2
  | .bipush _ => 2
  | .ldc _ => 2
  | .newarray _ => 2
  | .sipush _ => 3
  | .ldc_w _ => 3
  | .ldc2_w _ => 3
  | .iinc _ _ => 3
  | .ifCond _ _ => 3
  | .if_icmp _ _ => 3
  | .goto _ => 3
  | .getfield _ => 3
  | .putfield _ => 3
  | .getstatic _ => 3
  | .invokevirtual _ => 3
  | .invokestatic _ => 3
  | .invokespecial _ => 3
  | .new _ => 3
  | .anewarray _ => 3
  | _ => 1
def am_int1 (st : List Value) (K : Int32 → List Value → am_R) : am_R := match st with
  | .int x :: r => K x r
  | _ => none
def am_int2 (st : List Value) (K : Int32 → Int32 → List Value → am_R) : am_R := match st with
  | .int y :: .int x :: r => K x y r
  | _ => none
def am_lng1 (st : List Value) (K : Int64 → List Value → am_R) : am_R := match st with
  | .long x :: r => K x r
  | _ => none
def am_lng2 (st : List Value) (K : Int64 → Int64 → List Value → am_R) : am_R := match st with
  | .long y :: .long x :: r => K x y r
  | _ => none
def am_ref1 (st : List Value) (K : Nat → List Value → am_R) : am_R := match st with
  | .ref a :: r => K a r
  | _ => none
def am_ari (st : List Value) (K : Nat → Int32 → List Value → am_R) : am_R := match st with
  | .int i :: .ref a :: r => K a i r
  | _ => none
def am_arv (st : List Value) (K : Nat → Int32 → Value → List Value → am_R) : am_R := match st with
  | v :: .int i :: .ref a :: r => K a i v r
  | _ => none
/-- a call of method j from method i, its arguments and what stays on the stack -/
abbrev am_okc (i j : Nat) (rest : List Value) : Prop := am_wsum rest ≤ 8 ∧ am_rk j < am_rk i ∧ 19 + am_mL j + am_lr j ≤ am_lr i
abbrev am_leaf (i : Nat) (rest : List Value) : Prop := am_wsum rest ≤ 8 ∧ 1 ≤ am_rk i ∧ 40 ≤ am_lr i
def am_step (mi : Nat) (i : Instr) (pc : Nat) (lo : am_Lo) (st : List Value) (h : am_H) : am_R := match i with
  | .iconst n => am_nx (pc + 1) lo (.int (Int32.ofInt n) :: st) h
  | .bipush n => am_nx (pc + 2) lo (.int (Int8.ofInt n).toInt32 :: st) h
  | .sipush n => am_nx (pc + 3) lo (.int (Int16.ofInt n).toInt32 :: st) h
  | .lconst n => am_nx (pc + 1) lo (.long (Int64.ofNat (n : Nat)) :: st) h
  | .ldc idx => match am_KT.lookup (idx * 16 + am_own mi) with
    | some v => am_nx (pc + 2) lo (.int v :: st) h
    | none => none
  | .ldc_w idx => match am_KT.lookup (idx * 16 + am_own mi) with
    | some v => am_nx (pc + 3) lo (.int v :: st) h
    | none => none
  | .ldc2_w idx => match am_LT.lookup (idx * 16 + am_own mi) with
    | some v => am_nx (pc + 3) lo (.long v :: st) h
    | none => none
  | .iload_n k => am_ld lo k fun v => match v with
    | .int x => am_nx (pc + 1) lo (.int x :: st) h
    | _ => none
  | .iload k => am_ld lo k fun v => match v with
    | .int x => am_nx (pc + 2) lo (.int x :: st) h
    | _ => none
  | .lload_n k => am_ld lo k fun v => match v with
    | .long x => am_nx (pc + 1) lo (.long x :: st) h
    | _ => none
  | .lload k => am_ld lo k fun v => match v with
    | .long x => am_nx (pc + 2) lo (.long x :: st) h
    | _ => none
  | .aload_n k => am_ld lo k fun v => match v with
    | .ref x => am_nx (pc + 1) lo (.ref x :: st) h
    | _ => none
  | .aload k => am_ld lo k fun v => match v with
    | .ref x => am_nx (pc + 2) lo (.ref x :: st) h
    | _ => none
  | .istore_n k => am_int1 st fun x r => if k.val < lo.length then am_nx (pc + 1) (am_sto (.int x) lo k) r h else none
  | .istore k => am_int1 st fun x r => if k < lo.length then am_nx (pc + 2) (am_sto (.int x) lo k) r h else none
  | .lstore_n k => am_lng1 st fun x r => if k.val + 1 < lo.length then am_nx (pc + 1) ((am_sto (.long x) lo k).set (k.val + 1) none) r h else none
  | .lstore k => am_lng1 st fun x r => if k + 1 < lo.length then am_nx (pc + 2) ((am_sto (.long x) lo k).set (k + 1) none) r h else none
  | .astore_n k => am_ref1 st fun x r => if k.val < lo.length then am_nx (pc + 1) (am_sto (.ref x) lo k) r h else none
  | .astore k => am_ref1 st fun x r => if k < lo.length then am_nx (pc + 2) (am_sto (.ref x) lo k) r h else none
  | .iinc k n => am_ld lo k fun v => match v with
    | .int x => am_nx (pc + 3) (lo.set k (some (.int (x + Int32.ofInt n)))) st h
    | _ => none
  | .iadd => am_int2 st fun x y r => am_nx (pc + 1) lo (.int (x + y) :: r) h
  | .isub => am_int2 st fun x y r => am_nx (pc + 1) lo (.int (x - y) :: r) h
  | .imul => am_int2 st fun x y r => am_nx (pc + 1) lo (.int (x * y) :: r) h
  | .iand => am_int2 st fun x y r => am_nx (pc + 1) lo (.int (x &&& y) :: r) h
  | .ior => am_int2 st fun x y r => am_nx (pc + 1) lo (.int (x ||| y) :: r) h
  | .ixor => am_int2 st fun x y r => am_nx (pc + 1) lo (.int (x ^^^ y) :: r) h
  | .idiv => am_int2 st fun x y r => if y = 0 then none else am_nx (pc + 1) lo (.int (x / y) :: r) h
  | .irem => am_int2 st fun x y r => if y = 0 then none else am_nx (pc + 1) lo (.int (x - x / y * y) :: r) h
  | .ishl => am_int2 st fun x y r => am_nx (pc + 1) lo (.int (x <<< (y &&& 31)) :: r) h
  | .ishr => am_int2 st fun x y r => am_nx (pc + 1) lo (.int (x >>> (y &&& 31)) :: r) h
  | .iushr => am_int2 st fun x y r => am_nx (pc + 1) lo (.int (x.toUInt32 >>> (y.toUInt32 &&& Int32.toUInt32 31)).toInt32 :: r) h
  | .ineg => am_int1 st fun x r => am_nx (pc + 1) lo (.int (-x) :: r) h
  | .i2l => am_int1 st fun x r => am_nx (pc + 1) lo (.long x.toInt64 :: r) h
  | .i2c => am_int1 st fun x r => am_nx (pc + 1) lo (.int (x.toUInt32 % 65536).toInt32 :: r) h
  | .l2i => am_lng1 st fun x r => am_nx (pc + 1) lo (.int x.toInt32 :: r) h
  | .ladd => am_lng2 st fun x y r => am_nx (pc + 1) lo (.long (x + y) :: r) h
  | .lsub => am_lng2 st fun x y r => am_nx (pc + 1) lo (.long (x - y) :: r) h
  | .land => am_lng2 st fun x y r => am_nx (pc + 1) lo (.long (x &&& y) :: r) h
  | .lor => am_lng2 st fun x y r => am_nx (pc + 1) lo (.long (x ||| y) :: r) h
  | .lxor => am_lng2 st fun x y r => am_nx (pc + 1) lo (.long (x ^^^ y) :: r) h
  | .lcmp => am_lng2 st fun x y r => am_nx (pc + 1) lo (.int (lg_cmp x y) :: r) h
  | .lshl => match st with
    | .int y :: .long x :: r => am_nx (pc + 1) lo (.long (x <<< (y.toInt64 &&& 63)) :: r) h
    | _ => none
  | .lushr => match st with
    | .int y :: .long x :: r => am_nx (pc + 1) lo (.long (x.toUInt64 >>> (y.toInt64.toUInt64 &&& Int64.toUInt64 63)).toInt64 :: r) h
    | _ => none
  | .dup => match st with
    | v :: r => if v.category = 1 then am_nx (pc + 1) lo (v :: v :: r) h else none
    | _ => none
  | .dup2 => match st with
    | v :: w :: r => if v.category = 1 ∧ w.category = 1 then am_nx (pc + 1) lo (v :: w :: v :: w :: r) h else none
    | _ => none
  | .ifCond c off => am_int1 st fun x r => am_br pc off (am_cb c x 0) lo r h
  | .if_icmp c off => am_int2 st fun x y r => am_br pc off (am_cb c x y) lo r h
  | .goto off => am_go pc off lo st h
  | .tableswitch d l u offs => am_int1 st fun x r => if x.toInt < l ∨ u < x.toInt then am_go pc d lo r h else (match offs[(x.toInt - l).toNat]? with
    | some o => am_go pc o lo r h
    | none => none)
  | .lookupswitch d ps => am_int1 st fun x r => if (ps.toList.zip (ps.toList.drop 1)).all (fun (a, next) => a.1 < next.1) = true then am_go pc (Op.lookupswitch.offset ps.toList d x.toInt) lo r h else none
  | .getfield idx => am_ref1 st fun a r => match am_FT.lookup (idx * 16 + am_own mi) with
    | some (ci, k) => if (h.2.2.2.1 a).1 = ci + 1 then
        (if am_isI (am_ty ci k) = true then am_nx (pc + 3) lo (.int (h.1 a k) :: r) h
         else if am_ty ci k = .long then am_nx (pc + 3) lo (.long (h.2.1 a k) :: r) h
         else if am_isR (am_ty ci k) = true ∧ h.2.2.1 a k ≠ 0 then am_nx (pc + 3) lo (.ref (h.2.2.1 a k) :: r) h else none) else none
    | none => none
  | .putfield idx => match st with
    | v :: .ref a :: r => (match am_FT.lookup (idx * 16 + am_own mi) with
      | some (ci, k) => if (h.2.2.2.1 a).1 = ci + 1 ∧ (((am_T ci) k).2.2.2 = true → (am_y mi).name = "<init>" ∧ am_C ci = am_cn (am_own mi)) then (match v with
        | .int x => if am_isI (am_ty ci k) = true ∧ am_fit (am_ty ci k) x then am_nx (pc + 3) lo r (am_u h.1 a k x, h.2) else none
        | .long x => if am_ty ci k = .long then am_nx (pc + 3) lo r (h.1, am_u h.2.1 a k x, h.2.2) else none
        | .ref x => if am_isR (am_ty ci k) = true ∧ x ≠ 0 then am_nx (pc + 3) lo r (h.1, h.2.1, am_u h.2.2.1 a k x, h.2.2.2) else none
        | _ => none) else none
      | none => none)
    | _ => none
  | .getstatic idx => if (am_own mi, idx) = am_UN then am_nx (pc + 3) lo (.ref 2 :: st) h else none
  | .iaload => am_ari st fun a i r => if (h.2.2.2.1 a).1 = 20 ∧ am_in i (h.2.2.2.1 a).2 then am_nx (pc + 1) lo (.int (h.1 a i.toNatClampNeg) :: r) h else none
  | .caload => am_ari st fun a i r => if (h.2.2.2.1 a).1 = 22 ∧ am_in i (h.2.2.2.1 a).2 then am_nx (pc + 1) lo (.int (h.1 a i.toNatClampNeg) :: r) h else none
  | .baload => am_ari st fun a i r => if (h.2.2.2.1 a).1 = 23 ∧ am_in i (h.2.2.2.1 a).2 then am_nx (pc + 1) lo (.int (h.1 a i.toNatClampNeg) :: r) h else none
  | .laload => am_ari st fun a i r => if (h.2.2.2.1 a).1 = 21 ∧ am_in i (h.2.2.2.1 a).2 then am_nx (pc + 1) lo (.long (h.2.1 a i.toNatClampNeg) :: r) h else none
  | .aaload => am_ari st fun a i r => if (h.2.2.2.1 a).1 = 24 ∧ am_in i (h.2.2.2.1 a).2 ∧ h.2.2.1 a i.toNatClampNeg ≠ 0 then am_nx (pc + 1) lo (.ref (h.2.2.1 a i.toNatClampNeg) :: r) h else none
  | .iastore => am_arv st fun a i v r => match v with
    | .int x => if (h.2.2.2.1 a).1 = 20 ∧ am_in i (h.2.2.2.1 a).2 ∧ 3 ≤ a then am_nx (pc + 1) lo r (am_u h.1 a i.toNatClampNeg x, h.2) else none
    | _ => none
  | .castore => am_arv st fun a i v r => match v with
    | .int x => if (h.2.2.2.1 a).1 = 22 ∧ am_in i (h.2.2.2.1 a).2 then am_nx (pc + 1) lo r (am_u h.1 a i.toNatClampNeg (vp_nar .char x), h.2) else none
    | _ => none
  | .bastore => am_arv st fun a i v r => match v with
    | .int x => if (h.2.2.2.1 a).1 = 23 ∧ am_in i (h.2.2.2.1 a).2 then am_nx (pc + 1) lo r (am_u h.1 a i.toNatClampNeg (vp_nar .boolean x), h.2) else none
    | _ => none
  | .lastore => am_arv st fun a i v r => match v with
    | .long x => if (h.2.2.2.1 a).1 = 21 ∧ am_in i (h.2.2.2.1 a).2 then am_nx (pc + 1) lo r (h.1, am_u h.2.1 a i.toNatClampNeg x, h.2.2) else none
    | _ => none
  | .aastore => am_arv st fun a i v r => match v with
    | .ref x => if (h.2.2.2.1 a).1 = 24 ∧ am_in i (h.2.2.2.1 a).2 ∧ (h.2.2.2.1 x).1 = 4 then am_nx (pc + 1) lo r (h.1, h.2.1, am_u h.2.2.1 a i.toNatClampNeg x, h.2.2.2) else none
    | _ => none
  | .arraylength => am_ref1 st fun a r => if 20 ≤ (h.2.2.2.1 a).1 ∧ (h.2.2.2.1 a).1 ≤ 24 ∧ a ≠ 2 then am_nx (pc + 1) lo (.int (Int32.ofNat (h.2.2.2.1 a).2) :: r) h else none
  | .newarray t => am_int1 st fun n r => if ¬ n < 0 ∧ n.toNatClampNeg ≤ 100000 ∧ am_akind t ≠ 0 then am_nx (pc + 2) lo (.ref (h.2.2.2.2.1 + 3) :: r) (am_al (am_akind t) n.toNatClampNeg n.toNatClampNeg h) else none
  | .anewarray idx => am_int1 st fun n r => if ¬ n < 0 ∧ n.toNatClampNeg ≤ 100000 ∧ am_CT.lookup (idx * 16 + am_own mi) = some 3 then am_nx (pc + 3) lo (.ref (h.2.2.2.2.1 + 3) :: r) (am_al 24 n.toNatClampNeg n.toNatClampNeg h) else none
  | .new idx => match am_CT.lookup (idx * 16 + am_own mi) with
    | some ci => am_nx (pc + 3) lo (.ref (h.2.2.2.2.1 + 3) :: st) (am_al (ci + 1) 0 (am_N ci) h)
    | none => none
  | .invokevirtual idx => match am_MT.lookup (idx * 16 + am_own mi) with
    | some (0, j) => (match st.drop (am_np j) with
      | .ref b :: r => if (h.2.2.2.1 b).1 = am_own j + 1 ∧ am_okc mi j r then some (.inr (.inl (j, .ref b :: (st.take (am_np j)).reverse, r))) else none
      | _ => none)
    | _ => none
  | .invokespecial idx => match am_MT.lookup (idx * 16 + am_own mi) with
    | some (2, j) => (match st.drop (am_np j) with
      | .ref b :: r => if am_okc mi j r then some (.inr (.inl (j, .ref b :: (st.take (am_np j)).reverse, r))) else none
      | _ => none)
    | some (3, j) => (match st.drop (am_np j) with
      | .ref b :: r => if am_okc mi j r then some (.inr (.inl (j, .ref b :: (st.take (am_np j)).reverse, r))) else none
      | _ => none)
    | some (8, _) => am_ref1 st fun a r => if am_leaf mi r then am_nx (pc + 3) lo r h else none
    | _ => none
  | .invokestatic idx => match am_MT.lookup (idx * 16 + am_own mi) with
    | some (1, j) => if (st.take (am_np j)).length = am_np j ∧ am_okc mi j (st.drop (am_np j)) then some (.inr (.inl (j, (st.take (am_np j)).reverse, st.drop (am_np j)))) else none
    | some (9, _) => (match st with
      | .int n :: .int dp :: .ref a :: .int sp :: .ref a0 :: r => if am_leaf mi r ∧ (h.2.2.2.1 a0).1 = 20 ∧ (h.2.2.2.1 a).1 = 20 ∧ 3 ≤ a0 ∧ 3 ≤ a ∧ ¬ sp < 0 ∧ ¬ dp < 0 ∧ ¬ n < 0 ∧ sp.toNatClampNeg + n.toNatClampNeg ≤ (h.2.2.2.1 a0).2 ∧ dp.toNatClampNeg + n.toNatClampNeg ≤ (h.2.2.2.1 a).2
          then am_nx (pc + 3) lo r (am_row h.1 a (va_cpy (h.1 a0) (h.1 a) sp.toNatClampNeg dp.toNatClampNeg n.toNatClampNeg), h.2) else none
      | _ => none)
    | some (10, _) => am_int1 st fun x r => if am_leaf mi r then am_nx (pc + 3) lo (.int (if 0 ≤ x then x else 0 - x) :: r) h else none
    | some (11, _) => am_int2 st fun x y r => if am_leaf mi r then am_nx (pc + 3) lo (.int (if x < y then y else x) :: r) h else none
    | some (12, _) => am_int2 st fun x y r => if am_leaf mi r then am_nx (pc + 3) lo (.int (if y < x then y else x) :: r) h else none
    | _ => none
  | .ireturn => match st with
    | [.int v] => (match am_ret mi with
      | some t => if narrow t (.int v) = .int v then some (.inr (.inr (some (.int v)))) else none
      | none => none)
    | _ => none
  | .lreturn => match st with
    | [.long v] => if am_ret mi = some .long then some (.inr (.inr (some (.long v)))) else none
    | _ => none
  | .return_ => match st with
    | [] => if am_ret mi = none then some (.inr (.inr none)) else none
    | _ => none
  | _ => none
/-- the locals with which a method begins -/
def am_al0 : List Value → am_Lo
  | [] => []
  | v :: l => if v.category = 2 then some v :: none :: am_al0 l else some v :: am_al0 l
def am_init (mi : Nat) (as : List Value) : am_Lo := am_al0 as ++ List.replicate (am_mL mi - (am_al0 as).length) none
def am_run (call : Nat → List Value → am_H → Option (Option Value × am_H)) (mi : Nat) : Nat → Nat → am_Lo → List Value → am_H → Option (Option Value × am_H)
  | 0, _, _, _, _ => none
  | n + 1, pc, lo, st, h => match decode (am_mb mi) pc with
    | .error _ => none
    | .ok (i, len) => if len = am_len i len then (match am_step mi i pc lo st h with
      | none => none
      | some (.inl (pc', lo', st', h')) => am_run call mi n pc' lo' st' h'
      | some (.inr (.inl (j, as, r))) => (match call j as h with
        | none => none
        | some (v, h') => am_run call mi n (pc + 3) lo (am_rs v r) h')
      | some (.inr (.inr v)) => some (v, h)) else none
def am_call : Nat → Nat → List Value → am_H → Option (Option Value × am_H)
  | 0, _, _, _ => none
  | f + 1, j, as, h => if (am_al0 as).length ≤ am_mL j then am_run (am_call f) j f 0 (am_init j as) [] h else none
theorem am_run_mono {c1 c2 : Nat → List Value → am_H → Option (Option Value × am_H)} {mi : Nat} (hc : ∀ j as h r, c1 j as h = some r → c2 j as h = some r) :
    ∀ (n m : Nat) (pc : Nat) (lo : am_Lo) (st : List Value) (h : am_H) (r), n ≤ m → am_run c1 mi n pc lo st h = some r → am_run c2 mi m pc lo st h = some r := by
  intro n
  induction n with
  | zero => intro m pc lo st h r _ hr; simp [am_run] at hr
  | succ n ih =>
    intro m pc lo st h r hm hr
    obtain ⟨k, rfl⟩ : ∃ k, m = k + 1 := ⟨m - 1, by omega⟩
    have hk : n ≤ k := by omega
    rw [am_run] at hr ⊢
    cases hd : decode (am_mb mi) pc with
    | error e => rw [hd] at hr; exact absurd hr (by simp)
    | ok q =>
      obtain ⟨i, len⟩ := q
      rw [hd] at hr
      dsimp only at hr ⊢
      by_cases hl : len = am_len i len
      · rw [if_pos hl] at hr ⊢
        cases hs : am_step mi i pc lo st h with
        | none => rw [hs] at hr; exact absurd hr (by simp)
        | some x =>
          rw [hs] at hr
          match x, hr with
          | .inl (pc', lo', st', h'), hr => exact ih k pc' lo' st' h' r hk hr
          | .inr (.inl (j, as, rr)), hr =>
            dsimp only at hr ⊢
            cases hcj : c1 j as h with
            | none => rw [hcj] at hr; exact absurd hr (by simp)
            | some y =>
              rw [hcj] at hr
              rw [hc _ _ _ _ hcj]
              obtain ⟨v, h'⟩ := y
              exact ih k _ _ _ _ r hk hr
          | .inr (.inr v), hr => exact hr
      · rw [if_neg hl] at hr; exact absurd hr (by simp)
theorem am_call_mono : ∀ (f g : Nat) (j : Nat) (as : List Value) (h : am_H) (r), f ≤ g → am_call f j as h = some r → am_call g j as h = some r := by
  intro f
  induction f with
  | zero => intro g j as h r _ hr; simp [am_call] at hr
  | succ f ih =>
    intro g j as h r hg hr
    obtain ⟨k, rfl⟩ : ∃ k, g = k + 1 := ⟨g - 1, by omega⟩
    rw [am_call] at hr ⊢
    by_cases hl : (am_al0 as).length ≤ am_mL j
    · rw [if_pos hl] at hr ⊢
      exact am_run_mono (fun j as h r q => ih k j as h r (by omega) q) f k _ _ _ _ r (by omega) hr
    · rw [if_neg hl] at hr; exact absurd hr (by simp)
/-- what a run from here comes to -/
def Ex (mi pc : Nat) (lo : am_Lo) (st : List Value) (I : am_I) (L : am_L) (P : am_P) (S : am_S) (Q : Option Value → am_I → am_L → am_P → am_S → Prop) : Prop :=
  ∃ f v I' L' P' S', am_run (am_call f) mi f pc lo st (I, L, P, S) = some (v, (I', L', P', S')) ∧ Q v I' L' P' S'
def Ev (mi : Nat) (as : List Value) (I : am_I) (L : am_L) (P : am_P) (S : am_S) (Q : Option Value → am_I → am_L → am_P → am_S → Prop) : Prop :=
  ∃ f v I' L' P' S', am_call f mi as (I, L, P, S) = some (v, (I', L', P', S')) ∧ Q v I' L' P' S'
theorem Ex.mono {mi pc : Nat} {lo : am_Lo} {st : List Value} {I : am_I} {L : am_L} {P : am_P} {S : am_S} {Q Q' : Option Value → am_I → am_L → am_P → am_S → Prop} (h : Ex mi pc lo st I L P S Q) (k : ∀ v I L P S, Q v I L P S → Q' v I L P S) : Ex mi pc lo st I L P S Q' := by
  obtain ⟨f, v, I', L', P', S', h1, h2⟩ := h
  exact ⟨f, v, I', L', P', S', h1, k _ _ _ _ _ h2⟩
theorem Ev.mono {mi : Nat} {as : List Value} {I : am_I} {L : am_L} {P : am_P} {S : am_S} {Q Q' : Option Value → am_I → am_L → am_P → am_S → Prop} (h : Ev mi as I L P S Q) (k : ∀ v I L P S, Q v I L P S → Q' v I L P S) : Ev mi as I L P S Q' := by
  obtain ⟨f, v, I', L', P', S', h1, h2⟩ := h
  exact ⟨f, v, I', L', P', S', h1, k _ _ _ _ _ h2⟩
theorem am_up {mi n m : Nat} {pc : Nat} {lo : am_Lo} {st : List Value} {h : am_H} {r} (hn : n ≤ m) (hr : am_run (am_call n) mi n pc lo st h = some r) : am_run (am_call m) mi m pc lo st h = some r :=
  am_run_mono (fun j as h r q => am_call_mono n m j as h r hn q) n m pc lo st h r hn hr
section EX
variable {mi pc : Nat} {lo : am_Lo} {st : List Value} {I : am_I} {L : am_L} {P : am_P} {S : am_S} {Q : Option Value → am_I → am_L → am_P → am_S → Prop} {i : Instr} {len : Nat}
theorem am_run1 (hd : decode (am_mb mi) pc = .ok (i, len)) (hl : len = am_len i len) {pc' : Nat} {lo' : am_Lo} {st' : List Value} {h h' : am_H} (hs : am_step mi i pc lo st h = some (.inl (pc', lo', st', h'))) (c) (n : Nat) : am_run c mi (n + 1) pc lo st h = am_run c mi n pc' lo' st' h' := by
  rw [am_run, hd]
  dsimp only
  rw [if_pos hl, hs]
theorem ex_nx (hd : decode (am_mb mi) pc = .ok (i, len)) (hl : len = am_len i len) {pc' : Nat} {lo' : am_Lo} {st' : List Value} {I' : am_I} {L' : am_L} {P' : am_P} {S' : am_S} (hs : am_step mi i pc lo st (I, L, P, S) = am_nx pc' lo' st' (I', L', P', S')) :
    Ex mi pc lo st I L P S Q ↔ Ex mi pc' lo' st' I' L' P' S' Q := by
  have e := am_run1 hd hl hs
  constructor
  · rintro ⟨f, v, J, M, O, T, h1, h2⟩
    match f, h1 with
    | 0, h1 => simp [am_run] at h1
    | f + 1, h1 =>
      rw [e] at h1
      exact ⟨f + 1, v, J, M, O, T, am_run_mono (fun _ _ _ _ q => q) f (f + 1) _ _ _ _ _ (by omega) h1, h2⟩
  · rintro ⟨f, v, J, M, O, T, h1, h2⟩
    refine ⟨f + 1, v, J, M, O, T, ?_, h2⟩
    rw [e]
    exact am_run_mono (fun j as h r q => am_call_mono f (f + 1) j as h r (by omega) q) f f _ _ _ _ _ (Nat.le_refl f) h1
theorem ex_nxc (hd : decode (am_mb mi) pc = .ok (i, len)) (hl : len = am_len i len) {c : Prop} (dc : Decidable c) {pc' : Nat} {lo' : am_Lo} {st' : List Value} {I' : am_I} {L' : am_L} {P' : am_P} {S' : am_S} (hs : am_step mi i pc lo st (I, L, P, S) = if c then am_nx pc' lo' st' (I', L', P', S') else none) :
    Ex mi pc lo st I L P S Q ↔ c ∧ Ex mi pc' lo' st' I' L' P' S' Q := by
  by_cases hc : c
  · rw [if_pos hc] at hs
    rw [ex_nx hd hl hs]
    exact ⟨fun h => ⟨hc, h⟩, fun h => h.2⟩
  · rw [if_neg hc] at hs
    refine ⟨?_, fun h => absurd h.1 hc⟩
    rintro ⟨f, v, J, M, O, T, h1, h2⟩
    match f, h1 with
    | 0, h1 => simp [am_run] at h1
    | f + 1, h1 =>
      rw [am_run, hd] at h1
      dsimp only at h1
      rw [if_pos hl, hs] at h1
      exact absurd h1 (by simp)
theorem ex_br (hd : decode (am_mb mi) pc = .ok (i, len)) (hl : len = am_len i len) {b : Bool} {c : Prop} [dc : Decidable c] (hb : b = decide c) {off : Int} {tgt : Nat} {lo' : am_Lo} {st' : List Value} (ht : (pc : Int) + off = (tgt : Int)) (hs : am_step mi i pc lo st (I, L, P, S) = am_br pc off b lo' st' (I, L, P, S)) :
    Ex mi pc lo st I L P S Q ↔ if c then Ex mi tgt lo' st' I L P S Q else Ex mi (pc + 3) lo' st' I L P S Q := by
  have h0 : 0 ≤ (pc : Int) + off := by rw [ht]; exact Int.natCast_nonneg tgt
  have ht2 : ((pc : Int) + off).toNat = tgt := by rw [ht]; rfl
  unfold am_br at hs
  rw [if_pos h0, ht2] at hs
  by_cases hc : c
  · rw [if_pos hc]
    refine ex_nx hd hl (hs.trans ?_)
    rw [hb, decide_eq_true hc]
  · rw [if_neg hc]
    refine ex_nx hd hl (hs.trans ?_)
    rw [hb, decide_eq_false hc]
theorem ex_go (hd : decode (am_mb mi) pc = .ok (i, len)) (hl : len = am_len i len) {off : Int} {tgt : Nat} {lo' : am_Lo} {st' : List Value} (ht : (pc : Int) + off = (tgt : Int)) (hs : am_step mi i pc lo st (I, L, P, S) = am_go pc off lo' st' (I, L, P, S)) :
    Ex mi pc lo st I L P S Q ↔ Ex mi tgt lo' st' I L P S Q := by
  have h0 : 0 ≤ (pc : Int) + off := by rw [ht]; exact Int.natCast_nonneg tgt
  have ht2 : ((pc : Int) + off).toNat = tgt := by rw [ht]; rfl
  unfold am_go at hs
  rw [if_pos h0, ht2] at hs
  exact ex_nx hd hl hs
theorem ex_ret (hd : decode (am_mb mi) pc = .ok (i, len)) (hl : len = am_len i len) {c : Prop} (dc : Decidable c) {v : Option Value} (hs : am_step mi i pc lo st (I, L, P, S) = if c then some (.inr (.inr v)) else none) : Ex mi pc lo st I L P S Q ↔ c ∧ Q v I L P S := by
  constructor
  · rintro ⟨f, w, J, M, O, T, h1, h2⟩
    match f, h1 with
    | 0, h1 => simp [am_run] at h1
    | f + 1, h1 =>
      rw [am_run, hd] at h1
      dsimp only at h1
      rw [if_pos hl, hs] at h1
      by_cases hc : c
      · rw [if_pos hc] at h1
        simp only [Option.some.injEq, Prod.mk.injEq] at h1
        obtain ⟨rfl, rfl, rfl, rfl, rfl⟩ := h1
        exact ⟨hc, h2⟩
      · rw [if_neg hc] at h1
        exact absurd h1 (by simp)
  · rintro ⟨hc, h2⟩
    refine ⟨1, v, I, L, P, S, ?_, h2⟩
    rw [am_run, hd]
    dsimp only
    rw [if_pos hl, hs, if_pos hc]
theorem ex_call (hd : decode (am_mb mi) pc = .ok (i, len)) (hl : len = am_len i len) {c : Prop} (dc : Decidable c) {j : Nat} {as r : List Value} (hs : am_step mi i pc lo st (I, L, P, S) = if c then some (.inr (.inl (j, as, r))) else none) :
    Ex mi pc lo st I L P S Q ↔ c ∧ Ev j as I L P S (fun v I L P S => Ex mi (pc + 3) lo (am_rs v r) I L P S Q) := by
  constructor
  · rintro ⟨f, w, J, M, O, T, h1, h2⟩
    match f, h1 with
    | 0, h1 => simp [am_run] at h1
    | f + 1, h1 =>
      rw [am_run, hd] at h1
      dsimp only at h1
      rw [if_pos hl, hs] at h1
      by_cases hc : c
      · rw [if_pos hc] at h1
        dsimp only at h1
        cases hcj : am_call (f + 1) j as (I, L, P, S) with
        | none => rw [hcj] at h1; exact absurd h1 (by simp)
        | some y =>
          rw [hcj] at h1
          obtain ⟨v, I', L', P', S'⟩ := y
          exact ⟨hc, f + 1, v, I', L', P', S', hcj, f + 1, w, J, M, O, T, am_run_mono (fun _ _ _ _ q => q) f (f + 1) _ _ _ _ _ (by omega) h1, h2⟩
      · rw [if_neg hc] at h1
        exact absurd h1 (by simp)
  · rintro ⟨hc, f, v, I', L', P', S', h1, g, w, J, M, O, T, h2, h3⟩
    refine ⟨f + g + 1, w, J, M, O, T, ?_, h3⟩
    rw [am_run, hd]
    dsimp only
    rw [if_pos hl, hs, if_pos hc]
    dsimp only
    rw [am_call_mono f (f + g + 1) j as _ _ (by omega) h1]
    exact am_run_mono (fun j as h r q => am_call_mono g (f + g + 1) j as h r (by omega) q) g (f + g) _ _ _ _ _ (by omega) h2
theorem ev_ex {as : List Value} (hl : (am_al0 as).length ≤ am_mL mi) (hlo : am_init mi as = lo) : Ev mi as I L P S Q ↔ Ex mi 0 lo [] I L P S Q := by
  subst hlo
  constructor
  · rintro ⟨f, v, J, M, O, T, h1, h2⟩
    match f, h1 with
    | 0, h1 => simp [am_call] at h1
    | f + 1, h1 =>
      rw [am_call, if_pos hl] at h1
      exact ⟨f, v, J, M, O, T, h1, h2⟩
  · rintro ⟨f, v, J, M, O, T, h1, h2⟩
    refine ⟨f + 1, v, J, M, O, T, ?_, h2⟩
    rw [am_call, if_pos hl]
    exact h1
end EX
