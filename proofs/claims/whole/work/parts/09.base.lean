theorem am_u_at {α : Type} (f : Nat → Nat → α) (a k : Nat) (v : α) (b j : Nat) : am_u f a k v b j = if b = a then (if j = k then v else f b j) else f b j := rfl
theorem am_row_at {α : Type} (f : Nat → Nat → α) (a : Nat) (r : Nat → α) (b j : Nat) : am_row f a r b j = if b = a then r j else f b j := rfl
/-! the heap behind the constructors: the kinds of its cells, and who holds whom (the hall and the spare one change places) -/
def am_shl : List (Nat × Nat) := [(0, 0), (0, 0), (20, 4), (7, 0), (5, 0), (22, 150), (2, 0), (20, 5), (20, 5), (20, 4), (20, 4), (20, 4), (20, 4), (2, 0), (20, 5), (20, 5), (20, 4), (20, 4), (20, 4), (20, 4), (4, 0), (20, 4), (3, 0), (24, 10), (4, 0), (20, 4), (4, 0), (20, 4), (4, 0), (20, 4), (4, 0), (20, 4), (4, 0), (20, 4), (4, 0), (20, 4), (4, 0), (20, 4), (4, 0), (20, 4), (4, 0), (20, 4), (4, 0), (20, 4), (24, 2), (23, 2), (1, 0), (20, 6), (20, 6), (20, 6), (20, 6), (6, 0), (21, 6480), (20, 256), (20, 6480), (20, 6480), (20, 4), (20, 6), (20, 5), (4, 0), (20, 4), (4, 0), (20, 4), (8, 0), (20, 8), (20, 16), (20, 7), (20, 70), (20, 14), (23, 2), (20, 6), (20, 18), (20, 150), (20, 8), (20, 16), (20, 50000), (20, 6), (20, 6)]
def am_kd (a : Nat) : Nat × Nat := am_shl.getD a (0, 0)
def am_shf (Lx k : Nat) : Nat → Nat × Nat := fun a => if a = 1 then (20, Lx) else if a < k + 3 then am_kd a else (0, 0)
theorem am_sx_fold {Lx k q : Nat} {v : Nat × Nat} (hq : q = k + 3) (hv : am_kd q = v) : am_sx (am_shf Lx k) q v = am_shf Lx (k + 1) := by
  subst hq; subst hv
  funext b
  unfold am_sx am_shf
  by_cases h : b = k + 3
  · subst h
    rw [if_pos rfl, if_neg (by omega), if_pos (by omega)]
  · rw [if_neg h]
    by_cases h1 : b = 1
    · rw [if_pos h1, if_pos h1]
    · rw [if_neg h1, if_neg h1]
      by_cases h2 : b < k + 3
      · rw [if_pos h2, if_pos (by omega)]
      · rw [if_neg h2, if_neg (by omega)]
theorem am_sx_0 {Lx : Nat} : am_sx (am_shf Lx 0) 3 (7, 0) = am_shf Lx 1 := am_sx_fold rfl rfl
theorem am_sx_1 {Lx : Nat} : am_sx (am_shf Lx 1) 4 (5, 0) = am_shf Lx 2 := am_sx_fold rfl rfl
theorem am_sx_2 {Lx : Nat} : am_sx (am_shf Lx 2) 5 (22, 150) = am_shf Lx 3 := am_sx_fold rfl rfl
theorem am_sx_3 {Lx : Nat} : am_sx (am_shf Lx 3) 6 (2, 0) = am_shf Lx 4 := am_sx_fold rfl rfl
theorem am_sx_4 {Lx : Nat} : am_sx (am_shf Lx 4) 7 (20, 5) = am_shf Lx 5 := am_sx_fold rfl rfl
theorem am_sx_5 {Lx : Nat} : am_sx (am_shf Lx 5) 8 (20, 5) = am_shf Lx 6 := am_sx_fold rfl rfl
theorem am_sx_6 {Lx : Nat} : am_sx (am_shf Lx 6) 9 (20, 4) = am_shf Lx 7 := am_sx_fold rfl rfl
theorem am_sx_7 {Lx : Nat} : am_sx (am_shf Lx 7) 10 (20, 4) = am_shf Lx 8 := am_sx_fold rfl rfl
theorem am_sx_8 {Lx : Nat} : am_sx (am_shf Lx 8) 11 (20, 4) = am_shf Lx 9 := am_sx_fold rfl rfl
theorem am_sx_9 {Lx : Nat} : am_sx (am_shf Lx 9) 12 (20, 4) = am_shf Lx 10 := am_sx_fold rfl rfl
theorem am_sx_10 {Lx : Nat} : am_sx (am_shf Lx 10) 13 (2, 0) = am_shf Lx 11 := am_sx_fold rfl rfl
theorem am_sx_11 {Lx : Nat} : am_sx (am_shf Lx 11) 14 (20, 5) = am_shf Lx 12 := am_sx_fold rfl rfl
theorem am_sx_12 {Lx : Nat} : am_sx (am_shf Lx 12) 15 (20, 5) = am_shf Lx 13 := am_sx_fold rfl rfl
theorem am_sx_13 {Lx : Nat} : am_sx (am_shf Lx 13) 16 (20, 4) = am_shf Lx 14 := am_sx_fold rfl rfl
theorem am_sx_14 {Lx : Nat} : am_sx (am_shf Lx 14) 17 (20, 4) = am_shf Lx 15 := am_sx_fold rfl rfl
theorem am_sx_15 {Lx : Nat} : am_sx (am_shf Lx 15) 18 (20, 4) = am_shf Lx 16 := am_sx_fold rfl rfl
theorem am_sx_16 {Lx : Nat} : am_sx (am_shf Lx 16) 19 (20, 4) = am_shf Lx 17 := am_sx_fold rfl rfl
theorem am_sx_17 {Lx : Nat} : am_sx (am_shf Lx 17) 20 (4, 0) = am_shf Lx 18 := am_sx_fold rfl rfl
theorem am_sx_18 {Lx : Nat} : am_sx (am_shf Lx 18) 21 (20, 4) = am_shf Lx 19 := am_sx_fold rfl rfl
theorem am_sx_19 {Lx : Nat} : am_sx (am_shf Lx 19) 22 (3, 0) = am_shf Lx 20 := am_sx_fold rfl rfl
theorem am_sx_20 {Lx : Nat} : am_sx (am_shf Lx 20) 23 (24, 10) = am_shf Lx 21 := am_sx_fold rfl rfl
theorem am_sx_21 {Lx : Nat} : am_sx (am_shf Lx 21) 24 (4, 0) = am_shf Lx 22 := am_sx_fold rfl rfl
theorem am_sx_22 {Lx : Nat} : am_sx (am_shf Lx 22) 25 (20, 4) = am_shf Lx 23 := am_sx_fold rfl rfl
theorem am_sx_23 {Lx : Nat} : am_sx (am_shf Lx 23) 26 (4, 0) = am_shf Lx 24 := am_sx_fold rfl rfl
theorem am_sx_24 {Lx : Nat} : am_sx (am_shf Lx 24) 27 (20, 4) = am_shf Lx 25 := am_sx_fold rfl rfl
theorem am_sx_25 {Lx : Nat} : am_sx (am_shf Lx 25) 28 (4, 0) = am_shf Lx 26 := am_sx_fold rfl rfl
theorem am_sx_26 {Lx : Nat} : am_sx (am_shf Lx 26) 29 (20, 4) = am_shf Lx 27 := am_sx_fold rfl rfl
theorem am_sx_27 {Lx : Nat} : am_sx (am_shf Lx 27) 30 (4, 0) = am_shf Lx 28 := am_sx_fold rfl rfl
theorem am_sx_28 {Lx : Nat} : am_sx (am_shf Lx 28) 31 (20, 4) = am_shf Lx 29 := am_sx_fold rfl rfl
theorem am_sx_29 {Lx : Nat} : am_sx (am_shf Lx 29) 32 (4, 0) = am_shf Lx 30 := am_sx_fold rfl rfl
theorem am_sx_30 {Lx : Nat} : am_sx (am_shf Lx 30) 33 (20, 4) = am_shf Lx 31 := am_sx_fold rfl rfl
theorem am_sx_31 {Lx : Nat} : am_sx (am_shf Lx 31) 34 (4, 0) = am_shf Lx 32 := am_sx_fold rfl rfl
theorem am_sx_32 {Lx : Nat} : am_sx (am_shf Lx 32) 35 (20, 4) = am_shf Lx 33 := am_sx_fold rfl rfl
theorem am_sx_33 {Lx : Nat} : am_sx (am_shf Lx 33) 36 (4, 0) = am_shf Lx 34 := am_sx_fold rfl rfl
theorem am_sx_34 {Lx : Nat} : am_sx (am_shf Lx 34) 37 (20, 4) = am_shf Lx 35 := am_sx_fold rfl rfl
theorem am_sx_35 {Lx : Nat} : am_sx (am_shf Lx 35) 38 (4, 0) = am_shf Lx 36 := am_sx_fold rfl rfl
theorem am_sx_36 {Lx : Nat} : am_sx (am_shf Lx 36) 39 (20, 4) = am_shf Lx 37 := am_sx_fold rfl rfl
theorem am_sx_37 {Lx : Nat} : am_sx (am_shf Lx 37) 40 (4, 0) = am_shf Lx 38 := am_sx_fold rfl rfl
theorem am_sx_38 {Lx : Nat} : am_sx (am_shf Lx 38) 41 (20, 4) = am_shf Lx 39 := am_sx_fold rfl rfl
theorem am_sx_39 {Lx : Nat} : am_sx (am_shf Lx 39) 42 (4, 0) = am_shf Lx 40 := am_sx_fold rfl rfl
theorem am_sx_40 {Lx : Nat} : am_sx (am_shf Lx 40) 43 (20, 4) = am_shf Lx 41 := am_sx_fold rfl rfl
theorem am_sx_41 {Lx : Nat} : am_sx (am_shf Lx 41) 44 (24, 2) = am_shf Lx 42 := am_sx_fold rfl rfl
theorem am_sx_42 {Lx : Nat} : am_sx (am_shf Lx 42) 45 (23, 2) = am_shf Lx 43 := am_sx_fold rfl rfl
theorem am_sx_43 {Lx : Nat} : am_sx (am_shf Lx 43) 46 (1, 0) = am_shf Lx 44 := am_sx_fold rfl rfl
theorem am_sx_44 {Lx : Nat} : am_sx (am_shf Lx 44) 47 (20, 6) = am_shf Lx 45 := am_sx_fold rfl rfl
theorem am_sx_45 {Lx : Nat} : am_sx (am_shf Lx 45) 48 (20, 6) = am_shf Lx 46 := am_sx_fold rfl rfl
theorem am_sx_46 {Lx : Nat} : am_sx (am_shf Lx 46) 49 (20, 6) = am_shf Lx 47 := am_sx_fold rfl rfl
theorem am_sx_47 {Lx : Nat} : am_sx (am_shf Lx 47) 50 (20, 6) = am_shf Lx 48 := am_sx_fold rfl rfl
theorem am_sx_48 {Lx : Nat} : am_sx (am_shf Lx 48) 51 (6, 0) = am_shf Lx 49 := am_sx_fold rfl rfl
theorem am_sx_49 {Lx : Nat} : am_sx (am_shf Lx 49) 52 (21, 6480) = am_shf Lx 50 := am_sx_fold rfl rfl
theorem am_sx_50 {Lx : Nat} : am_sx (am_shf Lx 50) 53 (20, 256) = am_shf Lx 51 := am_sx_fold rfl rfl
theorem am_sx_51 {Lx : Nat} : am_sx (am_shf Lx 51) 54 (20, 6480) = am_shf Lx 52 := am_sx_fold rfl rfl
theorem am_sx_52 {Lx : Nat} : am_sx (am_shf Lx 52) 55 (20, 6480) = am_shf Lx 53 := am_sx_fold rfl rfl
theorem am_sx_53 {Lx : Nat} : am_sx (am_shf Lx 53) 56 (20, 4) = am_shf Lx 54 := am_sx_fold rfl rfl
theorem am_sx_54 {Lx : Nat} : am_sx (am_shf Lx 54) 57 (20, 6) = am_shf Lx 55 := am_sx_fold rfl rfl
theorem am_sx_55 {Lx : Nat} : am_sx (am_shf Lx 55) 58 (20, 5) = am_shf Lx 56 := am_sx_fold rfl rfl
theorem am_sx_56 {Lx : Nat} : am_sx (am_shf Lx 56) 59 (4, 0) = am_shf Lx 57 := am_sx_fold rfl rfl
theorem am_sx_57 {Lx : Nat} : am_sx (am_shf Lx 57) 60 (20, 4) = am_shf Lx 58 := am_sx_fold rfl rfl
theorem am_sx_58 {Lx : Nat} : am_sx (am_shf Lx 58) 61 (4, 0) = am_shf Lx 59 := am_sx_fold rfl rfl
theorem am_sx_59 {Lx : Nat} : am_sx (am_shf Lx 59) 62 (20, 4) = am_shf Lx 60 := am_sx_fold rfl rfl
theorem am_sx_60 {Lx : Nat} : am_sx (am_shf Lx 60) 63 (8, 0) = am_shf Lx 61 := am_sx_fold rfl rfl
theorem am_sx_61 {Lx : Nat} : am_sx (am_shf Lx 61) 64 (20, 8) = am_shf Lx 62 := am_sx_fold rfl rfl
theorem am_sx_62 {Lx : Nat} : am_sx (am_shf Lx 62) 65 (20, 16) = am_shf Lx 63 := am_sx_fold rfl rfl
theorem am_sx_63 {Lx : Nat} : am_sx (am_shf Lx 63) 66 (20, 7) = am_shf Lx 64 := am_sx_fold rfl rfl
theorem am_sx_64 {Lx : Nat} : am_sx (am_shf Lx 64) 67 (20, 70) = am_shf Lx 65 := am_sx_fold rfl rfl
theorem am_sx_65 {Lx : Nat} : am_sx (am_shf Lx 65) 68 (20, 14) = am_shf Lx 66 := am_sx_fold rfl rfl
theorem am_sx_66 {Lx : Nat} : am_sx (am_shf Lx 66) 69 (23, 2) = am_shf Lx 67 := am_sx_fold rfl rfl
theorem am_sx_67 {Lx : Nat} : am_sx (am_shf Lx 67) 70 (20, 6) = am_shf Lx 68 := am_sx_fold rfl rfl
theorem am_sx_68 {Lx : Nat} : am_sx (am_shf Lx 68) 71 (20, 18) = am_shf Lx 69 := am_sx_fold rfl rfl
theorem am_sx_69 {Lx : Nat} : am_sx (am_shf Lx 69) 72 (20, 150) = am_shf Lx 70 := am_sx_fold rfl rfl
theorem am_sx_70 {Lx : Nat} : am_sx (am_shf Lx 70) 73 (20, 8) = am_shf Lx 71 := am_sx_fold rfl rfl
theorem am_sx_71 {Lx : Nat} : am_sx (am_shf Lx 71) 74 (20, 16) = am_shf Lx 72 := am_sx_fold rfl rfl
theorem am_sx_72 {Lx : Nat} : am_sx (am_shf Lx 72) 75 (20, 50000) = am_shf Lx 73 := am_sx_fold rfl rfl
theorem am_sx_73 {Lx : Nat} : am_sx (am_shf Lx 73) 76 (20, 6) = am_shf Lx 74 := am_sx_fold rfl rfl
theorem am_sx_74 {Lx : Nat} : am_sx (am_shf Lx 74) 77 (20, 6) = am_shf Lx 75 := am_sx_fold rfl rfl
def am_S1 (Lx : Nat) : am_S := (am_shf Lx 75, 75, 70479)
/-- the numbers behind the two constructors, in the order in which they came -/
def am_I1 (I : am_I) : am_I := (am_u (am_row (am_row (am_row (am_row (am_row (am_row (am_row (am_row (am_row (am_row (am_row (am_row (am_u (am_u (am_row (am_row (am_row (am_row (am_u (am_u (am_u (am_row (am_row (am_u (am_u (am_u (am_row (am_row (am_row (am_u (am_u (am_row (am_row (am_row (am_row (am_row (am_row (am_row (am_row (am_row (am_row (am_u (am_u (am_row (am_row (am_row (am_row (am_u (am_u (am_u (am_row (am_row (am_u (am_u (am_u (am_row (am_row (am_u (am_u (am_u (am_row (am_row (am_u (am_u (am_u (am_row (am_row (am_u (am_u (am_u (am_row (am_row (am_u (am_u (am_u (am_row (am_row (am_u (am_u (am_u (am_row (am_row (am_u (am_u (am_u (am_row (am_row (am_u (am_u (am_u (am_row (am_row (am_u (am_u (am_u (am_row (am_u (am_u (am_row (am_row (am_row (am_u (am_u (am_u (am_row (am_u (am_u (am_u (am_u (am_u (am_u (am_row (am_row (am_row (am_row (am_row (am_row (am_row (am_u (am_u (am_u (am_u (am_u (am_u (am_row (am_row (am_row (am_row (am_row (am_row (am_row (am_row (am_row (am_row I 3 (fun _ => 0)) 4 (fun _ => 0)) 5 (fun _ => 0)) 6 (fun _ => 0)) 7 (fun _ => 0)) 8 (fun _ => 0)) 9 (fun _ => 0)) 10 (fun _ => 0)) 11 (fun _ => 0)) 12 (fun _ => 0)) 6 0 0) 6 1 0) 6 2 2) 6 3 60) 6 4 0) 6 5 0) 13 (fun _ => 0)) 14 (fun _ => 0)) 15 (fun _ => 0)) 16 (fun _ => 0)) 17 (fun _ => 0)) 18 (fun _ => 0)) 19 (fun _ => 0)) 13 0 0) 13 1 0) 13 2 2) 13 3 60) 13 4 0) 13 5 0) 20 (fun _ => 0)) 20 0 0) 20 1 4) 20 2 0) 21 (fun _ => 0)) 22 (fun _ => 0)) 23 (fun _ => 0)) 22 1 0) 22 2 0) 24 (fun _ => 0)) 24 0 0) 24 1 4) 24 2 0) 25 (fun _ => 0)) 26 (fun _ => 0)) 26 0 0) 26 1 4) 26 2 0) 27 (fun _ => 0)) 28 (fun _ => 0)) 28 0 0) 28 1 4) 28 2 0) 29 (fun _ => 0)) 30 (fun _ => 0)) 30 0 0) 30 1 4) 30 2 0) 31 (fun _ => 0)) 32 (fun _ => 0)) 32 0 0) 32 1 4) 32 2 0) 33 (fun _ => 0)) 34 (fun _ => 0)) 34 0 0) 34 1 4) 34 2 0) 35 (fun _ => 0)) 36 (fun _ => 0)) 36 0 0) 36 1 4) 36 2 0) 37 (fun _ => 0)) 38 (fun _ => 0)) 38 0 0) 38 1 4) 38 2 0) 39 (fun _ => 0)) 40 (fun _ => 0)) 40 0 0) 40 1 4) 40 2 0) 41 (fun _ => 0)) 42 (fun _ => 0)) 42 0 0) 42 1 4) 42 2 0) 43 (fun _ => 0)) 44 (fun _ => 0)) 45 (fun _ => 0)) 46 (fun _ => 0)) 46 0 0) 46 1 0) 47 (fun _ => 0)) 48 (fun _ => 0)) 49 (fun _ => 0)) 50 (fun _ => 0)) 51 (fun _ => 0)) 52 (fun _ => 0)) 53 (fun _ => 0)) 54 (fun _ => 0)) 55 (fun _ => 0)) 56 (fun _ => 0)) 51 5 0) 51 6 0) 57 (fun _ => 0)) 58 (fun _ => 0)) 59 (fun _ => 0)) 59 0 0) 59 1 4) 59 2 0) 60 (fun _ => 0)) 61 (fun _ => 0)) 61 0 0) 61 1 4) 61 2 0) 62 (fun _ => 0)) 63 (fun _ => 0)) 64 (fun _ => 0)) 65 (fun _ => 0)) 63 4 2) 63 5 60) 66 (fun _ => 0)) 67 (fun _ => 0)) 68 (fun _ => 0)) 69 (fun _ => 0)) 70 (fun _ => 0)) 71 (fun _ => 0)) 72 (fun _ => 0)) 73 (fun _ => 0)) 74 (fun _ => 0)) 75 (fun _ => 0)) 76 (fun _ => 0)) 77 (fun _ => 0)) 66 1 4)
def am_L1 (L : am_L) : am_L := (am_row (am_row (am_row (am_row (am_row (am_row (am_row (am_row (am_row (am_row (am_row (am_row (am_row (am_row (am_row (am_row (am_row (am_row (am_row (am_u (am_row (am_row (am_row (am_row (am_row (am_row (am_row (am_row (am_row (am_row (am_row (am_row (am_row (am_row (am_row (am_row (am_row (am_row (am_row (am_row (am_row (am_row (am_row (am_row (am_row (am_row (am_row (am_row (am_row (am_row (am_row (am_row (am_row (am_row (am_row (am_row (am_row (am_row (am_row (am_row (am_row (am_row (am_row (am_row (am_row (am_row (am_row (am_row (am_row (am_row (am_row (am_row (am_row (am_row (am_row (am_row L 3 (fun _ => 0)) 4 (fun _ => 0)) 5 (fun _ => 0)) 6 (fun _ => 0)) 7 (fun _ => 0)) 8 (fun _ => 0)) 9 (fun _ => 0)) 10 (fun _ => 0)) 11 (fun _ => 0)) 12 (fun _ => 0)) 13 (fun _ => 0)) 14 (fun _ => 0)) 15 (fun _ => 0)) 16 (fun _ => 0)) 17 (fun _ => 0)) 18 (fun _ => 0)) 19 (fun _ => 0)) 20 (fun _ => 0)) 21 (fun _ => 0)) 22 (fun _ => 0)) 23 (fun _ => 0)) 24 (fun _ => 0)) 25 (fun _ => 0)) 26 (fun _ => 0)) 27 (fun _ => 0)) 28 (fun _ => 0)) 29 (fun _ => 0)) 30 (fun _ => 0)) 31 (fun _ => 0)) 32 (fun _ => 0)) 33 (fun _ => 0)) 34 (fun _ => 0)) 35 (fun _ => 0)) 36 (fun _ => 0)) 37 (fun _ => 0)) 38 (fun _ => 0)) 39 (fun _ => 0)) 40 (fun _ => 0)) 41 (fun _ => 0)) 42 (fun _ => 0)) 43 (fun _ => 0)) 44 (fun _ => 0)) 45 (fun _ => 0)) 46 (fun _ => 0)) 47 (fun _ => 0)) 48 (fun _ => 0)) 49 (fun _ => 0)) 50 (fun _ => 0)) 51 (fun _ => 0)) 52 (fun _ => 0)) 53 (fun _ => 0)) 54 (fun _ => 0)) 55 (fun _ => 0)) 56 (fun _ => 0)) 57 (fun _ => 0)) 58 (fun _ => 0)) 3 11 0) 59 (fun _ => 0)) 60 (fun _ => 0)) 61 (fun _ => 0)) 62 (fun _ => 0)) 63 (fun _ => 0)) 64 (fun _ => 0)) 65 (fun _ => 0)) 66 (fun _ => 0)) 67 (fun _ => 0)) 68 (fun _ => 0)) 69 (fun _ => 0)) 70 (fun _ => 0)) 71 (fun _ => 0)) 72 (fun _ => 0)) 73 (fun _ => 0)) 74 (fun _ => 0)) 75 (fun _ => 0)) 76 (fun _ => 0)) 77 (fun _ => 0))
def am_P1 (P : am_P) : am_P := (am_u (am_row (am_u (am_row (am_u (am_row (am_u (am_row (am_u (am_row (am_u (am_row (am_u (am_row (am_u (am_row (am_u (am_row (am_u (am_row (am_u (am_row (am_u (am_row (am_u (am_row (am_u (am_row (am_row (am_u (am_u (am_row (am_row (am_u (am_u (am_row (am_row (am_u (am_row (am_u (am_row (am_u (am_u (am_row (am_u (am_row (am_u (am_row (am_u (am_row (am_u (am_row (am_row (am_u (am_u (am_row (am_u (am_row (am_u (am_row (am_u (am_row (am_row (am_u (am_row (am_u (am_row (am_u (am_u (am_u (am_row (am_row (am_u (am_u (am_row (am_row (am_u (am_u (am_row (am_row (am_u (am_u (am_row (am_row (am_u (am_u (am_row (am_row (am_u (am_u (am_row (am_row (am_u (am_u (am_row (am_row (am_u (am_u (am_row (am_row (am_u (am_u (am_row (am_row (am_u (am_u (am_row (am_row (am_u (am_row (am_row (am_u (am_u (am_row (am_row (am_u (am_u (am_row (am_u (am_row (am_u (am_row (am_u (am_row (am_u (am_row (am_u (am_row (am_row (am_u (am_u (am_row (am_u (am_row (am_u (am_row (am_u (am_row (am_u (am_row (am_u (am_row (am_row (am_u (am_u (am_row (am_row (am_row P 3 (fun _ => 0)) 4 (fun _ => 0)) 5 (fun _ => 0)) 4 0 5) 3 0 4) 6 (fun _ => 0)) 7 (fun _ => 0)) 6 6 7) 8 (fun _ => 0)) 6 7 8) 9 (fun _ => 0)) 6 8 9) 10 (fun _ => 0)) 6 9 10) 11 (fun _ => 0)) 6 10 11) 12 (fun _ => 0)) 6 11 12) 3 1 6) 13 (fun _ => 0)) 14 (fun _ => 0)) 13 6 14) 15 (fun _ => 0)) 13 7 15) 16 (fun _ => 0)) 13 8 16) 17 (fun _ => 0)) 13 9 17) 18 (fun _ => 0)) 13 10 18) 19 (fun _ => 0)) 13 11 19) 3 2 13) 20 (fun _ => 0)) 21 (fun _ => 0)) 20 3 21) 3 3 20) 22 (fun _ => 0)) 23 (fun _ => 0)) 22 0 23) 24 (fun _ => 0)) 25 (fun _ => 0)) 24 3 25) 23 0 24) 26 (fun _ => 0)) 27 (fun _ => 0)) 26 3 27) 23 1 26) 28 (fun _ => 0)) 29 (fun _ => 0)) 28 3 29) 23 2 28) 30 (fun _ => 0)) 31 (fun _ => 0)) 30 3 31) 23 3 30) 32 (fun _ => 0)) 33 (fun _ => 0)) 32 3 33) 23 4 32) 34 (fun _ => 0)) 35 (fun _ => 0)) 34 3 35) 23 5 34) 36 (fun _ => 0)) 37 (fun _ => 0)) 36 3 37) 23 6 36) 38 (fun _ => 0)) 39 (fun _ => 0)) 38 3 39) 23 7 38) 40 (fun _ => 0)) 41 (fun _ => 0)) 40 3 41) 23 8 40) 42 (fun _ => 0)) 43 (fun _ => 0)) 42 3 43) 23 9 42) 3 4 22) 44 (fun _ => 0)) 3 5 44) 45 (fun _ => 0)) 3 6 45) 46 (fun _ => 0)) 47 (fun _ => 0)) 46 2 47) 48 (fun _ => 0)) 46 3 48) 49 (fun _ => 0)) 46 4 49) 50 (fun _ => 0)) 46 5 50) 3 7 46) 51 (fun _ => 0)) 52 (fun _ => 0)) 51 0 52) 53 (fun _ => 0)) 51 1 53) 54 (fun _ => 0)) 51 2 54) 55 (fun _ => 0)) 51 3 55) 56 (fun _ => 0)) 51 4 56) 3 8 51) 57 (fun _ => 0)) 3 9 57) 58 (fun _ => 0)) 3 10 58) 59 (fun _ => 0)) 60 (fun _ => 0)) 59 3 60) 44 0 59) 61 (fun _ => 0)) 62 (fun _ => 0)) 61 3 62) 44 1 61) 63 (fun _ => 0)) 64 (fun _ => 0)) 63 1 64) 65 (fun _ => 0)) 63 3 65) 66 (fun _ => 0)) 63 6 66) 67 (fun _ => 0)) 63 7 67) 68 (fun _ => 0)) 63 9 68) 69 (fun _ => 0)) 63 10 69) 70 (fun _ => 0)) 63 12 70) 71 (fun _ => 0)) 63 14 71) 72 (fun _ => 0)) 63 16 72) 73 (fun _ => 0)) 63 25 73) 74 (fun _ => 0)) 63 27 74) 75 (fun _ => 0)) 63 30 75) 76 (fun _ => 0)) 63 36 76) 77 (fun _ => 0)) 63 37 77)
def am_PT (h s : Nat) : am_P := am_u (am_u (am_P1 (fun _ _ => 0)) 3 1 h) 3 2 s

theorem am_shf_at {Lx k a : Nat} (h1 : ¬ a = 1) (h2 : a < k + 3) : am_shf Lx k a = am_kd a := by unfold am_shf; rw [if_neg h1, if_pos h2]
theorem am_shl_2 : am_kd 2 = (20, 4) := rfl
theorem am_shl_3 : am_kd 3 = (7, 0) := rfl
theorem am_shl_4 : am_kd 4 = (5, 0) := rfl
theorem am_shl_5 : am_kd 5 = (22, 150) := rfl
theorem am_shl_6 : am_kd 6 = (2, 0) := rfl
theorem am_shl_7 : am_kd 7 = (20, 5) := rfl
theorem am_shl_8 : am_kd 8 = (20, 5) := rfl
theorem am_shl_9 : am_kd 9 = (20, 4) := rfl
theorem am_shl_10 : am_kd 10 = (20, 4) := rfl
theorem am_shl_11 : am_kd 11 = (20, 4) := rfl
theorem am_shl_12 : am_kd 12 = (20, 4) := rfl
theorem am_shl_13 : am_kd 13 = (2, 0) := rfl
theorem am_shl_14 : am_kd 14 = (20, 5) := rfl
theorem am_shl_15 : am_kd 15 = (20, 5) := rfl
theorem am_shl_16 : am_kd 16 = (20, 4) := rfl
theorem am_shl_17 : am_kd 17 = (20, 4) := rfl
theorem am_shl_18 : am_kd 18 = (20, 4) := rfl
theorem am_shl_19 : am_kd 19 = (20, 4) := rfl
theorem am_shl_20 : am_kd 20 = (4, 0) := rfl
theorem am_shl_21 : am_kd 21 = (20, 4) := rfl
theorem am_shl_22 : am_kd 22 = (3, 0) := rfl
theorem am_shl_23 : am_kd 23 = (24, 10) := rfl
theorem am_shl_24 : am_kd 24 = (4, 0) := rfl
theorem am_shl_25 : am_kd 25 = (20, 4) := rfl
theorem am_shl_26 : am_kd 26 = (4, 0) := rfl
theorem am_shl_27 : am_kd 27 = (20, 4) := rfl
theorem am_shl_28 : am_kd 28 = (4, 0) := rfl
theorem am_shl_29 : am_kd 29 = (20, 4) := rfl
theorem am_shl_30 : am_kd 30 = (4, 0) := rfl
theorem am_shl_31 : am_kd 31 = (20, 4) := rfl
theorem am_shl_32 : am_kd 32 = (4, 0) := rfl
theorem am_shl_33 : am_kd 33 = (20, 4) := rfl
theorem am_shl_34 : am_kd 34 = (4, 0) := rfl
theorem am_shl_35 : am_kd 35 = (20, 4) := rfl
theorem am_shl_36 : am_kd 36 = (4, 0) := rfl
theorem am_shl_37 : am_kd 37 = (20, 4) := rfl
theorem am_shl_38 : am_kd 38 = (4, 0) := rfl
theorem am_shl_39 : am_kd 39 = (20, 4) := rfl
theorem am_shl_40 : am_kd 40 = (4, 0) := rfl
theorem am_shl_41 : am_kd 41 = (20, 4) := rfl
theorem am_shl_42 : am_kd 42 = (4, 0) := rfl
theorem am_shl_43 : am_kd 43 = (20, 4) := rfl
theorem am_shl_44 : am_kd 44 = (24, 2) := rfl
theorem am_shl_45 : am_kd 45 = (23, 2) := rfl
theorem am_shl_46 : am_kd 46 = (1, 0) := rfl
theorem am_shl_47 : am_kd 47 = (20, 6) := rfl
theorem am_shl_48 : am_kd 48 = (20, 6) := rfl
theorem am_shl_49 : am_kd 49 = (20, 6) := rfl
theorem am_shl_50 : am_kd 50 = (20, 6) := rfl
theorem am_shl_51 : am_kd 51 = (6, 0) := rfl
theorem am_shl_52 : am_kd 52 = (21, 6480) := rfl
theorem am_shl_53 : am_kd 53 = (20, 256) := rfl
theorem am_shl_54 : am_kd 54 = (20, 6480) := rfl
theorem am_shl_55 : am_kd 55 = (20, 6480) := rfl
theorem am_shl_56 : am_kd 56 = (20, 4) := rfl
theorem am_shl_57 : am_kd 57 = (20, 6) := rfl
theorem am_shl_58 : am_kd 58 = (20, 5) := rfl
theorem am_shl_59 : am_kd 59 = (4, 0) := rfl
theorem am_shl_60 : am_kd 60 = (20, 4) := rfl
theorem am_shl_61 : am_kd 61 = (4, 0) := rfl
theorem am_shl_62 : am_kd 62 = (20, 4) := rfl
theorem am_shl_63 : am_kd 63 = (8, 0) := rfl
theorem am_shl_64 : am_kd 64 = (20, 8) := rfl
theorem am_shl_65 : am_kd 65 = (20, 16) := rfl
theorem am_shl_66 : am_kd 66 = (20, 7) := rfl
theorem am_shl_67 : am_kd 67 = (20, 70) := rfl
theorem am_shl_68 : am_kd 68 = (20, 14) := rfl
theorem am_shl_69 : am_kd 69 = (23, 2) := rfl
theorem am_shl_70 : am_kd 70 = (20, 6) := rfl
theorem am_shl_71 : am_kd 71 = (20, 18) := rfl
theorem am_shl_72 : am_kd 72 = (20, 150) := rfl
theorem am_shl_73 : am_kd 73 = (20, 8) := rfl
theorem am_shl_74 : am_kd 74 = (20, 16) := rfl
theorem am_shl_75 : am_kd 75 = (20, 50000) := rfl
theorem am_shl_76 : am_kd 76 = (20, 6) := rfl
theorem am_shl_77 : am_kd 77 = (20, 6) := rfl
section HP
variable {h s Lx : Nat}
theorem am_S1_1 : (am_S1 Lx).1 1 = (20, Lx) := rfl
theorem am_S1_2 : (am_S1 Lx).1 2 = (20, 4) := rfl
theorem am_S1_3 : (am_S1 Lx).1 3 = (7, 0) := rfl
theorem am_S1_4 : (am_S1 Lx).1 4 = (5, 0) := rfl
theorem am_S1_5 : (am_S1 Lx).1 5 = (22, 150) := rfl
theorem am_S1_6 : (am_S1 Lx).1 6 = (2, 0) := rfl
theorem am_S1_7 : (am_S1 Lx).1 7 = (20, 5) := rfl
theorem am_S1_8 : (am_S1 Lx).1 8 = (20, 5) := rfl
theorem am_S1_9 : (am_S1 Lx).1 9 = (20, 4) := rfl
theorem am_S1_10 : (am_S1 Lx).1 10 = (20, 4) := rfl
theorem am_S1_11 : (am_S1 Lx).1 11 = (20, 4) := rfl
theorem am_S1_12 : (am_S1 Lx).1 12 = (20, 4) := rfl
theorem am_S1_13 : (am_S1 Lx).1 13 = (2, 0) := rfl
theorem am_S1_14 : (am_S1 Lx).1 14 = (20, 5) := rfl
theorem am_S1_15 : (am_S1 Lx).1 15 = (20, 5) := rfl
theorem am_S1_16 : (am_S1 Lx).1 16 = (20, 4) := rfl
theorem am_S1_17 : (am_S1 Lx).1 17 = (20, 4) := rfl
theorem am_S1_18 : (am_S1 Lx).1 18 = (20, 4) := rfl
theorem am_S1_19 : (am_S1 Lx).1 19 = (20, 4) := rfl
theorem am_S1_20 : (am_S1 Lx).1 20 = (4, 0) := rfl
theorem am_S1_21 : (am_S1 Lx).1 21 = (20, 4) := rfl
theorem am_S1_22 : (am_S1 Lx).1 22 = (3, 0) := rfl
theorem am_S1_23 : (am_S1 Lx).1 23 = (24, 10) := rfl
theorem am_S1_24 : (am_S1 Lx).1 24 = (4, 0) := rfl
theorem am_S1_25 : (am_S1 Lx).1 25 = (20, 4) := rfl
theorem am_S1_26 : (am_S1 Lx).1 26 = (4, 0) := rfl
theorem am_S1_27 : (am_S1 Lx).1 27 = (20, 4) := rfl
theorem am_S1_28 : (am_S1 Lx).1 28 = (4, 0) := rfl
theorem am_S1_29 : (am_S1 Lx).1 29 = (20, 4) := rfl
theorem am_S1_30 : (am_S1 Lx).1 30 = (4, 0) := rfl
theorem am_S1_31 : (am_S1 Lx).1 31 = (20, 4) := rfl
theorem am_S1_32 : (am_S1 Lx).1 32 = (4, 0) := rfl
theorem am_S1_33 : (am_S1 Lx).1 33 = (20, 4) := rfl
theorem am_S1_34 : (am_S1 Lx).1 34 = (4, 0) := rfl
theorem am_S1_35 : (am_S1 Lx).1 35 = (20, 4) := rfl
theorem am_S1_36 : (am_S1 Lx).1 36 = (4, 0) := rfl
theorem am_S1_37 : (am_S1 Lx).1 37 = (20, 4) := rfl
theorem am_S1_38 : (am_S1 Lx).1 38 = (4, 0) := rfl
theorem am_S1_39 : (am_S1 Lx).1 39 = (20, 4) := rfl
theorem am_S1_40 : (am_S1 Lx).1 40 = (4, 0) := rfl
theorem am_S1_41 : (am_S1 Lx).1 41 = (20, 4) := rfl
theorem am_S1_42 : (am_S1 Lx).1 42 = (4, 0) := rfl
theorem am_S1_43 : (am_S1 Lx).1 43 = (20, 4) := rfl
theorem am_S1_44 : (am_S1 Lx).1 44 = (24, 2) := rfl
theorem am_S1_45 : (am_S1 Lx).1 45 = (23, 2) := rfl
theorem am_S1_46 : (am_S1 Lx).1 46 = (1, 0) := rfl
theorem am_S1_47 : (am_S1 Lx).1 47 = (20, 6) := rfl
theorem am_S1_48 : (am_S1 Lx).1 48 = (20, 6) := rfl
theorem am_S1_49 : (am_S1 Lx).1 49 = (20, 6) := rfl
theorem am_S1_50 : (am_S1 Lx).1 50 = (20, 6) := rfl
theorem am_S1_51 : (am_S1 Lx).1 51 = (6, 0) := rfl
theorem am_S1_52 : (am_S1 Lx).1 52 = (21, 6480) := rfl
theorem am_S1_53 : (am_S1 Lx).1 53 = (20, 256) := rfl
theorem am_S1_54 : (am_S1 Lx).1 54 = (20, 6480) := rfl
theorem am_S1_55 : (am_S1 Lx).1 55 = (20, 6480) := rfl
theorem am_S1_56 : (am_S1 Lx).1 56 = (20, 4) := rfl
theorem am_S1_57 : (am_S1 Lx).1 57 = (20, 6) := rfl
theorem am_S1_58 : (am_S1 Lx).1 58 = (20, 5) := rfl
theorem am_S1_59 : (am_S1 Lx).1 59 = (4, 0) := rfl
theorem am_S1_60 : (am_S1 Lx).1 60 = (20, 4) := rfl
theorem am_S1_61 : (am_S1 Lx).1 61 = (4, 0) := rfl
theorem am_S1_62 : (am_S1 Lx).1 62 = (20, 4) := rfl
theorem am_S1_63 : (am_S1 Lx).1 63 = (8, 0) := rfl
theorem am_S1_64 : (am_S1 Lx).1 64 = (20, 8) := rfl
theorem am_S1_65 : (am_S1 Lx).1 65 = (20, 16) := rfl
theorem am_S1_66 : (am_S1 Lx).1 66 = (20, 7) := rfl
theorem am_S1_67 : (am_S1 Lx).1 67 = (20, 70) := rfl
theorem am_S1_68 : (am_S1 Lx).1 68 = (20, 14) := rfl
theorem am_S1_69 : (am_S1 Lx).1 69 = (23, 2) := rfl
theorem am_S1_70 : (am_S1 Lx).1 70 = (20, 6) := rfl
theorem am_S1_71 : (am_S1 Lx).1 71 = (20, 18) := rfl
theorem am_S1_72 : (am_S1 Lx).1 72 = (20, 150) := rfl
theorem am_S1_73 : (am_S1 Lx).1 73 = (20, 8) := rfl
theorem am_S1_74 : (am_S1 Lx).1 74 = (20, 16) := rfl
theorem am_S1_75 : (am_S1 Lx).1 75 = (20, 50000) := rfl
theorem am_S1_76 : (am_S1 Lx).1 76 = (20, 6) := rfl
theorem am_S1_77 : (am_S1 Lx).1 77 = (20, 6) := rfl
theorem am_PT_3_1 : am_PT h s 3 1 = h := rfl
theorem am_PT_3_2 : am_PT h s 3 2 = s := rfl
theorem am_PT_3_0 : am_PT h s 3 0 = 4 := rfl
theorem am_PT_3_3 : am_PT h s 3 3 = 20 := rfl
theorem am_PT_3_4 : am_PT h s 3 4 = 22 := rfl
theorem am_PT_3_5 : am_PT h s 3 5 = 44 := rfl
theorem am_PT_3_6 : am_PT h s 3 6 = 45 := rfl
theorem am_PT_3_7 : am_PT h s 3 7 = 46 := rfl
theorem am_PT_3_8 : am_PT h s 3 8 = 51 := rfl
theorem am_PT_3_9 : am_PT h s 3 9 = 57 := rfl
theorem am_PT_3_10 : am_PT h s 3 10 = 58 := rfl
theorem am_PT_4_0 : am_PT h s 4 0 = 5 := rfl
theorem am_PT_6_6 : am_PT h s 6 6 = 7 := rfl
theorem am_PT_6_7 : am_PT h s 6 7 = 8 := rfl
theorem am_PT_6_8 : am_PT h s 6 8 = 9 := rfl
theorem am_PT_6_9 : am_PT h s 6 9 = 10 := rfl
theorem am_PT_6_10 : am_PT h s 6 10 = 11 := rfl
theorem am_PT_6_11 : am_PT h s 6 11 = 12 := rfl
theorem am_PT_13_6 : am_PT h s 13 6 = 14 := rfl
theorem am_PT_13_7 : am_PT h s 13 7 = 15 := rfl
theorem am_PT_13_8 : am_PT h s 13 8 = 16 := rfl
theorem am_PT_13_9 : am_PT h s 13 9 = 17 := rfl
theorem am_PT_13_10 : am_PT h s 13 10 = 18 := rfl
theorem am_PT_13_11 : am_PT h s 13 11 = 19 := rfl
theorem am_PT_20_3 : am_PT h s 20 3 = 21 := rfl
theorem am_PT_22_0 : am_PT h s 22 0 = 23 := rfl
theorem am_PT_23_0 : am_PT h s 23 0 = 24 := rfl
theorem am_PT_23_1 : am_PT h s 23 1 = 26 := rfl
theorem am_PT_23_2 : am_PT h s 23 2 = 28 := rfl
theorem am_PT_23_3 : am_PT h s 23 3 = 30 := rfl
theorem am_PT_23_4 : am_PT h s 23 4 = 32 := rfl
theorem am_PT_23_5 : am_PT h s 23 5 = 34 := rfl
theorem am_PT_23_6 : am_PT h s 23 6 = 36 := rfl
theorem am_PT_23_7 : am_PT h s 23 7 = 38 := rfl
theorem am_PT_23_8 : am_PT h s 23 8 = 40 := rfl
theorem am_PT_23_9 : am_PT h s 23 9 = 42 := rfl
theorem am_PT_24_3 : am_PT h s 24 3 = 25 := rfl
theorem am_PT_26_3 : am_PT h s 26 3 = 27 := rfl
theorem am_PT_28_3 : am_PT h s 28 3 = 29 := rfl
theorem am_PT_30_3 : am_PT h s 30 3 = 31 := rfl
theorem am_PT_32_3 : am_PT h s 32 3 = 33 := rfl
theorem am_PT_34_3 : am_PT h s 34 3 = 35 := rfl
theorem am_PT_36_3 : am_PT h s 36 3 = 37 := rfl
theorem am_PT_38_3 : am_PT h s 38 3 = 39 := rfl
theorem am_PT_40_3 : am_PT h s 40 3 = 41 := rfl
theorem am_PT_42_3 : am_PT h s 42 3 = 43 := rfl
theorem am_PT_44_0 : am_PT h s 44 0 = 59 := rfl
theorem am_PT_44_1 : am_PT h s 44 1 = 61 := rfl
theorem am_PT_46_2 : am_PT h s 46 2 = 47 := rfl
theorem am_PT_46_3 : am_PT h s 46 3 = 48 := rfl
theorem am_PT_46_4 : am_PT h s 46 4 = 49 := rfl
theorem am_PT_46_5 : am_PT h s 46 5 = 50 := rfl
theorem am_PT_51_0 : am_PT h s 51 0 = 52 := rfl
theorem am_PT_51_1 : am_PT h s 51 1 = 53 := rfl
theorem am_PT_51_2 : am_PT h s 51 2 = 54 := rfl
theorem am_PT_51_3 : am_PT h s 51 3 = 55 := rfl
theorem am_PT_51_4 : am_PT h s 51 4 = 56 := rfl
theorem am_PT_59_3 : am_PT h s 59 3 = 60 := rfl
theorem am_PT_61_3 : am_PT h s 61 3 = 62 := rfl
theorem am_PT_63_1 : am_PT h s 63 1 = 64 := rfl
theorem am_PT_63_3 : am_PT h s 63 3 = 65 := rfl
theorem am_PT_63_6 : am_PT h s 63 6 = 66 := rfl
theorem am_PT_63_7 : am_PT h s 63 7 = 67 := rfl
theorem am_PT_63_9 : am_PT h s 63 9 = 68 := rfl
theorem am_PT_63_10 : am_PT h s 63 10 = 69 := rfl
theorem am_PT_63_12 : am_PT h s 63 12 = 70 := rfl
theorem am_PT_63_14 : am_PT h s 63 14 = 71 := rfl
theorem am_PT_63_16 : am_PT h s 63 16 = 72 := rfl
theorem am_PT_63_25 : am_PT h s 63 25 = 73 := rfl
theorem am_PT_63_27 : am_PT h s 63 27 = 74 := rfl
theorem am_PT_63_30 : am_PT h s 63 30 = 75 := rfl
theorem am_PT_63_36 : am_PT h s 63 36 = 76 := rfl
theorem am_PT_63_37 : am_PT h s 63 37 = 77 := rfl
end HP
theorem am_kc_i {x : Int32} : am_kc (some (.int x)) = some (.int x) := rfl
theorem am_kc_r {a : Nat} : am_kc (some (.ref a)) = some (.ref a) := rfl
theorem am_kc_l {j : Int64} : am_kc (some (.long j)) = none := rfl
theorem am_kc_n : am_kc none = none := rfl
theorem am_wsum_n : am_wsum [] = 0 := rfl
theorem am_wsum_i {x : Int32} {l : List Value} : am_wsum (.int x :: l) = 1 + am_wsum l := rfl
theorem am_wsum_r {a : Nat} {l : List Value} : am_wsum (.ref a :: l) = 1 + am_wsum l := rfl
theorem am_wsum_l {j : Int64} {l : List Value} : am_wsum (.long j :: l) = 2 + am_wsum l := rfl
theorem am_rs_s {v : Value} {l : List Value} : am_rs (some v) l = v :: l := rfl
theorem am_rs_n {l : List Value} : am_rs none l = l := rfl
theorem am_nb0 : narrow .boolean (.int 0) = .int 0 := by decide
theorem am_nb1 : narrow .boolean (.int 1) = .int 1 := by decide
theorem am_fb0 : am_fit .boolean 0 = True := eq_true (by decide)
theorem am_fb1 : am_fit .boolean 1 = True := eq_true (by decide)
