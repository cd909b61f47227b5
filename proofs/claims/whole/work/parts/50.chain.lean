/-! chains of states that wait: 53 first, 54 after, 55 ahead; -9 is none -/
def q_ch (I : am_I) : Int32 → Int32 → List Nat → Prop
  | _, x, [] => x = -nI 9
  | p, x, a :: l => x = nI a ∧ I 55 a = p ∧ q_ch I (nI a) (I 54 a) l
theorem q_ch_c {I I' : am_I} : ∀ (l : List Nat) (p x : Int32), (∀ a, a ∈ l → I' 54 a = I 54 a ∧ I' 55 a = I 55 a) → q_ch I p x l → q_ch I' p x l
  | [], _, _, _, h => h
  | a :: l, p, x, hc, h => by
    obtain ⟨h1, h2, h3⟩ := h
    obtain ⟨c1, c2⟩ := hc a List.mem_cons_self
    refine ⟨h1, by rw [c2]; exact h2, ?_⟩
    rw [c1]
    exact q_ch_c l _ _ (fun b hb => hc b (List.mem_cons_of_mem _ hb)) h3
theorem q_ch_nx {I : am_I} {s : Nat} : ∀ (l1 : List Nat) {l2 : List Nat} {p x : Int32}, q_ch I p x (l1 ++ s :: l2) → (l2 = [] ∧ I 54 s = -nI 9) ∨ ∃ c l3, l2 = c :: l3 ∧ I 54 s = nI c
  | [], l2, p, x, h => by
    obtain ⟨h1, h2, h3⟩ := h
    match l2, h3 with
    | [], h3 => exact Or.inl ⟨rfl, h3⟩
    | c :: l3, h3 => exact Or.inr ⟨c, l3, rfl, h3.1⟩
  | a :: l1, l2, p, x, h => q_ch_nx l1 h.2.2
theorem q_ch_pv {I : am_I} {s : Nat} : ∀ (l1 : List Nat) {l2 : List Nat} {p x : Int32}, q_ch I p x (l1 ++ s :: l2) → (l1 = [] ∧ I 55 s = p) ∨ ∃ b, b ∈ l1 ∧ I 55 s = nI b
  | [], l2, p, x, h => Or.inl ⟨rfl, h.2.1⟩
  | a :: l1, l2, p, x, h => by
    rcases q_ch_pv l1 h.2.2 with ⟨h1, h2⟩ | ⟨b, h1, h2⟩
    · exact Or.inr ⟨a, List.mem_cons_self, h2⟩
    · exact Or.inr ⟨b, List.mem_cons_of_mem _ h1, h2⟩
theorem q_m9 {a : Nat} (ha : a < 6480) : ¬ -nI 9 = nI a := by
  intro h
  have e : (-nI 9).toInt = -9 := by decide
  have := congrArg Int32.toInt h
  rw [e, nI_toInt (by omega)] at this
  omega
theorem q_eq {a b : Nat} (ha : a < 6480) (hb : b < 6480) : nI a = nI b ↔ a = b := by
  have := n_eq (a := a) (b := b) (by omega) (by omega)
  rw [this]
def q_hd (x y : Int32) : List Nat → Int32
  | [] => y
  | _ :: _ => x
/-- one taken out of its chain -/
theorem q_rm {I I2 : am_I} {s : Nat} (hs : s < 6480) {l2 : List Nat} : ∀ (l1 : List Nat) (p x : Int32), q_ch I p x (l1 ++ s :: l2) → (l1 ++ s :: l2).Nodup → (∀ a, a ∈ l1 ++ s :: l2 → a < 6480) → (∀ a, a ∈ l1 ++ s :: l2 → ¬ p = nI a) →
    (∀ a, a ∈ l1 ++ l2 → ¬ I 55 s = nI a → I2 54 a = I 54 a) → (∀ a, a ∈ l1 → I 55 s = nI a → I2 54 a = I 54 s) → (∀ a, a ∈ l1 ++ l2 → ¬ I 54 s = nI a → I2 55 a = I 55 a) → (∀ a, a ∈ l2 → I 54 s = nI a → I2 55 a = I 55 s) → q_ch I2 p (q_hd x (I 54 s) l1) (l1 ++ l2)
  | [], p, x, h, hn, hl, hp, c1, c2, c3, c4 => by
    obtain ⟨h1, h2, h3⟩ := h
    match l2, h3 with
    | [], h3 => exact h3
    | c :: l3, h3 =>
      obtain ⟨k1, k2, k3⟩ := h3
      have hn2 : (s :: c :: l3).Nodup := hn
      rw [List.nodup_cons, List.nodup_cons] at hn2
      have pc : ∀ a, a ∈ c :: l3 → ¬ I 55 s = nI a := fun a ha => by rw [h2]; exact hp a (List.mem_cons_of_mem _ ha)
      refine ⟨k1, ?_, ?_⟩
      · rw [c4 c List.mem_cons_self k1]; exact h2
      · rw [c1 c List.mem_cons_self (pc c List.mem_cons_self)]
        refine q_ch_c l3 _ _ (fun a ha => ⟨c1 a (List.mem_cons_of_mem _ ha) (pc a (List.mem_cons_of_mem _ ha)), c3 a (List.mem_cons_of_mem _ ha) ?_⟩) k3
        rw [k1]
        intro q
        have := (q_eq (hl c (List.mem_cons_of_mem _ List.mem_cons_self)) (hl a (List.mem_cons_of_mem _ (List.mem_cons_of_mem _ ha)))).mp q
        subst this
        exact hn2.2.1 ha
  | b :: l1, p, x, h, hn, hl, hp, c1, c2, c3, c4 => by
    obtain ⟨h1, h2, h3⟩ := h
    have hn2 : (b :: (l1 ++ s :: l2)).Nodup := hn
    rw [List.nodup_cons] at hn2
    have ms : s ∈ l1 ++ s :: l2 := List.mem_append_right _ List.mem_cons_self
    have hbl : ∀ a, a ∈ l1 ++ s :: l2 → ¬ nI b = nI a := by
      intro a ha q
      have := (q_eq (hl b List.mem_cons_self) (hl a (List.mem_cons_of_mem _ ha))).mp q
      subst this
      exact hn2.1 ha
    have sub : ∀ a, a ∈ l1 ++ l2 → a ∈ l1 ++ s :: l2 := by
      intro a ha
      rcases List.mem_append.mp ha with q | q
      · exact List.mem_append_left _ q
      · exact List.mem_append_right _ (List.mem_cons_of_mem _ q)
    have ih := q_rm hs (I2 := I2) l1 (nI b) (I 54 b) h3 hn2.2 (fun a ha => hl a (List.mem_cons_of_mem _ ha)) hbl (fun a ha => c1 a (List.mem_cons_of_mem _ ha)) (fun a ha => c2 a (List.mem_cons_of_mem _ ha)) (fun a ha => c3 a (List.mem_cons_of_mem _ ha)) c4
    have nb : ¬ I 54 s = nI b := by
      rcases q_ch_nx l1 h3 with ⟨q1, q2⟩ | ⟨c, l3, q1, q2⟩
      · rw [q2]; exact q_m9 (hl b List.mem_cons_self)
      · rw [q2]
        intro q
        have hc : c ∈ l1 ++ s :: l2 := by rw [q1]; exact List.mem_append_right _ (List.mem_cons_of_mem _ List.mem_cons_self)
        exact hbl c hc q.symm
    refine ⟨h1, ?_, ?_⟩
    · rw [c3 b List.mem_cons_self nb]; exact h2
    · rcases q_ch_pv l1 h3 with ⟨q1, q2⟩ | ⟨d, q1, q2⟩
      · subst q1
        rw [c2 b List.mem_cons_self q2]
        exact ih
      · have e : I2 54 b = I 54 b := by
          refine c1 b List.mem_cons_self ?_
          rw [q2]
          intro q
          exact hbl d (List.mem_append_left _ q1) q.symm
        rw [e]
        match l1, q1, ih with
        | g :: l1, _, ih => exact ih
/-- the buckets of one n: whoever waits -/
def q_bk (I : am_I) (D : Nat → Nat) (dn : Nat → Nat) (lst : Nat → List Nat) : Prop := ∀ m, m < 256 → q_ch I (-nI 9) (I 53 m) (lst m) ∧ (lst m).Nodup ∧ ∀ s, s ∈ lst m ↔ s < 6480 ∧ D s = m ∧ dn s = 0
section CH
variable {I : am_I} {L : am_L} {Q : Option Value → am_I → am_L → am_P → am_S → Prop} {h s n Lx : Nat}
/-- out of its chain -/
theorem s56 {x m : Nat} {D dn : Nat → Nat} {lst : Nat → List Nat} (hx : x < 6480) (hm : m < 256) (hB : q_bk I D dn lst) (hin : x ∈ lst m) (H : ∀ (I' : am_I) (lst' : Nat → List Nat), (∀ c, ¬ c = 53 → ¬ c = 54 → ¬ c = 55 → I' c = I c) → (∀ k, k < 256 → q_ch I' (-nI 9) (I' 53 k) (lst' k) ∧ (lst' k).Nodup ∧ ∀ y, y ∈ lst' k ↔ y ∈ lst k ∧ ¬ y = x) → Q none I' L (am_PT h s) (am_S1 Lx)) : Ev 56 [.ref 51, .int (nI x), .int (nI m)] I L (am_PT h s) (am_S1 Lx) Q := by
  obtain ⟨b1, b2, b3⟩ := hB m hm
  obtain ⟨l1, l2, hl⟩ := List.append_of_mem hin
  rw [hl] at b1 b2 b3
  have hlt : ∀ a, a ∈ l1 ++ x :: l2 → a < 6480 := fun a ha => ((b3 a).mp ha).1
  have sub : ∀ a, a ∈ l1 ++ l2 → a ∈ l1 ++ x :: l2 := by
    intro a ha
    rcases List.mem_append.mp ha with q | q
    · exact List.mem_append_left _ q
    · exact List.mem_append_right _ (List.mem_cons_of_mem _ q)
  have oth : ∀ k, k < 256 → ¬ k = m → ∀ a, a ∈ lst k → a < 6480 ∧ ¬ a ∈ l1 ++ x :: l2 := by
    intro k hk hkm a ha
    have q := (hB k hk).2.2 a
    obtain ⟨q1, q2, q3⟩ := q.mp ha
    refine ⟨q1, fun h => ?_⟩
    obtain ⟨r1, r2, r3⟩ := (b3 a).mp h
    omega
  have nd := List.nodup_append.mp b2
  have nd2 := List.nodup_cons.mp nd.2.1
  have xl1 : ¬ x ∈ l1 := fun q => nd.2.2 x q x List.mem_cons_self rfl
  have xl2 : ¬ x ∈ l2 := nd2.1
  have nd12 : (l1 ++ l2).Nodup := by
    rw [List.nodup_append]
    exact ⟨nd.1, nd2.2, fun a ha b hb => nd.2.2 a ha b (List.mem_cons_of_mem _ hb)⟩
  have mem12 : ∀ y, y ∈ l1 ++ l2 ↔ y ∈ l1 ++ x :: l2 ∧ ¬ y = x := by
    intro y
    rw [List.mem_append, List.mem_append, List.mem_cons]
    constructor
    · rintro (q | q)
      · exact ⟨Or.inl q, fun e => xl1 (e ▸ q)⟩
      · exact ⟨Or.inr (Or.inr q), fun e => xl2 (e ▸ q)⟩
    · rintro ⟨q | q | q, r⟩
      · exact Or.inl q
      · exact absurd q r
      · exact Or.inr q
  have fin : ∀ I2 : am_I, (∀ c, ¬ c = 53 → ¬ c = 54 → ¬ c = 55 → I2 c = I c) → (∀ a, a < 6480 → ¬ I 55 x = nI a → I2 54 a = I 54 a) → (∀ a, a ∈ l1 → I 55 x = nI a → I2 54 a = I 54 x) → (∀ a, a < 6480 → ¬ I 54 x = nI a → I2 55 a = I 55 a) → (∀ a, a ∈ l2 → I 54 x = nI a → I2 55 a = I 55 x) → (∀ k, k < 256 → I2 53 k = if k = m then q_hd (I 53 m) (I 54 x) l1 else I 53 k) → Q none I2 L (am_PT h s) (am_S1 Lx) := by
    intro I2 fr c1 c2 c3 c4 c5
    refine H I2 (fun k => if k = m then l1 ++ l2 else lst k) fr (fun k hk => ?_)
    rw [c5 k hk]
    by_cases hkm : k = m
    · subst hkm
      simp only [if_true]
      refine ⟨?_, nd12, fun y => by rw [mem12, hl]⟩
      exact q_rm hx l1 _ _ b1 b2 hlt (fun a ha => q_m9 (hlt a ha)) (fun a ha => c1 a (hlt a (sub a ha))) c2 (fun a ha => c3 a (hlt a (sub a ha))) c4
    · simp only [if_neg hkm]
      obtain ⟨g1, g2, g3⟩ := hB k hk
      refine ⟨q_ch_c (lst k) _ _ (fun a ha => ?_) g1, g2, fun y => ⟨fun q => ⟨q, fun e => ?_⟩, fun q => q.1⟩⟩
      · obtain ⟨o1, o2⟩ := oth k hk hkm a ha
        refine ⟨c1 a o1 fun q => ?_, c3 a o1 fun q => ?_⟩
        · rcases q_ch_pv l1 b1 with ⟨z1, z2⟩ | ⟨d, z1, z2⟩
          · rw [z2] at q; exact q_m9 o1 q
          · rw [z2] at q
            have := (q_eq (hlt d (List.mem_append_left _ z1)) o1).mp q
            subst this
            exact o2 (List.mem_append_left _ z1)
        · rcases q_ch_nx l1 b1 with ⟨z1, z2⟩ | ⟨d, l3, z1, z2⟩
          · rw [z2] at q; exact q_m9 o1 q
          · rw [z2] at q
            have hd2 : d ∈ l1 ++ x :: l2 := by rw [z1]; exact List.mem_append_right _ (List.mem_cons_of_mem _ List.mem_cons_self)
            have := (q_eq (hlt d hd2) o1).mp q
            subst this
            exact o2 hd2
      · rw [e] at q
        exact (oth k hk hkm x q).2 (List.mem_append_right _ List.mem_cons_self)
  have m9 : -nI 9 < nI 0 := by decide
  have n9 : ¬ nI 0 ≤ -nI 9 := by decide
  rcases q_ch_pv l1 b1 with ⟨z1, z2⟩ | ⟨d, z1, z2⟩
  · rcases q_ch_nx l1 b1 with ⟨y1, y2⟩ | ⟨e, l3, y1, y2⟩
    · simp +decide (disch := omega) only [xe56, x56_0, x56_1, x56_4, x56_5, x56_6, x56_7, x56_8, x56_11, x56_12, x56_13, x56_15, x56_16, x56_19, x56_20, x56_23, x56_26, x56_27, x56_30, x56_31, x56_33, x56_34, x56_37, x56_38, x56_41, x56_42, x56_44, x56_45, x56_47, x56_50, x56_52, x56_55, x56_58, x56_59, x56_62, x56_64, x56_65, x56_66, ↓reduceIte, true_and, and_true, if_true, if_false, ne_eq, not_false_eq_true, am_u_at, am_nb0, am_nb1, am_fb0, am_fb1, am_kc_i, am_kc_r, am_kc_l, am_kc_n, am_wsum_n, am_wsum_i, am_wsum_r, am_wsum_l, am_rs_s, am_rs_n, am_S1_1, am_S1_2, am_S1_3, am_S1_4, am_S1_5, am_S1_6, am_S1_7, am_S1_8, am_S1_9, am_S1_10, am_S1_11, am_S1_12, am_S1_13, am_S1_14, am_S1_15, am_S1_16, am_S1_17, am_S1_18, am_S1_19, am_S1_20, am_S1_21, am_S1_22, am_S1_23, am_S1_24, am_S1_25, am_S1_26, am_S1_27, am_S1_28, am_S1_29, am_S1_30, am_S1_31, am_S1_32, am_S1_33, am_S1_34, am_S1_35, am_S1_36, am_S1_37, am_S1_38, am_S1_39, am_S1_40, am_S1_41, am_S1_42, am_S1_43, am_S1_44, am_S1_45, am_S1_46, am_S1_47, am_S1_48, am_S1_49, am_S1_50, am_S1_51, am_S1_52, am_S1_53, am_S1_54, am_S1_55, am_S1_56, am_S1_57, am_S1_58, am_S1_59, am_S1_60, am_S1_61, am_S1_62, am_S1_63, am_S1_64, am_S1_65, am_S1_66, am_S1_67, am_S1_68, am_S1_69, am_S1_70, am_S1_71, am_S1_72, am_S1_73, am_S1_74, am_S1_75, am_S1_76, am_S1_77, am_PT_3_1, am_PT_3_2, am_PT_3_0, am_PT_3_3, am_PT_3_4, am_PT_3_5, am_PT_3_6, am_PT_3_7, am_PT_3_8, am_PT_3_9, am_PT_3_10, am_PT_4_0, am_PT_6_6, am_PT_6_7, am_PT_6_8, am_PT_6_9, am_PT_6_10, am_PT_6_11, am_PT_13_6, am_PT_13_7, am_PT_13_8, am_PT_13_9, am_PT_13_10, am_PT_13_11, am_PT_20_3, am_PT_22_0, am_PT_23_0, am_PT_23_1, am_PT_23_2, am_PT_23_3, am_PT_23_4, am_PT_23_5, am_PT_23_6, am_PT_23_7, am_PT_23_8, am_PT_23_9, am_PT_24_3, am_PT_26_3, am_PT_28_3, am_PT_30_3, am_PT_32_3, am_PT_34_3, am_PT_36_3, am_PT_38_3, am_PT_40_3, am_PT_42_3, am_PT_44_0, am_PT_44_1, am_PT_46_2, am_PT_46_3, am_PT_46_4, am_PT_46_5, am_PT_51_0, am_PT_51_1, am_PT_51_2, am_PT_51_3, am_PT_51_4, am_PT_59_3, am_PT_61_3, am_PT_63_1, am_PT_63_3, am_PT_63_6, am_PT_63_7, am_PT_63_9, am_PT_63_10, am_PT_63_12, am_PT_63_14, am_PT_63_16, am_PT_63_25, am_PT_63_27, am_PT_63_30, am_PT_63_36, am_PT_63_37, n_c0, n_c1, n_c2, n_c3, n_c4, n_c5, n_c6, n_c7, n_c8, n_c9, n_c10, n_c11, n_c12, n_c14, n_c16, n_c18, n_c20, n_c24, n_c30, n_c31, n_c32, n_c36, n_c48, n_c57, n_c60, n_c63, n_c70, n_c75, n_c97, n_c100, n_c101, n_c104, n_c115, n_c116, n_c59, n_c150, n_c199, n_c200, n_c201, n_c216, n_c255, n_c256, n_c999, n_c1296, n_c4095, n_c6480, n_c100000, n_c1000, n_c65536, n_le, n_lt0, n_lt, n_eq, n_cl, n_add, n_sub, n_mul, n_div, n_rem, n_mo, n_in, n_nb0, n_nb1, n_fb0, n_fb1, n_vb0, n_vb1, hx, hm, z2, y2, m9]
      refine fin _ (fun c q1 q2 q3 => ?_) (fun a ha q => ?_) (fun a ha q => ?_) (fun a ha q => ?_) (fun a ha q => ?_) (fun k hk => ?_)
      · rw [am_u_ne q1]
      · rw [am_u_ne (by omega)]
      · rw [z1] at ha; exact absurd ha (List.not_mem_nil)
      · rw [am_u_ne (by omega)]
      · rw [y1] at ha; exact absurd ha (List.not_mem_nil)
      · rw [am_u_at, if_pos rfl, z1]
        by_cases q : k = m
        · rw [if_pos q, if_pos q]; exact y2.symm
        · rw [if_neg q, if_neg q]
    · have he : e < 6480 := hlt e (by rw [y1]; exact List.mem_append_right _ (List.mem_cons_of_mem _ List.mem_cons_self))
      have e0 : ¬ e < 0 := by omega
      have e1 : ¬ 6480 ≤ e := by omega
      simp +decide (disch := omega) only [xe56, x56_0, x56_1, x56_4, x56_5, x56_6, x56_7, x56_8, x56_11, x56_12, x56_13, x56_15, x56_16, x56_19, x56_20, x56_23, x56_26, x56_27, x56_30, x56_31, x56_33, x56_34, x56_37, x56_38, x56_41, x56_42, x56_44, x56_45, x56_47, x56_50, x56_52, x56_55, x56_58, x56_59, x56_62, x56_64, x56_65, x56_66, ↓reduceIte, true_and, and_true, if_true, if_false, ne_eq, not_false_eq_true, am_u_at, am_nb0, am_nb1, am_fb0, am_fb1, am_kc_i, am_kc_r, am_kc_l, am_kc_n, am_wsum_n, am_wsum_i, am_wsum_r, am_wsum_l, am_rs_s, am_rs_n, am_S1_1, am_S1_2, am_S1_3, am_S1_4, am_S1_5, am_S1_6, am_S1_7, am_S1_8, am_S1_9, am_S1_10, am_S1_11, am_S1_12, am_S1_13, am_S1_14, am_S1_15, am_S1_16, am_S1_17, am_S1_18, am_S1_19, am_S1_20, am_S1_21, am_S1_22, am_S1_23, am_S1_24, am_S1_25, am_S1_26, am_S1_27, am_S1_28, am_S1_29, am_S1_30, am_S1_31, am_S1_32, am_S1_33, am_S1_34, am_S1_35, am_S1_36, am_S1_37, am_S1_38, am_S1_39, am_S1_40, am_S1_41, am_S1_42, am_S1_43, am_S1_44, am_S1_45, am_S1_46, am_S1_47, am_S1_48, am_S1_49, am_S1_50, am_S1_51, am_S1_52, am_S1_53, am_S1_54, am_S1_55, am_S1_56, am_S1_57, am_S1_58, am_S1_59, am_S1_60, am_S1_61, am_S1_62, am_S1_63, am_S1_64, am_S1_65, am_S1_66, am_S1_67, am_S1_68, am_S1_69, am_S1_70, am_S1_71, am_S1_72, am_S1_73, am_S1_74, am_S1_75, am_S1_76, am_S1_77, am_PT_3_1, am_PT_3_2, am_PT_3_0, am_PT_3_3, am_PT_3_4, am_PT_3_5, am_PT_3_6, am_PT_3_7, am_PT_3_8, am_PT_3_9, am_PT_3_10, am_PT_4_0, am_PT_6_6, am_PT_6_7, am_PT_6_8, am_PT_6_9, am_PT_6_10, am_PT_6_11, am_PT_13_6, am_PT_13_7, am_PT_13_8, am_PT_13_9, am_PT_13_10, am_PT_13_11, am_PT_20_3, am_PT_22_0, am_PT_23_0, am_PT_23_1, am_PT_23_2, am_PT_23_3, am_PT_23_4, am_PT_23_5, am_PT_23_6, am_PT_23_7, am_PT_23_8, am_PT_23_9, am_PT_24_3, am_PT_26_3, am_PT_28_3, am_PT_30_3, am_PT_32_3, am_PT_34_3, am_PT_36_3, am_PT_38_3, am_PT_40_3, am_PT_42_3, am_PT_44_0, am_PT_44_1, am_PT_46_2, am_PT_46_3, am_PT_46_4, am_PT_46_5, am_PT_51_0, am_PT_51_1, am_PT_51_2, am_PT_51_3, am_PT_51_4, am_PT_59_3, am_PT_61_3, am_PT_63_1, am_PT_63_3, am_PT_63_6, am_PT_63_7, am_PT_63_9, am_PT_63_10, am_PT_63_12, am_PT_63_14, am_PT_63_16, am_PT_63_25, am_PT_63_27, am_PT_63_30, am_PT_63_36, am_PT_63_37, n_c0, n_c1, n_c2, n_c3, n_c4, n_c5, n_c6, n_c7, n_c8, n_c9, n_c10, n_c11, n_c12, n_c14, n_c16, n_c18, n_c20, n_c24, n_c30, n_c31, n_c32, n_c36, n_c48, n_c57, n_c60, n_c63, n_c70, n_c75, n_c97, n_c100, n_c101, n_c104, n_c115, n_c116, n_c59, n_c150, n_c199, n_c200, n_c201, n_c216, n_c255, n_c256, n_c999, n_c1296, n_c4095, n_c6480, n_c100000, n_c1000, n_c65536, n_le, n_lt0, n_lt, n_eq, n_cl, n_add, n_sub, n_mul, n_div, n_rem, n_mo, n_in, n_nb0, n_nb1, n_fb0, n_fb1, n_vb0, n_vb1, hx, hm, z2, y2, m9, e0, e1, he]
      refine fin _ (fun c q1 q2 q3 => ?_) (fun a ha q => ?_) (fun a ha q => ?_) (fun a ha q => ?_) (fun a ha q => ?_) (fun k hk => ?_)
      · rw [am_u_ne q3, am_u_ne q1]
      · rw [am_u_ne (by omega), am_u_ne (by omega)]
      · rw [z1] at ha; exact absurd ha (List.not_mem_nil)
      · rw [am_u_at, if_pos rfl, if_neg (fun w => q (by rw [y2, w])), am_u_ne (by omega)]
      · have ha' := hlt a (List.mem_append_right _ (List.mem_cons_of_mem _ ha))
        rw [am_u_at, if_pos rfl, if_pos ((q_eq ha' he).mp (q.symm.trans y2)), z2]
      · rw [am_u_ne (by omega), am_u_at, if_pos rfl, z1]
        by_cases q : k = m
        · rw [if_pos q, if_pos q]; exact y2.symm
        · rw [if_neg q, if_neg q]
  · have hd' : d < 6480 := hlt d (List.mem_append_left _ z1)
    have d0 : ¬ d < 0 := by omega
    have d1 : ¬ 6480 ≤ d := by omega
    have nh : ∀ y, q_hd (I 53 m) y l1 = I 53 m := by
      intro y
      match l1, z1 with
      | a :: l, _ => rfl
    rcases q_ch_nx l1 b1 with ⟨y1, y2⟩ | ⟨e, l3, y1, y2⟩
    · simp +decide (disch := omega) only [xe56, x56_0, x56_1, x56_4, x56_5, x56_6, x56_7, x56_8, x56_11, x56_12, x56_13, x56_15, x56_16, x56_19, x56_20, x56_23, x56_26, x56_27, x56_30, x56_31, x56_33, x56_34, x56_37, x56_38, x56_41, x56_42, x56_44, x56_45, x56_47, x56_50, x56_52, x56_55, x56_58, x56_59, x56_62, x56_64, x56_65, x56_66, ↓reduceIte, true_and, and_true, if_true, if_false, ne_eq, not_false_eq_true, am_u_at, am_nb0, am_nb1, am_fb0, am_fb1, am_kc_i, am_kc_r, am_kc_l, am_kc_n, am_wsum_n, am_wsum_i, am_wsum_r, am_wsum_l, am_rs_s, am_rs_n, am_S1_1, am_S1_2, am_S1_3, am_S1_4, am_S1_5, am_S1_6, am_S1_7, am_S1_8, am_S1_9, am_S1_10, am_S1_11, am_S1_12, am_S1_13, am_S1_14, am_S1_15, am_S1_16, am_S1_17, am_S1_18, am_S1_19, am_S1_20, am_S1_21, am_S1_22, am_S1_23, am_S1_24, am_S1_25, am_S1_26, am_S1_27, am_S1_28, am_S1_29, am_S1_30, am_S1_31, am_S1_32, am_S1_33, am_S1_34, am_S1_35, am_S1_36, am_S1_37, am_S1_38, am_S1_39, am_S1_40, am_S1_41, am_S1_42, am_S1_43, am_S1_44, am_S1_45, am_S1_46, am_S1_47, am_S1_48, am_S1_49, am_S1_50, am_S1_51, am_S1_52, am_S1_53, am_S1_54, am_S1_55, am_S1_56, am_S1_57, am_S1_58, am_S1_59, am_S1_60, am_S1_61, am_S1_62, am_S1_63, am_S1_64, am_S1_65, am_S1_66, am_S1_67, am_S1_68, am_S1_69, am_S1_70, am_S1_71, am_S1_72, am_S1_73, am_S1_74, am_S1_75, am_S1_76, am_S1_77, am_PT_3_1, am_PT_3_2, am_PT_3_0, am_PT_3_3, am_PT_3_4, am_PT_3_5, am_PT_3_6, am_PT_3_7, am_PT_3_8, am_PT_3_9, am_PT_3_10, am_PT_4_0, am_PT_6_6, am_PT_6_7, am_PT_6_8, am_PT_6_9, am_PT_6_10, am_PT_6_11, am_PT_13_6, am_PT_13_7, am_PT_13_8, am_PT_13_9, am_PT_13_10, am_PT_13_11, am_PT_20_3, am_PT_22_0, am_PT_23_0, am_PT_23_1, am_PT_23_2, am_PT_23_3, am_PT_23_4, am_PT_23_5, am_PT_23_6, am_PT_23_7, am_PT_23_8, am_PT_23_9, am_PT_24_3, am_PT_26_3, am_PT_28_3, am_PT_30_3, am_PT_32_3, am_PT_34_3, am_PT_36_3, am_PT_38_3, am_PT_40_3, am_PT_42_3, am_PT_44_0, am_PT_44_1, am_PT_46_2, am_PT_46_3, am_PT_46_4, am_PT_46_5, am_PT_51_0, am_PT_51_1, am_PT_51_2, am_PT_51_3, am_PT_51_4, am_PT_59_3, am_PT_61_3, am_PT_63_1, am_PT_63_3, am_PT_63_6, am_PT_63_7, am_PT_63_9, am_PT_63_10, am_PT_63_12, am_PT_63_14, am_PT_63_16, am_PT_63_25, am_PT_63_27, am_PT_63_30, am_PT_63_36, am_PT_63_37, n_c0, n_c1, n_c2, n_c3, n_c4, n_c5, n_c6, n_c7, n_c8, n_c9, n_c10, n_c11, n_c12, n_c14, n_c16, n_c18, n_c20, n_c24, n_c30, n_c31, n_c32, n_c36, n_c48, n_c57, n_c60, n_c63, n_c70, n_c75, n_c97, n_c100, n_c101, n_c104, n_c115, n_c116, n_c59, n_c150, n_c199, n_c200, n_c201, n_c216, n_c255, n_c256, n_c999, n_c1296, n_c4095, n_c6480, n_c100000, n_c1000, n_c65536, n_le, n_lt0, n_lt, n_eq, n_cl, n_add, n_sub, n_mul, n_div, n_rem, n_mo, n_in, n_nb0, n_nb1, n_fb0, n_fb1, n_vb0, n_vb1, hx, hm, z2, y2, m9, d0, d1, hd']
      refine fin _ (fun c q1 q2 q3 => ?_) (fun a ha q => ?_) (fun a ha q => ?_) (fun a ha q => ?_) (fun a ha q => ?_) (fun k hk => ?_)
      · rw [am_u_ne q2]
      · rw [am_u_at, if_pos rfl, if_neg (fun w => q (by rw [z2, w]))]
      · have ha' := hlt a (List.mem_append_left _ ha)
        rw [am_u_at, if_pos rfl, if_pos ((q_eq ha' hd').mp (q.symm.trans z2))]; exact y2.symm
      · rw [am_u_ne (by omega)]
      · rw [y1] at ha; exact absurd ha (List.not_mem_nil)
      · rw [am_u_ne (by omega), nh]
        by_cases q : k = m
        · rw [if_pos q, q]
        · rw [if_neg q]
    · have he : e < 6480 := hlt e (by rw [y1]; exact List.mem_append_right _ (List.mem_cons_of_mem _ List.mem_cons_self))
      have e0 : ¬ e < 0 := by omega
      have e1 : ¬ 6480 ≤ e := by omega
      simp +decide (disch := omega) only [xe56, x56_0, x56_1, x56_4, x56_5, x56_6, x56_7, x56_8, x56_11, x56_12, x56_13, x56_15, x56_16, x56_19, x56_20, x56_23, x56_26, x56_27, x56_30, x56_31, x56_33, x56_34, x56_37, x56_38, x56_41, x56_42, x56_44, x56_45, x56_47, x56_50, x56_52, x56_55, x56_58, x56_59, x56_62, x56_64, x56_65, x56_66, ↓reduceIte, true_and, and_true, if_true, if_false, ne_eq, not_false_eq_true, am_u_at, am_nb0, am_nb1, am_fb0, am_fb1, am_kc_i, am_kc_r, am_kc_l, am_kc_n, am_wsum_n, am_wsum_i, am_wsum_r, am_wsum_l, am_rs_s, am_rs_n, am_S1_1, am_S1_2, am_S1_3, am_S1_4, am_S1_5, am_S1_6, am_S1_7, am_S1_8, am_S1_9, am_S1_10, am_S1_11, am_S1_12, am_S1_13, am_S1_14, am_S1_15, am_S1_16, am_S1_17, am_S1_18, am_S1_19, am_S1_20, am_S1_21, am_S1_22, am_S1_23, am_S1_24, am_S1_25, am_S1_26, am_S1_27, am_S1_28, am_S1_29, am_S1_30, am_S1_31, am_S1_32, am_S1_33, am_S1_34, am_S1_35, am_S1_36, am_S1_37, am_S1_38, am_S1_39, am_S1_40, am_S1_41, am_S1_42, am_S1_43, am_S1_44, am_S1_45, am_S1_46, am_S1_47, am_S1_48, am_S1_49, am_S1_50, am_S1_51, am_S1_52, am_S1_53, am_S1_54, am_S1_55, am_S1_56, am_S1_57, am_S1_58, am_S1_59, am_S1_60, am_S1_61, am_S1_62, am_S1_63, am_S1_64, am_S1_65, am_S1_66, am_S1_67, am_S1_68, am_S1_69, am_S1_70, am_S1_71, am_S1_72, am_S1_73, am_S1_74, am_S1_75, am_S1_76, am_S1_77, am_PT_3_1, am_PT_3_2, am_PT_3_0, am_PT_3_3, am_PT_3_4, am_PT_3_5, am_PT_3_6, am_PT_3_7, am_PT_3_8, am_PT_3_9, am_PT_3_10, am_PT_4_0, am_PT_6_6, am_PT_6_7, am_PT_6_8, am_PT_6_9, am_PT_6_10, am_PT_6_11, am_PT_13_6, am_PT_13_7, am_PT_13_8, am_PT_13_9, am_PT_13_10, am_PT_13_11, am_PT_20_3, am_PT_22_0, am_PT_23_0, am_PT_23_1, am_PT_23_2, am_PT_23_3, am_PT_23_4, am_PT_23_5, am_PT_23_6, am_PT_23_7, am_PT_23_8, am_PT_23_9, am_PT_24_3, am_PT_26_3, am_PT_28_3, am_PT_30_3, am_PT_32_3, am_PT_34_3, am_PT_36_3, am_PT_38_3, am_PT_40_3, am_PT_42_3, am_PT_44_0, am_PT_44_1, am_PT_46_2, am_PT_46_3, am_PT_46_4, am_PT_46_5, am_PT_51_0, am_PT_51_1, am_PT_51_2, am_PT_51_3, am_PT_51_4, am_PT_59_3, am_PT_61_3, am_PT_63_1, am_PT_63_3, am_PT_63_6, am_PT_63_7, am_PT_63_9, am_PT_63_10, am_PT_63_12, am_PT_63_14, am_PT_63_16, am_PT_63_25, am_PT_63_27, am_PT_63_30, am_PT_63_36, am_PT_63_37, n_c0, n_c1, n_c2, n_c3, n_c4, n_c5, n_c6, n_c7, n_c8, n_c9, n_c10, n_c11, n_c12, n_c14, n_c16, n_c18, n_c20, n_c24, n_c30, n_c31, n_c32, n_c36, n_c48, n_c57, n_c60, n_c63, n_c70, n_c75, n_c97, n_c100, n_c101, n_c104, n_c115, n_c116, n_c59, n_c150, n_c199, n_c200, n_c201, n_c216, n_c255, n_c256, n_c999, n_c1296, n_c4095, n_c6480, n_c100000, n_c1000, n_c65536, n_le, n_lt0, n_lt, n_eq, n_cl, n_add, n_sub, n_mul, n_div, n_rem, n_mo, n_in, n_nb0, n_nb1, n_fb0, n_fb1, n_vb0, n_vb1, hx, hm, z2, y2, m9, d0, d1, hd', e0, e1, he]
      refine fin _ (fun c q1 q2 q3 => ?_) (fun a ha q => ?_) (fun a ha q => ?_) (fun a ha q => ?_) (fun a ha q => ?_) (fun k hk => ?_)
      · rw [am_u_ne q3, am_u_ne q2]
      · rw [am_u_ne (by omega), am_u_at, if_pos rfl, if_neg (fun w => q (by rw [z2, w]))]
      · have ha' := hlt a (List.mem_append_left _ ha)
        rw [am_u_ne (by omega), am_u_at, if_pos rfl, if_pos ((q_eq ha' hd').mp (q.symm.trans z2))]; exact y2.symm
      · rw [am_u_at, if_pos rfl, if_neg (fun w => q (by rw [y2, w])), am_u_ne (by omega)]
      · have ha' := hlt a (List.mem_append_right _ (List.mem_cons_of_mem _ ha))
        rw [am_u_at, if_pos rfl, if_pos ((q_eq ha' he).mp (q.symm.trans y2)), z2]
      · rw [am_u_ne (by omega), am_u_ne (by omega), nh]
        by_cases q : k = m
        · rw [if_pos q, q]
        · rw [if_neg q]
end CH
