/-! The court and its reference, between calls. -/
section
theorem settled_ok {v : zV} {J : Nat → Nat → Int64} {I : Nat → Nat → Int32} : fX10_settled 75 (st I v J) = some (if I 75 8 = 0 then 1 else 0, st (up (up I 75 10 (I 75 8)) 75 11 (if I 75 8 = 0 then -1 else I 75 9)) v J) := by
  unfold fX10_settled fX10_settled_24
  have e1 : ∀ x y : Int32, up (up I 75 10 x) 75 11 y 75 8 = I 75 8 := fun x y => by rw [up_at, vup_n (by decide), up_at, vup_n (by decide)]
  have e2 : ∀ x : Int32, up I 75 10 x 75 8 = I 75 8 := fun x => by rw [up_at, vup_n (by decide)]
  have e3 : ∀ x : Int32, up I 75 10 x 75 9 = I 75 9 := fun x => by rw [up_at, vup_n (by decide)]
  simp only [bnd_x, gd_0, gd_1, gd_o0, gd_o1, ite_self, rf_75_1, rf_75_3, rf_75_12, rf_75_13, rf_75_14, rf_75_15, rf_75_16, rf_75_17, rf_75_18, rf_75_22, rf_75_23, rf_75_24, rf_75_25, rf_75_31, rf_75_32, rf_75_41, rf_75_42, rf_75_43, rf_75_44, rf_75_45, rf_75_46, rf_75_47, rf_75_48, rf_75_53, rf_75_54, rf_75_55, rf_75_57, c_75, i_75, w_75, z0_75, z1_75, e1, e2, e3]
  by_cases c : I 75 8 = 0
  · rw [if_pos c, if_pos c, if_pos c, if_pos c]
  · rw [if_neg c, if_neg c, if_neg c, if_neg c]
/-- rows are copied -/
theorem bp_loop {v : zV} {J : Nat → Nat → Int64} {n : Nat} (hn : n ≤ 300) (d : Nat → Bool) : ∀ (k i m : Nat) (I : Nat → Nat → Int32), 1 ≤ i → i + k = n + 1 → k < m → I 75 26 = nI n → (∀ q, 1 ≤ q → q ≤ n → I 88 q = b2 (d q)) →
    ∃ I1, fX10_becomesProof_10 m 75 (nI i) (st I v J) = fX10_becomesProof_62 zfu 75 0 (st I1 v J) ∧ (∀ q, i ≤ q → q ≤ n → I1 81 q = I 85 q ∧ I1 82 q = I 86 q ∧ I1 84 q = I 88 q) ∧ (∀ q, q < i → I1 81 q = I 81 q ∧ I1 82 q = I 82 q ∧ I1 84 q = I 84 q) ∧ (∀ a, a ≠ 81 → a ≠ 82 → a ≠ 84 → I1 a = I a) := by
  intro k
  induction k with
  | zero =>
    intro i m I i1 hi hm h26 h88
    obtain ⟨m, rfl⟩ : ∃ q, m = q + 1 := ⟨m - 1, by omega⟩
    refine ⟨I, ?_, fun q q1 q2 => by omega, fun _ _ => ⟨rfl, rfl, rfl⟩, fun _ _ _ _ => rfl⟩
    conv => lhs; unfold fX10_becomesProof_10
    simp only [bnd_x, gd_0, gd_1, gd_o0, gd_o1, ite_self, rf_75_1, rf_75_3, rf_75_12, rf_75_13, rf_75_14, rf_75_15, rf_75_16, rf_75_17, rf_75_18, rf_75_22, rf_75_23, rf_75_24, rf_75_25, rf_75_31, rf_75_32, rf_75_41, rf_75_42, rf_75_43, rf_75_44, rf_75_45, rf_75_46, rf_75_47, rf_75_48, rf_75_53, rf_75_54, rf_75_55, rf_75_57, c_75, i_75, w_75, z0_75, z1_75, h26, if_pos (nI_lt (show n < i by omega) (show i < 2 ^ 31 by omega))]
  | succ k ih =>
    intro i m I i1 hi hm h26 h88
    obtain ⟨m, rfl⟩ : ∃ q, m = q + 1 := ⟨m - 1, by omega⟩
    have hb : I 88 i = 0 ∨ I 88 i = 1 := by rw [h88 i i1 (by omega)]; exact b2_01 _
    obtain ⟨I1, f1, f2, f3, f4⟩ := ih (i + 1) m (up (up (up I 81 i (I 85 i)) 82 i (I 86 i)) 84 i (I 88 i)) (by omega) (by omega) (by omega) (by rw [up_ne (by decide), up_ne (by decide), up_ne (by decide)]; exact h26) (by rw [up_ne (by decide), up_ne (by decide), up_ne (by decide)]; exact h88)
    refine ⟨I1, ?_, ?_, ?_, fun a a1 a2 a3 => by rw [f4 a a1 a2 a3, up_ne a3, up_ne a2, up_ne a1]⟩
    · conv => lhs; unfold fX10_becomesProof_10
      simp only [bnd_x, gd_0, gd_1, gd_o0, gd_o1, ite_self, rf_75_1, rf_75_3, rf_75_12, rf_75_13, rf_75_14, rf_75_15, rf_75_16, rf_75_17, rf_75_18, rf_75_22, rf_75_23, rf_75_24, rf_75_25, rf_75_31, rf_75_32, rf_75_41, rf_75_42, rf_75_43, rf_75_44, rf_75_45, rf_75_46, rf_75_47, rf_75_48, rf_75_53, rf_75_54, rf_75_55, rf_75_57, c_75, i_75, w_75, z0_75, z1_75, h26, if_neg (nI_nlt (show i ≤ n by omega) (show n < 2 ^ 31 by omega)), qa_85 (show i < 301 by omega), ua_81 (show i < 301 by omega), qa_86 (show i < 301 by omega), up_ne (show (86 : Nat) ≠ 81 by decide), ua_82 (show i < 301 by omega), qa_88 (show i < 301 by omega), up_ne (show (88 : Nat) ≠ 82 by decide), up_ne (show (88 : Nat) ≠ 81 by decide), uz_84 (show i < 301 by omega) hb, nI_1]
      exact f1
    · intro q q1 q2
      by_cases c : q = i
      · subst c
        obtain ⟨g1, g2, g3⟩ := f3 q (by omega)
        rw [g1, g2, g3, up_ne (by decide), up_ne (by decide), up_self, up_ne (show (82 : Nat) ≠ 84 by decide), up_self, up_self]
        exact ⟨rfl, rfl, rfl⟩
      · obtain ⟨g1, g2, g3⟩ := f2 q (by omega) q2
        rw [g1, g2, g3, up_ne (show (85 : Nat) ≠ 84 by decide), up_ne (show (85 : Nat) ≠ 82 by decide), up_ne (show (85 : Nat) ≠ 81 by decide), up_ne (show (86 : Nat) ≠ 84 by decide), up_ne (show (86 : Nat) ≠ 82 by decide), up_ne (show (86 : Nat) ≠ 81 by decide), up_ne (show (88 : Nat) ≠ 84 by decide), up_ne (show (88 : Nat) ≠ 82 by decide), up_ne (show (88 : Nat) ≠ 81 by decide)]
        exact ⟨rfl, rfl, rfl⟩
    · intro q hq
      obtain ⟨g1, g2, g3⟩ := f3 q (by omega)
      rw [g1, g2, g3, up_ne (show (81 : Nat) ≠ 84 by decide), up_ne (show (81 : Nat) ≠ 82 by decide), up_at, vup_n (by omega), up_ne (show (82 : Nat) ≠ 84 by decide), up_at, vup_n (by omega), up_ne (show (82 : Nat) ≠ 81 by decide), up_at, vup_n (by omega), up_ne (show (84 : Nat) ≠ 82 by decide), up_ne (show (84 : Nat) ≠ 81 by decide)]
      exact ⟨rfl, rfl, rfl⟩
theorem bp62_loop {v : zV} {J : Nat → Nat → Int64} {g : Nat} (hg : g ≤ 2000) : ∀ (k p m : Nat) (I : Nat → Nat → Int32), p + k = g → k < m → I 75 27 = nI g →
    ∃ I1, fX10_becomesProof_62 m 75 (nI p) (st I v J) = (bnd (fX10_number0 75 (st (up I1 75 34 0) v J)) fun q => some q) ∧ (∀ q, p ≤ q → q < g → I1 83 q = I 87 q) ∧ (∀ q, q < p → I1 83 q = I 83 q) ∧ (∀ a, a ≠ 83 → I1 a = I a) := by
  intro k
  induction k with
  | zero =>
    intro p m I hp hm h27
    obtain ⟨m, rfl⟩ : ∃ q, m = q + 1 := ⟨m - 1, by omega⟩
    refine ⟨I, ?_, fun q q1 q2 => by omega, fun _ _ => rfl, fun _ _ => rfl⟩
    conv => lhs; unfold fX10_becomesProof_62
    simp only [bnd_x, gd_0, gd_1, gd_o0, gd_o1, ite_self, rf_75_1, rf_75_3, rf_75_12, rf_75_13, rf_75_14, rf_75_15, rf_75_16, rf_75_17, rf_75_18, rf_75_22, rf_75_23, rf_75_24, rf_75_25, rf_75_31, rf_75_32, rf_75_41, rf_75_42, rf_75_43, rf_75_44, rf_75_45, rf_75_46, rf_75_47, rf_75_48, rf_75_53, rf_75_54, rf_75_55, rf_75_57, c_75, i_75, w_75, z0_75, z1_75, h27, if_pos (nI_le (show g ≤ p by omega) (show p < 2 ^ 31 by omega))]
  | succ k ih =>
    intro p m I hp hm h27
    obtain ⟨m, rfl⟩ : ∃ q, m = q + 1 := ⟨m - 1, by omega⟩
    obtain ⟨I1, f1, f2, f3, f4⟩ := ih (p + 1) m (up I 83 p (I 87 p)) (by omega) (by omega) (by rw [up_ne (by decide)]; exact h27)
    refine ⟨I1, ?_, ?_, ?_, fun a ha => by rw [f4 a ha, up_ne ha]⟩
    · conv => lhs; unfold fX10_becomesProof_62
      simp only [bnd_x, gd_0, gd_1, gd_o0, gd_o1, ite_self, rf_75_1, rf_75_3, rf_75_12, rf_75_13, rf_75_14, rf_75_15, rf_75_16, rf_75_17, rf_75_18, rf_75_22, rf_75_23, rf_75_24, rf_75_25, rf_75_31, rf_75_32, rf_75_41, rf_75_42, rf_75_43, rf_75_44, rf_75_45, rf_75_46, rf_75_47, rf_75_48, rf_75_53, rf_75_54, rf_75_55, rf_75_57, c_75, i_75, w_75, z0_75, z1_75, h27, if_neg (nI_ge (show p < g by omega) (show g < 2 ^ 31 by omega)), qa_87 (show p < 2000 by omega), ua_83 (show p < 2000 by omega), nI_1]
      exact f1
    · intro q q1 q2
      by_cases c : q = p
      · subst c; rw [f3 q (by omega), up_self]
      · rw [f2 q (by omega) q2, up_ne (by decide)]
    · intro q hq
      rw [f3 q (by omega), up_at, vup_n (by omega)]
theorem becomes_m {v : zV} {J : Nat → Nat → Int64} {I0 I : Nat → Nat → Int32} {f n : Nat} {e : Nat → Nat} {w : Nat → Int32} {d : Nat → Bool} (h : RCl I0 I f n e w d) :
    ∃ M, fX10_becomesProof 75 (st I v J) = (bnd (fX10_number0 75 (st M v J)) fun q => some q) ∧ SHR M 81 82 83 n e w ∧ M 75 20 = nI n ∧ (∀ q, 1 ≤ q → q ≤ n → M 84 q = b2 (d q)) ∧ M 75 34 = 0 ∧ (∀ j, j ≠ 20 → j ≠ 34 → M 75 j = I 75 j) ∧ (∀ a, a ≠ 75 → a ≠ 81 → a ≠ 82 → a ≠ 83 → a ≠ 84 → M a = I a) := by
  have hz := zfu_big
  obtain ⟨h1, h2, ⟨r1, r2⟩, h26, h27, h88⟩ := h
  have hn := h1.1
  have hg := h1.2.2.1
  obtain ⟨Ia, a1, a2, a3, a4⟩ := bp_loop (v := v) (J := J) hn d n 1 zfu (up I 75 20 (nI n)) (by omega) (by omega) (by omega) (by rw [up_at, vup_n (by decide)]; exact h26) (by rw [up_ne (by decide)]; exact h88)
  obtain ⟨Ib, b1, b2, b3, b4⟩ := bp62_loop (v := v) (J := J) hg (e n) 0 zfu Ia (by omega) (by omega) (by rw [a4 75 (by decide) (by decide) (by decide), up_at, vup_n (by decide)]; exact h27)
  rw [show nI 1 = (1 : Int32) from rfl] at a1
  rw [nI_0] at b1
  refine ⟨up Ib 75 34 0, ?_, ⟨?_, ?_⟩, ?_, ?_, up_self .., ?_, ?_⟩
  · unfold fX10_becomesProof
    simp only [bnd_x, gd_0, gd_1, gd_o0, gd_o1, ite_self, rf_75_1, rf_75_3, rf_75_12, rf_75_13, rf_75_14, rf_75_15, rf_75_16, rf_75_17, rf_75_18, rf_75_22, rf_75_23, rf_75_24, rf_75_25, rf_75_31, rf_75_32, rf_75_41, rf_75_42, rf_75_43, rf_75_44, rf_75_45, rf_75_46, rf_75_47, rf_75_48, rf_75_53, rf_75_54, rf_75_55, rf_75_57, c_75, i_75, w_75, z0_75, z1_75, h26, a1, b1]
  · intro i i1 i2
    obtain ⟨g1, g2, g3⟩ := a2 i i1 i2
    rw [up_ne (by decide), up_ne (by decide), b4 81 (by decide), b4 82 (by decide), g1, g2, up_ne (by decide), up_ne (by decide)]
    exact r1 i i1 i2
  · intro p hp
    rw [up_ne (by decide), b2 p (by omega) hp, a4 87 (by decide) (by decide) (by decide), up_ne (by decide)]
    exact r2 p hp
  · rw [up_at, vup_n (by decide), b4 75 (by decide), a4 75 (by decide) (by decide) (by decide), up_self]
  · intro q q1 q2
    rw [up_ne (by decide), b4 84 (by decide), (a2 q q1 q2).2.2, up_ne (by decide)]
    exact h88 q q1 q2
  · intro j j1 j2
    rw [up_at, vup_n j2, b4 75 (by decide), a4 75 (by decide) (by decide) (by decide), up_at, vup_n j1]
  · intro a x1 x2 x3 x4 x5
    rw [up_ne x1, b4 a x4, a4 a x2 x3 x5, up_ne x1]
theorem f191_loop {v : zV} {J : Nat → Nat → Int64} {n : Nat} (hn : n ≤ 300) : ∀ (k i m : Nat) (I : Nat → Nat → Int32), 1 ≤ i → i + k = n + 1 → k < m → I 75 26 = nI n →
    ∃ I1, fX10_formula_191 m 75 (nI i) (st I v J) = fX10_formula_237 zfu 75 0 (st I1 v J) ∧ (∀ q, i ≤ q → q ≤ n → I1 78 q = I 85 q ∧ I1 79 q = I 86 q) ∧ (∀ q, q < i → I1 78 q = I 78 q ∧ I1 79 q = I 79 q) ∧ (∀ a, a ≠ 78 → a ≠ 79 → I1 a = I a) := by
  intro k
  induction k with
  | zero =>
    intro i m I i1 hi hm h26
    obtain ⟨m, rfl⟩ : ∃ q, m = q + 1 := ⟨m - 1, by omega⟩
    refine ⟨I, ?_, fun q q1 q2 => by omega, fun _ _ => ⟨rfl, rfl⟩, fun _ _ _ => rfl⟩
    conv => lhs; unfold fX10_formula_191
    simp only [bnd_x, gd_0, gd_1, gd_o0, gd_o1, ite_self, rf_75_1, rf_75_3, rf_75_12, rf_75_13, rf_75_14, rf_75_15, rf_75_16, rf_75_17, rf_75_18, rf_75_22, rf_75_23, rf_75_24, rf_75_25, rf_75_31, rf_75_32, rf_75_41, rf_75_42, rf_75_43, rf_75_44, rf_75_45, rf_75_46, rf_75_47, rf_75_48, rf_75_53, rf_75_54, rf_75_55, rf_75_57, c_75, i_75, w_75, z0_75, z1_75, h26, if_pos (nI_lt (show n < i by omega) (show i < 2 ^ 31 by omega))]
  | succ k ih =>
    intro i m I i1 hi hm h26
    obtain ⟨m, rfl⟩ : ∃ q, m = q + 1 := ⟨m - 1, by omega⟩
    obtain ⟨I1, f1, f2, f3, f4⟩ := ih (i + 1) m (up (up I 78 i (I 85 i)) 79 i (I 86 i)) (by omega) (by omega) (by omega) (by rw [up_ne (by decide), up_ne (by decide)]; exact h26)
    refine ⟨I1, ?_, ?_, ?_, fun a a1 a2 => by rw [f4 a a1 a2, up_ne a2, up_ne a1]⟩
    · conv => lhs; unfold fX10_formula_191
      simp only [bnd_x, gd_0, gd_1, gd_o0, gd_o1, ite_self, rf_75_1, rf_75_3, rf_75_12, rf_75_13, rf_75_14, rf_75_15, rf_75_16, rf_75_17, rf_75_18, rf_75_22, rf_75_23, rf_75_24, rf_75_25, rf_75_31, rf_75_32, rf_75_41, rf_75_42, rf_75_43, rf_75_44, rf_75_45, rf_75_46, rf_75_47, rf_75_48, rf_75_53, rf_75_54, rf_75_55, rf_75_57, c_75, i_75, w_75, z0_75, z1_75, h26, if_neg (nI_nlt (show i ≤ n by omega) (show n < 2 ^ 31 by omega)), qa_85 (show i < 301 by omega), ua_78 (show i < 301 by omega), qa_86 (show i < 301 by omega), up_ne (show (86 : Nat) ≠ 78 by decide), ua_79 (show i < 301 by omega), nI_1]
      exact f1
    · intro q q1 q2
      by_cases c : q = i
      · subst c
        obtain ⟨g1, g2⟩ := f3 q (by omega)
        rw [g1, g2, up_ne (by decide), up_self, up_self]
        exact ⟨rfl, rfl⟩
      · obtain ⟨g1, g2⟩ := f2 q (by omega) q2
        rw [g1, g2, up_ne (show (85 : Nat) ≠ 79 by decide), up_ne (show (85 : Nat) ≠ 78 by decide), up_ne (show (86 : Nat) ≠ 79 by decide), up_ne (show (86 : Nat) ≠ 78 by decide)]
        exact ⟨rfl, rfl⟩
    · intro q hq
      obtain ⟨g1, g2⟩ := f3 q (by omega)
      rw [g1, g2, up_ne (show (78 : Nat) ≠ 79 by decide), up_at, vup_n (by omega), up_at, vup_n (by omega), up_ne (show (79 : Nat) ≠ 78 by decide)]
      exact ⟨rfl, rfl⟩
theorem f237_loop {v : zV} {J : Nat → Nat → Int64} {g : Nat} (hg : g ≤ 2000) : ∀ (k p m : Nat) (I : Nat → Nat → Int32), p + k = g → k < m → I 75 27 = nI g →
    ∃ I1, fX10_formula_237 m 75 (nI p) (st I v J) = (bnd (fX10_number0 75 (st (up (up I1 75 20 0) 75 34 0) v J)) fun q => fX10_formula_280 75 q) ∧ (∀ q, p ≤ q → q < g → I1 80 q = I 87 q) ∧ (∀ q, q < p → I1 80 q = I 80 q) ∧ (∀ a, a ≠ 80 → I1 a = I a) := by
  intro k
  induction k with
  | zero =>
    intro p m I hp hm h27
    obtain ⟨m, rfl⟩ : ∃ q, m = q + 1 := ⟨m - 1, by omega⟩
    refine ⟨I, ?_, fun q q1 q2 => by omega, fun _ _ => rfl, fun _ _ => rfl⟩
    conv => lhs; unfold fX10_formula_237
    simp only [bnd_x, gd_0, gd_1, gd_o0, gd_o1, ite_self, rf_75_1, rf_75_3, rf_75_12, rf_75_13, rf_75_14, rf_75_15, rf_75_16, rf_75_17, rf_75_18, rf_75_22, rf_75_23, rf_75_24, rf_75_25, rf_75_31, rf_75_32, rf_75_41, rf_75_42, rf_75_43, rf_75_44, rf_75_45, rf_75_46, rf_75_47, rf_75_48, rf_75_53, rf_75_54, rf_75_55, rf_75_57, c_75, i_75, w_75, z0_75, z1_75, h27, if_pos (nI_le (show g ≤ p by omega) (show p < 2 ^ 31 by omega))]
  | succ k ih =>
    intro p m I hp hm h27
    obtain ⟨m, rfl⟩ : ∃ q, m = q + 1 := ⟨m - 1, by omega⟩
    obtain ⟨I1, f1, f2, f3, f4⟩ := ih (p + 1) m (up I 80 p (I 87 p)) (by omega) (by omega) (by rw [up_ne (by decide)]; exact h27)
    refine ⟨I1, ?_, ?_, ?_, fun a ha => by rw [f4 a ha, up_ne ha]⟩
    · conv => lhs; unfold fX10_formula_237
      simp only [bnd_x, gd_0, gd_1, gd_o0, gd_o1, ite_self, rf_75_1, rf_75_3, rf_75_12, rf_75_13, rf_75_14, rf_75_15, rf_75_16, rf_75_17, rf_75_18, rf_75_22, rf_75_23, rf_75_24, rf_75_25, rf_75_31, rf_75_32, rf_75_41, rf_75_42, rf_75_43, rf_75_44, rf_75_45, rf_75_46, rf_75_47, rf_75_48, rf_75_53, rf_75_54, rf_75_55, rf_75_57, c_75, i_75, w_75, z0_75, z1_75, h27, if_neg (nI_ge (show p < g by omega) (show g < 2 ^ 31 by omega)), qa_87 (show p < 2000 by omega), ua_80 (show p < 2000 by omega), nI_1]
      exact f1
    · intro q q1 q2
      by_cases c : q = p
      · subst c; rw [f3 q (by omega), up_self]
      · rw [f2 q (by omega) q2, up_ne (by decide)]
    · intro q hq
      rw [f3 q (by omega), up_at, vup_n (by omega)]
theorem formula_m {v : zV} {J : Nat → Nat → Int64} {I0 I : Nat → Nat → Int32} {f n : Nat} {e : Nat → Nat} {w : Nat → Int32} {d : Nat → Bool} (h : RCl I0 I f n e w d) (h8 : I 75 8 = 0) (va : Int32) :
    ∃ M, fX10_formula_168 75 va (st I v J) = (bnd (fX10_number0 75 (st M v J)) fun q => fX10_formula_280 75 q) ∧ SHR M 78 79 80 n e w ∧ M 75 19 = nI n ∧ M 75 20 = 0 ∧ M 75 21 = va ∧ M 75 34 = 0 ∧ M 75 10 = 0 ∧ M 75 11 = -1 ∧ (∀ j, j ∉ [10, 11, 19, 20, 21, 34] → M 75 j = I 75 j) ∧ (∀ a, a ≠ 75 → a ≠ 78 → a ≠ 79 → a ≠ 80 → M a = I a) := by
  have hz := zfu_big
  obtain ⟨h1, h2, ⟨r1, r2⟩, h26, h27, h88⟩ := h
  have hn := h1.1
  have hg := h1.2.2.1
  generalize hX : up (up (up (up I 75 10 0) 75 11 (-1)) 75 21 va) 75 19 (nI n) = X
  have Xne : ∀ a, a ≠ 75 → X a = I a := fun a ha => by rw [← hX, up_ne ha, up_ne ha, up_ne ha, up_ne ha]
  have X75 : ∀ j, j ≠ 10 → j ≠ 11 → j ≠ 19 → j ≠ 21 → X 75 j = I 75 j := fun j a b c d => by rw [← hX, up_at, vup_n c, up_at, vup_n d, up_at, vup_n b, up_at, vup_n a]
  have X19 : X 75 19 = nI n := by rw [← hX, up_self]
  have X21 : X 75 21 = va := by rw [← hX, up_at, vup_n (by decide), up_self]
  have X11 : X 75 11 = -1 := by rw [← hX, up_at, vup_n (by decide), up_at, vup_n (by decide), up_self]
  have X10 : X 75 10 = 0 := by rw [← hX, up_at, vup_n (by decide), up_at, vup_n (by decide), up_at, vup_n (by decide), up_self]
  obtain ⟨Ia, a1, a2, a3, a4⟩ := f191_loop (v := v) (J := J) hn n 1 zfu X (by omega) (by omega) (by omega) (by rw [X75 26 (by decide) (by decide) (by decide) (by decide)]; exact h26)
  obtain ⟨Ib, b1, b2, b3, b4⟩ := f237_loop (v := v) (J := J) hg (e n) 0 zfu Ia (by omega) (by omega) (by rw [a4 75 (by decide) (by decide), X75 27 (by decide) (by decide) (by decide) (by decide)]; exact h27)
  rw [show nI 1 = (1 : Int32) from rfl] at a1
  rw [nI_0] at b1
  have e75 : ∀ j, j ≠ 20 → j ≠ 34 → up (up Ib 75 20 0) 75 34 0 75 j = X 75 j := fun j j1 j2 => by rw [up_at, vup_n j2, up_at, vup_n j1, b4 75 (by decide), a4 75 (by decide) (by decide)]
  refine ⟨up (up Ib 75 20 0) 75 34 0, ?_, ⟨?_, ?_⟩, ?_, ?_, ?_, up_self .., ?_, ?_, ?_, ?_⟩
  · have e26 : up (up (up I 75 10 0) 75 11 (-1)) 75 21 va 75 26 = nI n := by rw [up_at, vup_n (by decide), up_at, vup_n (by decide), up_at, vup_n (by decide)]; exact h26
    unfold fX10_formula_168
    simp only [bnd_x, gd_0, gd_1, gd_o0, gd_o1, ite_self, rf_75_1, rf_75_3, rf_75_12, rf_75_13, rf_75_14, rf_75_15, rf_75_16, rf_75_17, rf_75_18, rf_75_22, rf_75_23, rf_75_24, rf_75_25, rf_75_31, rf_75_32, rf_75_41, rf_75_42, rf_75_43, rf_75_44, rf_75_45, rf_75_46, rf_75_47, rf_75_48, rf_75_53, rf_75_54, rf_75_55, rf_75_57, c_75, i_75, w_75, z0_75, z1_75, settled_ok, h8, if_pos, if_neg (show ¬ (1 : Int32) = 0 by decide), e26, hX, a1, b1]
  · intro i i1 i2
    obtain ⟨g1, g2⟩ := a2 i i1 i2
    rw [up_ne (by decide), up_ne (by decide), up_ne (by decide), up_ne (by decide), b4 78 (by decide), b4 79 (by decide), g1, g2, Xne 85 (by decide), Xne 86 (by decide)]
    exact r1 i i1 i2
  · intro p hp
    rw [up_ne (by decide), up_ne (by decide), b2 p (by omega) hp, a4 87 (by decide) (by decide), Xne 87 (by decide)]
    exact r2 p hp
  · rw [e75 19 (by decide) (by decide)]; exact X19
  · rw [up_at, vup_n (by decide), up_self]
  · rw [e75 21 (by decide) (by decide)]; exact X21
  · rw [e75 10 (by decide) (by decide)]; exact X10
  · rw [e75 11 (by decide) (by decide)]; exact X11
  · intro j hj
    have k : ∀ q, q ∈ [10, 11, 19, 20, 21, 34] → j ≠ q := fun q hq e => hj (e ▸ hq)
    rw [e75 j (k 20 (by decide)) (k 34 (by decide))]
    exact X75 j (k 10 (by decide)) (k 11 (by decide)) (k 19 (by decide)) (k 21 (by decide))
  · intro a x1 x2 x3 x4
    rw [up_ne x1, up_ne x1, b4 a x4, a4 a x2 x3, Xne a x1]
/-! the relation -/
def WS (I I' : Nat → Nat → Int32) (f N : Nat) (sz : Nat → Nat) (lt : Nat → Nat → Int32) (np : Nat) : Prop := (I' 75 34 = 1 ∧ WF I I' f N sz lt np) ∨ (I' 75 34 = 0 ∧ NW I)
def TP (I I' : Nat → Nat → Int32) : Prop := ∃ tw, tw ≤ 6000 ∧ I 2 1 = nI tw ∧ I' 75 2 = nI tw ∧ ∀ p, p < tw → I 3 p &&& 255 = I' 76 p
def SW (I I' : Nat → Nat → Int32) : Prop := ∃ sw, sw < 2 ^ 30 ∧ I 4 1 = nI sw ∧ I' 75 58 = nI sw ∧ ∀ p, p < sw → p < 6000 → I 5 p &&& 255 = I' 102 p
def VP (v : zV) : Prop := isSh v.1 = true ∧ isSh v.2.1 = true ∧ isSh v.2.2.1 = true ∧ v.1 ≠ v.2.1 ∧ v.1 ≠ v.2.2.1 ∧ v.2.1 ≠ v.2.2.1 ∧ v.2.2.2.2.2.2 = v.2.1
def FSh (I I' : Nat → Nat → Int32) (f nf : Nat) (ef : Nat → Nat) (wf : Nat → Int32) (df : Nat → Bool) : Prop := OKS nf ef wf ∧ SHC I f nf ef wf df ∧ SHR I' 78 79 80 nf ef wf ∧ I' 75 19 = nI nf ∧ I' 75 21 = I f 5
def PSh (I I' : Nat → Nat → Int32) (f np : Nat) (ep : Nat → Nat) (wp : Nat → Int32) (dp : Nat → Bool) : Prop := OKS np ep wp ∧ SHC I f np ep wp dp ∧ SHR I' 81 82 83 np ep wp ∧ I' 75 20 = nI np ∧ ∀ q, 1 ≤ q → q ≤ np → I' 84 q = b2 (dp q)
def DBS (I I' : Nat → Nat → Int32) (f N : Nat) (sz : Nat → Nat) (lt : Nat → Nat → Int32) (np nf : Nat) : Prop := S0 I I' f N sz lt np ∧ nf ≤ N ∧ I 29 8 = nI nf ∧ I 33 0 = 0 ∧ WS I I' f N sz lt np ∧ (I 42 8 = -1 ∨ ∃ c, c ≤ np ∧ I 42 8 = nI c)
def GR (I I' : Nat → Nat → Int32) (v : zV) : Prop :=
  ∃ nf ef wf df np ep wp dp N sz lt, VP v ∧ I (v.2.2.1 + 4) 0 = 0 ∧ FSh I I' v.1 nf ef wf df ∧ PSh I I' v.2.1 np ep wp dp ∧ DBS I I' v.2.1 N sz lt np nf ∧ TP I I' ∧ SW I I' ∧ (I' 75 10 = I 1 8 ∧ I' 75 11 = I 1 9)
/-- what the clauses and the weighing stand on -/
def CFr (I X : Nat → Nat → Int32) (f : Nat) : Prop := (∀ a, 28 < a → a < 75 → X a = I a) ∧ (∀ a, f ≤ a → a ≤ f + 6 → X a = I a)
def MFr (I Y : Nat → Nat → Int32) : Prop := (∀ a, 78 ≤ a → a ≤ 101 → ¬ (85 ≤ a ∧ a ≤ 88) → Y a = I a) ∧ (∀ j, (19 ≤ j ∧ j ≤ 21) ∨ (31 ≤ j ∧ j ≤ 56) → Y 75 j = I 75 j)
variable {N : Nat} {sz : Nat → Nat} {lt : Nat → Nat → Int32}
theorem STAT_G {I I' X Y : Nat → Nat → Int32} {f ns : Nat} (h : STAT I I' f N sz lt ns) (a : CFr I X f) (b : MFr I' Y) : STAT X Y f N sz lt ns := by
  obtain ⟨h1, h2, h3, h4, h5, h6⟩ := h
  have hf : f ≤ 20 := by rcases isSh_i h1 with q | q | q <;> omega
  have m : ∀ q, 78 ≤ q → q ≤ 101 → ¬ (85 ≤ q ∧ q ≤ 88) → Y q = I' q := b.1
  refine ⟨h1, DBE_fr h2 (a.1 33 (by omega) (by omega)) (a.1 31 (by omega) (by omega)), h3, by rw [a.2 f (by omega) (by omega)]; exact h4, by rw [b.2 20 (by omega)]; exact h5, fun i i1 i2 => ?_⟩
  obtain ⟨s, g, bb, u, p1, p2, p3, p4, p5, p6, p7, p8, p9, p10, p11⟩ := h6 i i1 i2
  have r1 : ∀ x, rd X (f + 3) x = rd I (f + 3) x := rd_fr (a.2 _ (by omega) (by omega))
  have r2 : ∀ x, rd X (f + 1) x = rd I (f + 1) x := rd_fr (a.2 _ (by omega) (by omega))
  have r3 : ∀ x, rd X (f + 5) x = rd I (f + 5) x := rd_fr (a.2 _ (by omega) (by omega))
  have e1 : ∀ x, shSize X f x = shSize I f x := fun x => by unfold shSize; rw [r1, r1]
  have e2 : ∀ x y, shLit X f x y = shLit I f x y := fun x y => by unfold shLit; rw [e1, r1, r2]
  refine ⟨s, g, bb, u, p1, by rw [e1]; exact p2, fun j hj => by rw [e2]; exact p3 j hj, by rw [m 82 (by omega) (by omega) (by omega)]; exact p4, ?_, by rw [r3]; exact p6, by rw [m 84 (by omega) (by omega) (by omega)]; exact p7, by rw [a.1 35 (by omega) (by omega)]; exact p8, by rw [m 90 (by omega) (by omega) (by omega)]; exact p9, p10, p11⟩
  rw [m 81 (by omega) (by omega) (by omega), m 83 (by omega) (by omega) (by omega)]; exact p5
theorem DBR_G {I' Y : Nat → Nat → Int32} (h : DBR I' N sz lt) (b : MFr I' Y) : DBR Y N sz lt := by
  have m : ∀ q, 78 ≤ q → q ≤ 101 → ¬ (85 ≤ q ∧ q ≤ 88) → Y q = I' q := b.1
  exact DBR_fr h (b.2 33 (by omega)) (b.2 19 (by omega)) (m _ (by omega) (by omega) (by omega)) (m _ (by omega) (by omega) (by omega)) (m _ (by omega) (by omega) (by omega)) (m _ (by omega) (by omega) (by omega)) (m _ (by omega) (by omega) (by omega)) (m _ (by omega) (by omega) (by omega)) (m _ (by omega) (by omega) (by omega))
theorem S0_G {I I' X Y : Nat → Nat → Int32} {f ns : Nat} (h : S0 I I' f N sz lt ns) (a : CFr I X f) (b : MFr I' Y) : S0 X Y f N sz lt ns := by
  obtain ⟨h1, h2, h3, h4, h5, h6⟩ := h
  have c : ∀ q, 28 < q → q < 75 → X q = I q := a.1
  exact ⟨h1, DBC_fr h2 (c _ (by omega) (by omega)) (c _ (by omega) (by omega)) (c _ (by omega) (by omega)), USC_fr h3 (c _ (by omega) (by omega)) (c _ (by omega) (by omega)) (c _ (by omega) (by omega)), DBR_G h4 b, STAT_G h5 a b, by rw [b.2 19 (by omega), c 29 (by omega) (by omega)]; exact h6⟩
theorem WS_G {I I' X Y : Nat → Nat → Int32} {f ns : Nat} (h : WS I I' f N sz lt ns) (a : CFr I X f) (b : MFr I' Y) : WS X Y f N sz lt ns := by
  have c : ∀ q, 28 < q → q < 75 → X q = I q := a.1
  have m : ∀ q, 78 ≤ q → q ≤ 101 → ¬ (85 ≤ q ∧ q ≤ 88) → Y q = I' q := b.1
  rcases h with ⟨h1, ⟨⟨k1, k2, k3, k4, k5, k6⟩, h3, h4⟩⟩ | ⟨h1, h2⟩
  · refine Or.inl ⟨by rw [b.2 34 (by omega)]; exact h1, ⟨⟨?_, STAT_G k2 a b, ?_, ?_, ?_, ?_⟩, ?_, ?_⟩⟩
    · apply RJ_fr k1
      · intro q hq
        simp only [List.mem_cons, List.not_mem_nil, or_false] at hq
        exact c q (by omega) (by omega)
      · intro j _; rw [c 52 (by omega) (by omega)]
      · intro q hq
        simp only [List.mem_cons, List.not_mem_nil, or_false] at hq
        exact m q (by omega) (by omega) (by omega)
      · intro j hj
        simp only [List.mem_cons, List.not_mem_nil, or_false] at hj
        exact b.2 j (by omega)
      · exact HR_fr k1.2.2.2.2.2.2.2.2 (by rw [c 43 (by omega) (by omega)]) (c _ (by omega) (by omega)) (c _ (by omega) (by omega)) (c _ (by omega) (by omega)) (b.2 56 (by omega)) (m _ (by omega) (by omega) (by omega)) (m _ (by omega) (by omega) (by omega)) (m _ (by omega) (by omega) (by omega))
    · intro i i1 i2
      rw [c 51 (by omega) (by omega), m 95 (by omega) (by omega) (by omega)]; exact k3 i i1 i2
    · rw [b.2 39 (by omega), c 42 (by omega) (by omega)]; exact k4
    · rw [b.2 40 (by omega), c 42 (by omega) (by omega)]; exact k5
    · rw [b.2 37 (by omega), c 42 (by omega) (by omega)]; exact k6
    · rw [b.2 35 (by omega), c 42 (by omega) (by omega)]; exact h3
    · rw [b.2 36 (by omega), c 42 (by omega) (by omega)]; exact h4
  · refine Or.inr ⟨by rw [b.2 34 (by omega)]; exact h1, ?_⟩
    unfold NW
    rw [c 42 (by omega) (by omega), c 52 (by omega) (by omega), c 43 (by omega) (by omega), c 56 (by omega) (by omega), c 47 (by omega) (by omega), c 49 (by omega) (by omega), c 51 (by omega) (by omega)]
    exact h2
theorem DBS_G {I I' X Y : Nat → Nat → Int32} {f ns nf : Nat} (h : DBS I I' f N sz lt ns nf) (a : CFr I X f) (b : MFr I' Y) : DBS X Y f N sz lt ns nf := by
  obtain ⟨h1, h2, h3, h4, h5, h6⟩ := h
  exact ⟨S0_G h1 a b, h2, by rw [a.1 29 (by omega) (by omega)]; exact h3, by rw [a.1 33 (by omega) (by omega)]; exact h4, WS_G h5 a b, by rw [a.1 42 (by omega) (by omega)]; exact h6⟩
theorem FSh_G {I I' X Y : Nat → Nat → Int32} {f nf : Nat} {ef : Nat → Nat} {wf : Nat → Int32} {df : Nat → Bool} (h : FSh I I' f nf ef wf df) (a : ∀ r, f ≤ r → r ≤ f + 6 → X r = I r) (b : MFr I' Y) : FSh X Y f nf ef wf df := by
  obtain ⟨h1, h2, h3, h4, h5⟩ := h
  exact ⟨h1, SHC_fr h2 a, SHR_fr h3 (b.1 _ (by omega) (by omega) (by omega)) (b.1 _ (by omega) (by omega) (by omega)) (b.1 _ (by omega) (by omega) (by omega)), by rw [b.2 19 (by omega)]; exact h4, by rw [b.2 21 (by omega), a f (by omega) (by omega)]; exact h5⟩
theorem PSh_G {I I' X Y : Nat → Nat → Int32} {f np : Nat} {ep : Nat → Nat} {wp : Nat → Int32} {dp : Nat → Bool} (h : PSh I I' f np ep wp dp) (a : ∀ r, f ≤ r → r ≤ f + 6 → X r = I r) (b : MFr I' Y) : PSh X Y f np ep wp dp := by
  obtain ⟨h1, h2, h3, h4, h5⟩ := h
  exact ⟨h1, SHC_fr h2 a, SHR_fr h3 (b.1 _ (by omega) (by omega) (by omega)) (b.1 _ (by omega) (by omega) (by omega)) (b.1 _ (by omega) (by omega) (by omega)), by rw [b.2 20 (by omega)]; exact h4, by rw [b.1 84 (by omega) (by omega) (by omega)]; exact h5⟩
theorem SW_G {I I' X Y : Nat → Nat → Int32} (h : SW I I') (a : X 4 = I 4) (b : X 5 = I 5) (c : Y 75 58 = I' 75 58) (d : Y 102 = I' 102) : SW X Y := by
  unfold SW; rw [a, b, c, d]; exact h
theorem TP_G {I I' X Y : Nat → Nat → Int32} (h : TP I I') (a : X 2 = I 2) (b : X 3 = I 3) (c : Y 75 2 = I' 75 2) (d : Y 76 = I' 76) : TP X Y := by
  unfold TP; rw [a, b, c, d]; exact h
end
