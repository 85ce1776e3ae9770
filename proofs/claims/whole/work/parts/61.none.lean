/-! The run from nothing: class and reference. -/
section
variable {N : Nat} {sz : Nat → Nat} {lt : Nat → Nat → Int32}
/-- the reference's reasons are the class's, of the latest run -/
def RZ (I I' : Nat → Nat → Int32) (N : Nat) : Prop := ∃ n, n ≤ 150 ∧ I 52 14 = nI n ∧ ∀ k, 1 ≤ k → k ≤ N → (I' 94 k ≠ 0 ↔ ∃ t, t < n ∧ I 70 t = nI k)
theorem HR_0 {I I' I1 I2 : Nat → Nat → Int32} (h : HR I I' N) (h' : HR I1 I2 N) (z : Z0 I I1) : I2 101 0 = I' 101 0 := by
  obtain ⟨x, x1, -, -, -, x5⟩ := h
  obtain ⟨y, y1, -, -, -, y5⟩ := h'
  obtain ⟨a, m, a1, a2, a3, a4, -⟩ := x5 0 (by omega)
  obtain ⟨b, p, b1, b2, b3, b4, -⟩ := y5 0 (by omega)
  have e1 : b = a := (nI_eq (by omega) (by omega)).mp (by rw [← b1, ← a1, z.1])
  have e2 : b + p = a + m := (nI_eq (by omega) (by omega)).mp (by rw [← b2, ← a2, z.2])
  rw [a4, b4]; congr 1; omega
theorem rclear_loop {v : zV} {J : Nat → Nat → Int64} (hN : N ≤ 600) : ∀ (d q f : Nat) (I : Nat → Nat → Int32), q + d = N + 1 → d < f → I 75 33 = nI N →
    ∃ I1, fX10_fromNothing_10 f 75 (nI q) (st I v J) = fX10_fromNothing_33 zfu 75 0 (st I1 v J) ∧ (∀ i, q ≤ i → i ≤ N → I1 94 i = 0) ∧ (∀ i, i < q → I1 94 i = I 94 i) ∧ (∀ a, a ≠ 94 → I1 a = I a) := by
  intro d
  induction d with
  | zero =>
    intro q f I hq hf h33
    obtain ⟨f, rfl⟩ : ∃ m, f = m + 1 := ⟨f - 1, by omega⟩
    refine ⟨I, ?_, fun i i1 i2 => by omega, fun _ _ => rfl, fun _ _ => rfl⟩
    conv => lhs; unfold fX10_fromNothing_10
    simp only [bnd_x, gd_0, gd_1, gd_o0, gd_o1, ite_self, rf_75_1, rf_75_3, rf_75_12, rf_75_13, rf_75_14, rf_75_15, rf_75_16, rf_75_17, rf_75_18, rf_75_22, rf_75_23, rf_75_24, rf_75_25, rf_75_31, rf_75_32, rf_75_41, rf_75_42, rf_75_43, rf_75_44, rf_75_45, rf_75_46, rf_75_47, rf_75_48, rf_75_53, rf_75_54, rf_75_55, rf_75_57, c_75, i_75, w_75, z0_75, z1_75, h33, if_pos (nI_lt (show N < q by omega) (show q < 2 ^ 31 by omega))]
  | succ d ih =>
    intro q f I hq hf h33
    obtain ⟨f, rfl⟩ : ∃ m, f = m + 1 := ⟨f - 1, by omega⟩
    obtain ⟨I1, f1, f2, f3, f4⟩ := ih (q + 1) f (up I 94 q 0) (by omega) (by omega) (by rw [up_ne (by decide)]; exact h33)
    refine ⟨I1, ?_, ?_, ?_, ?_⟩
    · conv => lhs; unfold fX10_fromNothing_10
      simp only [bnd_x, gd_0, gd_1, gd_o0, gd_o1, ite_self, rf_75_1, rf_75_3, rf_75_12, rf_75_13, rf_75_14, rf_75_15, rf_75_16, rf_75_17, rf_75_18, rf_75_22, rf_75_23, rf_75_24, rf_75_25, rf_75_31, rf_75_32, rf_75_41, rf_75_42, rf_75_43, rf_75_44, rf_75_45, rf_75_46, rf_75_47, rf_75_48, rf_75_53, rf_75_54, rf_75_55, rf_75_57, c_75, i_75, w_75, z0_75, z1_75, h33, if_neg (nI_nlt (show q ≤ N by omega) (show N < 2 ^ 31 by omega)), uz_94 (show q < 601 by omega) (Or.inl rfl)]
      rw [nI_1, f1]
    · intro i i1 i2
      by_cases e : i = q
      · rw [f3 i (by omega), up_at, e, vup_s]
      · exact f2 i (by omega) i2
    · intro i hi
      rw [f3 i (by omega), up_at, vup_n (by omega)]
    · intro a ha
      rw [f4 a ha, up_ne ha]
theorem rset_loop {v : zV} {J : Nat → Nat → Int64} {n : Nat} (hn : n ≤ 150) (rs : Nat → Nat) : ∀ (d t f : Nat) (I : Nat → Nat → Int32), t + d = n → d < f → I 75 49 = nI n → (∀ q, q < n → rs q ≤ 600 ∧ I 98 q = nI (rs q)) →
    ∃ I1, fX10_fromNothing_33 f 75 (nI t) (st I v J) = some (st I1 v J) ∧ (∀ k, I1 94 k ≠ 0 ↔ (I 94 k ≠ 0 ∨ ∃ q, t ≤ q ∧ q < n ∧ rs q = k)) ∧ (∀ a, a ≠ 94 → I1 a = I a) := by
  intro d
  induction d with
  | zero =>
    intro t f I ht hf h49 hr
    obtain ⟨f, rfl⟩ : ∃ m, f = m + 1 := ⟨f - 1, by omega⟩
    refine ⟨I, ?_, fun k => ⟨Or.inl, fun h => ?_⟩, fun _ _ => rfl⟩
    · conv => lhs; unfold fX10_fromNothing_33
      simp only [bnd_x, gd_0, gd_1, gd_o0, gd_o1, ite_self, rf_75_1, rf_75_3, rf_75_12, rf_75_13, rf_75_14, rf_75_15, rf_75_16, rf_75_17, rf_75_18, rf_75_22, rf_75_23, rf_75_24, rf_75_25, rf_75_31, rf_75_32, rf_75_41, rf_75_42, rf_75_43, rf_75_44, rf_75_45, rf_75_46, rf_75_47, rf_75_48, rf_75_53, rf_75_54, rf_75_55, rf_75_57, c_75, i_75, w_75, z0_75, z1_75, h49, if_pos (nI_le (show n ≤ t by omega) (show t < 2 ^ 31 by omega))]
    · rcases h with h | ⟨q, q1, q2, -⟩
      · exact h
      · omega
  | succ d ih =>
    intro t f I ht hf h49 hr
    obtain ⟨f, rfl⟩ : ∃ m, f = m + 1 := ⟨f - 1, by omega⟩
    obtain ⟨r1, r2⟩ := hr t (by omega)
    obtain ⟨I1, f1, f2, f3⟩ := ih (t + 1) f (up I 94 (rs t) 1) (by omega) (by omega) (by rw [up_ne (by decide)]; exact h49) (by rw [up_ne (by decide)]; exact hr)
    refine ⟨I1, ?_, ?_, ?_⟩
    · conv => lhs; unfold fX10_fromNothing_33
      simp only [bnd_x, gd_0, gd_1, gd_o0, gd_o1, ite_self, rf_75_1, rf_75_3, rf_75_12, rf_75_13, rf_75_14, rf_75_15, rf_75_16, rf_75_17, rf_75_18, rf_75_22, rf_75_23, rf_75_24, rf_75_25, rf_75_31, rf_75_32, rf_75_41, rf_75_42, rf_75_43, rf_75_44, rf_75_45, rf_75_46, rf_75_47, rf_75_48, rf_75_53, rf_75_54, rf_75_55, rf_75_57, c_75, i_75, w_75, z0_75, z1_75, h49, if_neg (nI_ge (show t < n by omega) (show n < 2 ^ 31 by omega)), qa_98 (show t < 151 by omega), r2, uz_94 (show rs t < 601 by omega) (Or.inr rfl)]
      rw [nI_1, f1]
    · intro k
      rw [f2 k, up_at]
      by_cases e : k = rs t
      · subst e
        rw [vup_s]
        exact ⟨fun _ => Or.inr ⟨t, Nat.le_refl _, by omega, rfl⟩, fun _ => Or.inl (by decide)⟩
      · rw [vup_n e]
        constructor
        · rintro (h | ⟨q, q1, q2, q3⟩)
          · exact Or.inl h
          · exact Or.inr ⟨q, by omega, q2, q3⟩
        · rintro (h | ⟨q, q1, q2, q3⟩)
          · exact Or.inl h
          · exact Or.inr ⟨q, Nat.lt_of_le_of_ne q1 (fun c => e (by rw [c]; exact q3.symm)), q2, q3⟩
    · intro a ha
      rw [f3 a ha, up_ne ha]
def GCn (I I1 : Nat → Nat → Int32) : Prop := ∀ a, a < 42 ∨ a = 51 ∨ a = 54 ∨ a = 60 ∨ 74 < a → I1 a = I a
def GMn (I I1 : Nat → Nat → Int32) : Prop := (∀ a, (a < 92 ∧ a ≠ 75) ∨ a = 95 ∨ 101 < a → I1 a = I a) ∧ (∀ j, j < 38 ∨ 56 < j ∨ j = 39 ∨ j = 40 → I1 75 j = I 75 j)
def GMo (I I1 : Nat → Nat → Int32) : Prop := (∀ a, (a < 92 ∧ a ≠ 75) ∨ a = 95 ∨ 101 < a → I1 a = I a) ∧ (∀ j, j < 37 ∨ 56 < j ∨ j = 39 ∨ j = 40 → I1 75 j = I 75 j)
theorem RN_94 {I I' I2 : Nat → Nat → Int32} {n : Nat} (h : RN I I' n N sz lt) (g : ∀ a, a ≠ 94 → I2 a = I' a) : RN I I2 n N sz lt := by
  obtain ⟨hD, hU, hB, hA, hT, hL, hP, hS⟩ := h
  refine ⟨hD, hU, DBR_fr hB (by rw [g 75 (by decide)]) (by rw [g 75 (by decide)]) (g _ (by decide)) (g _ (by decide)) (g _ (by decide)) (g _ (by decide)) (g _ (by decide)) (g _ (by decide)) (g _ (by decide)), ?_, hT, hL, ?_, hS⟩
  · intro q q1 q2
    rw [g 91 (by decide), g 92 (by decide)]; exact hA q q1 q2
  · unfold PE
    rw [g 96 (by decide), g 97 (by decide), g 98 (by decide), g 75 (by decide)]; exact hP
theorem none_lock {v v' : zV} {J J' : Nat → Nat → Int64} (hO : OKD N sz lt) {I I' : Nat → Nat → Int32} (h : RJ I I' N sz lt) (h52 : I' 75 52 = 0) (h101 : I' 101 0 = 0) (stp : Int32) :
    ∃ I1 I2, fX3_lookFromNothing 42 stp (st I v J) = some (st I1 v J) ∧ fX10_fromNothing 75 (st I' v' J') = some (st I2 v' J') ∧ GCn I I1 ∧ GMn I' I2 ∧
      ((I2 75 52 = 0 ∧ I2 75 51 = 0 ∧ RJ I1 I2 N sz lt ∧ RZ I1 I2 N ∧ I1 42 = I 42 ∧ Z0 I I1 ∧ I2 101 0 = 0)
      ∨ (I2 75 52 = 0 ∧ I2 75 51 = 1 ∧ I1 42 = vup (vup (I 42) 6 0) 8 stp ∧ ∃ I3, fX10_uses 75 0 (st (up (up I2 75 37 stp) 100 0 (I2 75 56)) v' J') = some (st I3 v' J') ∧ RJ I1 I3 N sz lt ∧ I3 75 52 = 0 ∧ I3 75 37 = stp ∧ GMo I' I3)
      ∨ (I2 75 52 = 1 ∧ RJ I1 I2 N sz lt ∧ I1 42 = vup (vup (I 42) 6 2) 7 0)) := by
  have hN := hO.1
  have hz := zfu_big
  obtain ⟨Ia, Id, Ie, r, t1, t2, t3, ⟨n, t6⟩, t7, t8, t9, t10, t11⟩ := try0 (v := v) (v' := v') (J := J) (J' := J') hO h h52
  have T9 : ∀ a, a ≠ 52 → a ≠ 58 → a ≠ 62 → a ≠ 64 → a ≠ 66 → a ≠ 68 → a ≠ 70 → Id a = I a := t9
  have d42 : Id 42 = I 42 := T9 42 (by decide) (by decide) (by decide) (by decide) (by decide) (by decide) (by decide)
  have hrs := (RN_rs hO t6 (c := 0) (Or.inl rfl)).1
  have hP := t6.2.2.2.2.2.2.1
  have hT := t6.2.2.2.2.1
  have hn : n ≤ 150 := by have := hT.2.1; omega
  have h33 : Ie 75 33 = nI N := t6.2.2.1.1
  obtain ⟨If, q1, q2, q3, q4⟩ := rclear_loop (v := v') (J := J') hN (N + 1) 0 zfu Ie (by omega) (by omega) h33
  obtain ⟨Ig, p1, p2, p3⟩ := rset_loop (v := v') (J := J') hn (rsn Id) n 0 zfu If (by omega) (by omega) (by rw [q4 75 (by decide)]; exact hP.2.1) (by
    intro q hq
    rw [q4 98 (by decide)]
    obtain ⟨x1, x2, x3⟩ := hrs q hq
    exact ⟨by omega, by rw [(hP.2.2.1 q hq).2]; exact x3⟩)
  rw [nI_0] at q1 p1
  have hg : ∀ a, a ≠ 94 → Ig a = Ie a := fun a ha => by rw [p3 a ha, q4 a ha]
  have hRNg : RN Id Ig n N sz lt := RN_94 t6 hg
  have hHg : HR Id Ig N := HR_fr t8 rfl rfl rfl rfl (by rw [hg 75 (by decide)]) (hg _ (by decide)) (hg _ (by decide)) (hg _ (by decide))
  have hRZ : RZ Id Ig N := by
    refine ⟨n, hn, hT.1, fun k k1 k2 => ?_⟩
    rw [p2 k, q2 k (by omega) k2]
    constructor
    · rintro (c | ⟨q, -, c1, c2⟩)
      · exact absurd rfl c
      · exact ⟨q, c1, by rw [(hrs q c1).2.2, c2]⟩
    · rintro ⟨q, c1, c2⟩
      refine Or.inr ⟨q, by omega, c1, ?_⟩
      obtain ⟨x1, x2, x3⟩ := hrs q c1
      exact (nI_eq (by omega) (by omega)).mp (by rw [← x3, c2])
  have hM : fX10_fromNothing 75 (st I' v' J') = some (st Ig v' J') := by
    unfold fX10_fromNothing
    simp only [bnd_x, gd_0, gd_1, gd_o0, gd_o1, ite_self, rf_75_1, rf_75_3, rf_75_12, rf_75_13, rf_75_14, rf_75_15, rf_75_16, rf_75_17, rf_75_18, rf_75_22, rf_75_23, rf_75_24, rf_75_25, rf_75_31, rf_75_32, rf_75_41, rf_75_42, rf_75_43, rf_75_44, rf_75_45, rf_75_46, rf_75_47, rf_75_48, rf_75_53, rf_75_54, rf_75_55, rf_75_57, c_75, i_75, w_75, z0_75, z1_75, begin_ok, t3, q1, p1]
  have hGM : GMn I' Ig := ⟨fun a ha => by rw [hg a (by omega), t10.1 a (by omega) (by omega) (by omega) (by omega)], fun j hj => by rw [hg 75 (by decide), t10.2 j (by omega) (by omega) (by omega) (by omega) (by omega)]⟩
  have hC : fX3_lookFromNothing 42 stp (st I v J) = if nI r = 2 then some (st (up (up Id 42 6 2) 42 7 0) v J) else if nI r = 1 then bnd (fX4_gatherUsed 52 (st (wr (wr (up (up Id 42 6 0) 42 8 stp) 46 0 (Id 43 3)) 48 0 (Id 43 3)) v J)) fun q28 => bnd (cl q28 3 42 (fX3_keepUsed 42 0 q28)) fun q31 => some q31 else some (st Id v J) := by
    unfold fX3_lookFromNothing
    simp only [bnd_x, gd_0, gd_1, gd_o0, gd_o1, ite_self, rf_1_0, rf_1_1, rf_1_5, rf_1_6, rf_1_7, rf_2_0, rf_4_0, rf_6_0, rf_6_1, rf_6_2, rf_7_0, rf_9_0, rf_11_0, rf_13_0, rf_13_1, rf_13_2, rf_14_0, rf_16_0, rf_18_0, rf_20_0, rf_20_1, rf_20_2, rf_21_0, rf_23_0, rf_25_0, rf_27_0, rf_29_0, rf_29_1, rf_29_2, rf_29_3, rf_29_4, rf_29_5, rf_30_0, rf_32_0, rf_34_0, rf_36_0, rf_38_0, rf_40_0, rf_42_0, rf_42_1, rf_42_2, rf_42_3, rf_43_0, rf_43_1, rf_43_2, rf_44_0, rf_46_0, rf_48_0, rf_50_0, rf_52_0, rf_52_1, rf_52_2, rf_52_3, rf_52_4, rf_52_5, rf_52_6, rf_52_7, rf_52_8, rf_52_9, rf_52_10, rf_52_11, rf_53_0, rf_55_0, rf_57_0, rf_59_0, rf_61_0, rf_63_0, rf_65_0, rf_67_0, rf_69_0, rf_71_0, rf_73_0, a_7, p_7, f_7, c_7, a_9, p_9, f_9, c_9, a_11, p_11, f_11, c_11, a_14, p_14, f_14, c_14, a_16, p_16, f_16, c_16, a_18, p_18, f_18, c_18, a_21, p_21, f_21, c_21, a_23, p_23, f_23, c_23, a_25, p_25, f_25, c_25, a_30, p_30, f_30, c_30, a_32, p_32, f_32, c_32, a_34, p_34, f_34, c_34, a_36, p_36, f_36, c_36, a_38, p_38, f_38, c_38, a_40, p_40, f_40, c_40, a_44, p_44, f_44, c_44, a_46, p_46, f_46, c_46, a_48, p_48, f_48, c_48, a_50, p_50, f_50, c_50, a_53, p_53, f_53, c_53, a_55, p_55, f_55, c_55, a_57, p_57, f_57, c_57, a_59, p_59, f_59, c_59, a_61, p_61, f_61, c_61, a_63, p_63, f_63, c_63, a_65, p_65, f_65, c_65, a_67, p_67, f_67, c_67, a_69, p_69, f_69, c_69, a_71, p_71, f_71, c_71, a_73, p_73, f_73, c_73, c_1, i_1, w_1, z0_1, z1_1, c_2, i_2, w_2, z0_2, z1_2, c_4, i_4, w_4, z0_4, z1_4, c_6, i_6, w_6, z0_6, z1_6, c_13, i_13, w_13, z0_13, z1_13, c_20, i_20, w_20, z0_20, z1_20, c_27, i_27, w_27, z0_27, z1_27, c_28, i_28, w_28, z0_28, z1_28, c_29, i_29, w_29, z0_29, z1_29, c_42, i_42, w_42, z0_42, z1_42, c_43, i_43, w_43, z0_43, z1_43, c_52, i_52, w_52, z0_52, z1_52, X1_size, X1_literal, X1_numberOfStep, X1_ofFormula, X1_inAll, X1_user, X9_codeOf, X1_firstUse, X1_endOfUses, X2_open, X2_at, X2_add, X2_drop, X2_clear, X4_fuelLeft, X4_isActive, X4_isMarked, X4_mark, X4_usedCount, X4_usedAt, X4_setActive, X4_forget, X4_truthOf, t1, t2, up_ne (show (43 : Nat) ≠ 42 by decide)]
  have e51 : Ig 75 = Ie 75 := hg 75 (by decide)
  have e101 : Ig 101 0 = 0 := by rw [hg 101 (by decide), t10.1 101 (by decide) (by decide) (by decide) (by decide)]; exact h101
  rcases t11 with ⟨r0, s51, s52, s16⟩ | ⟨r0, s51, s52, c, s16, cN, hc⟩ | ⟨r0, s51, s52⟩
  · subst r0
    rw [if_neg (by decide), if_neg (by decide)] at hC
    exact ⟨_, _, hC, hM, fun a ha => T9 a (by omega) (by omega) (by omega) (by omega) (by omega) (by omega) (by omega), hGM, Or.inl ⟨by rw [e51]; exact s52, by rw [e51]; exact s51, RN_RJ hRNg t7 hHg, hRZ, d42, Z0_T t9, e101⟩⟩
  · subst r0
    rw [if_neg (by decide), if_pos (by rfl)] at hC
    obtain ⟨hh, x1, x2, x3, x4, x5⟩ := hHg
    have n0 : (0 : Int32) = nI 0 := rfl
    have w1 : wr (wr (up (up Id 42 6 0) 42 8 stp) 46 0 (Id 43 3)) 48 0 (Id 43 3) = up (up (up (up Id 42 6 0) 42 8 stp) 47 0 (nI hh)) 49 0 (nI hh) := by
      rw [x2]
      have a1 := wr_46 (I := up (up Id 42 6 0) 42 8 stp) (k := 0) (x := nI hh) (by omega)
      have a2 := wr_48 (I := up (up (up Id 42 6 0) 42 8 stp) 47 0 (nI hh)) (k := 0) (x := nI hh) (by omega)
      rw [nI_0] at a1 a2
      rw [a1, a2]
    rw [w1] at hC
    generalize hI0 : up (up (up (up Id 42 6 0) 42 8 stp) 47 0 (nI hh)) 49 0 (nI hh) = I0 at hC
    generalize hM0 : up (up Ig 75 37 stp) 100 0 (Ig 75 56) = M0
    have f0 : ∀ a, a ≠ 42 → a ≠ 47 → a ≠ 49 → I0 a = Id a := fun a a0 a1 a2 => by rw [← hI0, up_ne a2, up_ne a1, up_ne a0, up_ne a0]
    have g0 : ∀ a, a ≠ 75 → a ≠ 100 → M0 a = Ig a := fun a a1 a2 => by rw [← hM0, up_ne a2, up_ne a1]
    have g75 : ∀ j, j ≠ 37 → M0 75 j = Ig 75 j := fun j hj => by rw [← hM0, up_ne (by decide), up_at, vup_n hj]
    have e47 : I0 47 = vup (Id 47) 0 (nI hh) := by rw [← hI0, up_ne (by decide), up_at, up_ne (by decide), up_ne (by decide)]
    have e49 : I0 49 = vup (Id 49) 0 (nI hh) := by rw [← hI0, up_at, up_ne (by decide), up_ne (by decide), up_ne (by decide)]
    have e42 : I0 42 = vup (vup (I 42) 6 0) 8 stp := by rw [← hI0, up_ne (by decide), up_ne (by decide), up_at, up_at, d42]
    have e100 : M0 100 = vup (Ig 100) 0 (nI hh) := by rw [← hM0, up_at, up_ne (by decide), x3]
    have e101' : M0 101 = Ig 101 := g0 101 (by decide) (by decide)
    have hH0 : HR I0 M0 N := by
      refine ⟨hh, x1, by rw [f0 43 (by decide) (by decide) (by decide)]; exact x2, by rw [g75 56 (by decide)]; exact x3, ?_, ?_⟩
      · rw [f0 45 (by decide) (by decide) (by decide), g0 99 (by decide) (by decide)]; exact x4
      · intro q hq
        rw [e47, e49, e100, e101']
        by_cases e : q = 0
        · subst e
          exact ⟨hh, 0, vup_s .., by rw [vup_s]; rfl, by omega, e101, fun c => absurd rfl c⟩
        · rw [vup_n e, vup_n e, vup_n e]; exact x5 q hq
    have hOP0 : OP I0 M0 0 := ⟨hh, 0, by rw [e47, vup_s], by rw [e100, vup_s], by rw [f0 43 (by decide) (by decide) (by decide)]; exact x2, by rw [e49, vup_s]; rfl, by rw [e101']; exact e101, by omega⟩
    have hRN0 : RN I0 M0 n N sz lt := by
      obtain ⟨hD, hU, hB, hA, hT, hL, hP, hS⟩ := hRNg
      refine ⟨DBC_fr hD (f0 _ (by decide) (by decide) (by decide)) (f0 _ (by decide) (by decide) (by decide)) (f0 _ (by decide) (by decide) (by decide)), USC_fr hU (f0 _ (by decide) (by decide) (by decide)) (f0 _ (by decide) (by decide) (by decide)) (f0 _ (by decide) (by decide) (by decide)), DBR_fr hB (g75 33 (by decide)) (g75 19 (by decide)) (g0 _ (by decide) (by decide)) (g0 _ (by decide) (by decide)) (g0 _ (by decide) (by decide)) (g0 _ (by decide) (by decide)) (g0 _ (by decide) (by decide)) (g0 _ (by decide) (by decide)) (g0 _ (by decide) (by decide)), ?_, ?_, ?_, ?_, ?_⟩
      · intro q q1 q2
        rw [f0 54 (by decide) (by decide) (by decide), f0 56 (by decide) (by decide) (by decide), g0 91 (by decide) (by decide), g0 92 (by decide) (by decide)]; exact hA q q1 q2
      · unfold TI
        rw [f0 52 (by decide) (by decide) (by decide), f0 64 (by decide) (by decide) (by decide), f0 68 (by decide) (by decide) (by decide)]; exact hT
      · intro q q1 q2
        rw [f0 58 (by decide) (by decide) (by decide), f0 64 (by decide) (by decide) (by decide)]; exact hL q q1 q2
      · unfold PE
        rw [f0 52 (by decide) (by decide) (by decide), f0 64 (by decide) (by decide) (by decide), f0 68 (by decide) (by decide) (by decide), f0 70 (by decide) (by decide) (by decide), g0 96 (by decide) (by decide), g0 97 (by decide) (by decide), g0 98 (by decide) (by decide), g75 49 (by decide), g75 38 (by decide), g75 50 (by decide)]; exact hP
      · unfold RS
        rw [f0 68 (by decide) (by decide) (by decide), f0 70 (by decide) (by decide) (by decide)]; exact hS
    obtain ⟨Ih, Ii, Ij, y1, y2, y3, y4, y5, y6, y49, y7, y8, y9, y10⟩ := settle (v := v) (v' := v') (J := J) (J' := J') hO hRN0 (by rw [f0 52 (by decide) (by decide) (by decide)]; exact s16) cN (by rw [f0 64 (by decide) (by decide) (by decide)]; exact hc) (show 0 ≤ N by omega) hH0 hOP0
    rw [nI_0] at y2 y3
    rw [y1] at hC
    simp only [bnd_x, gd_0, gd_1, gd_o0, gd_o1, ite_self, rf_1_0, rf_1_1, rf_1_5, rf_1_6, rf_1_7, rf_2_0, rf_4_0, rf_6_0, rf_6_1, rf_6_2, rf_7_0, rf_9_0, rf_11_0, rf_13_0, rf_13_1, rf_13_2, rf_14_0, rf_16_0, rf_18_0, rf_20_0, rf_20_1, rf_20_2, rf_21_0, rf_23_0, rf_25_0, rf_27_0, rf_29_0, rf_29_1, rf_29_2, rf_29_3, rf_29_4, rf_29_5, rf_30_0, rf_32_0, rf_34_0, rf_36_0, rf_38_0, rf_40_0, rf_42_0, rf_42_1, rf_42_2, rf_42_3, rf_43_0, rf_43_1, rf_43_2, rf_44_0, rf_46_0, rf_48_0, rf_50_0, rf_52_0, rf_52_1, rf_52_2, rf_52_3, rf_52_4, rf_52_5, rf_52_6, rf_52_7, rf_52_8, rf_52_9, rf_52_10, rf_52_11, rf_53_0, rf_55_0, rf_57_0, rf_59_0, rf_61_0, rf_63_0, rf_65_0, rf_67_0, rf_69_0, rf_71_0, rf_73_0, a_7, p_7, f_7, c_7, a_9, p_9, f_9, c_9, a_11, p_11, f_11, c_11, a_14, p_14, f_14, c_14, a_16, p_16, f_16, c_16, a_18, p_18, f_18, c_18, a_21, p_21, f_21, c_21, a_23, p_23, f_23, c_23, a_25, p_25, f_25, c_25, a_30, p_30, f_30, c_30, a_32, p_32, f_32, c_32, a_34, p_34, f_34, c_34, a_36, p_36, f_36, c_36, a_38, p_38, f_38, c_38, a_40, p_40, f_40, c_40, a_44, p_44, f_44, c_44, a_46, p_46, f_46, c_46, a_48, p_48, f_48, c_48, a_50, p_50, f_50, c_50, a_53, p_53, f_53, c_53, a_55, p_55, f_55, c_55, a_57, p_57, f_57, c_57, a_59, p_59, f_59, c_59, a_61, p_61, f_61, c_61, a_63, p_63, f_63, c_63, a_65, p_65, f_65, c_65, a_67, p_67, f_67, c_67, a_69, p_69, f_69, c_69, a_71, p_71, f_71, c_71, a_73, p_73, f_73, c_73, c_1, i_1, w_1, z0_1, z1_1, c_2, i_2, w_2, z0_2, z1_2, c_4, i_4, w_4, z0_4, z1_4, c_6, i_6, w_6, z0_6, z1_6, c_13, i_13, w_13, z0_13, z1_13, c_20, i_20, w_20, z0_20, z1_20, c_27, i_27, w_27, z0_27, z1_27, c_28, i_28, w_28, z0_28, z1_28, c_29, i_29, w_29, z0_29, z1_29, c_42, i_42, w_42, z0_42, z1_42, c_43, i_43, w_43, z0_43, z1_43, c_52, i_52, w_52, z0_52, z1_52, X1_size, X1_literal, X1_numberOfStep, X1_ofFormula, X1_inAll, X1_user, X9_codeOf, X1_firstUse, X1_endOfUses, X2_open, X2_at, X2_add, X2_drop, X2_clear, X4_fuelLeft, X4_isActive, X4_isMarked, X4_mark, X4_usedCount, X4_usedAt, X4_setActive, X4_forget, X4_truthOf, y2] at hC
    have hSO : SO Ii N sz := SO_fr t7 (by rw [y7 12 (by decide), f0 52 (by decide) (by decide) (by decide)]) (by rw [y8 60 (by decide) (by decide) (by decide) (by decide) (by decide) (by decide) (by decide), f0 60 (by decide) (by decide) (by decide)])
    refine ⟨Ii, Ig, hC, hM, ?_, hGM, Or.inr (Or.inl ⟨by rw [e51]; exact s52, by rw [e51]; exact s51, ?_, Ij, by rw [hM0]; exact y3, RN_RJ y4 hSO y5, ?_, ?_, ?_⟩)⟩
    · intro a ha
      rw [y8 a (by omega) (by omega) (by omega) (by omega) (by omega) (by omega) (by omega), f0 a (by omega) (by omega) (by omega)]
      exact T9 a (by omega) (by omega) (by omega) (by omega) (by omega) (by omega) (by omega)
    · rw [y8 42 (by decide) (by decide) (by decide) (by decide) (by decide) (by decide) (by decide), e42]
    · rw [y9 52 (by decide), g75 52 (by decide), e51]; exact s52
    · rw [y9 37 (by decide), ← hM0, up_ne (by decide), up_at, vup_s]
    · refine ⟨fun a ha => ?_, fun j hj => ?_⟩
      · rw [y10 a (by omega) (by omega) (by omega) (by omega) (by omega), g0 a (by omega) (by omega)]; exact hGM.1 a ha
      · rw [y9 j (by omega), g75 j (by omega)]; exact hGM.2 j (by omega)
  · subst r0
    rw [if_pos (by rfl)] at hC
    refine ⟨_, _, hC, hM, fun a ha => ?_, hGM, Or.inr (Or.inr ⟨by rw [e51]; exact s52, ?_, ?_⟩)⟩
    · rw [up_ne (by omega), up_ne (by omega)]
      exact T9 a (by omega) (by omega) (by omega) (by omega) (by omega) (by omega) (by omega)
    · have hrj := RN_RJ hRNg t7 hHg
      apply RJ_fr hrj
      · intro a ha
        rw [up_ne (fun q => by subst q; exact absurd ha (by decide)), up_ne (fun q => by subst q; exact absurd ha (by decide))]
      · intro j _; rw [up_ne (by decide), up_ne (by decide)]
      · intro a _; rfl
      · intro j _; rfl
      · exact HR_fr hHg (by rw [up_ne (by decide), up_ne (by decide)]) (by rw [up_ne (by decide), up_ne (by decide)]) (by rw [up_ne (by decide), up_ne (by decide)]) (by rw [up_ne (by decide), up_ne (by decide)]) rfl rfl rfl rfl
    · rw [up_at, up_at, d42]
end
