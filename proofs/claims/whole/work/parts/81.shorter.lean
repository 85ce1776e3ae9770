/-! The shorter proof is written, and taken. -/
section
variable {v v' : zV} {J J' : Nat → Nat → Int64}
def SK (I I' : Nat → Nat → Int32) (k : Nat) : Prop := I 4 1 = nI k ∧ I' 75 58 = nI k ∧ ∀ p, p < k → p < 6000 → I 5 p &&& 255 = I' 102 p
def F4 (I I1 : Nat → Nat → Int32) : Prop := ∀ a, a ≠ 4 → a ≠ 5 → I1 a = I a
def F58 (I I1 : Nat → Nat → Int32) : Prop := (∀ a, a ≠ 75 → a ≠ 102 → I1 a = I a) ∧ (∀ j, j ≠ 58 → I1 75 j = I 75 j)
theorem F4_t {I I1 I2 : Nat → Nat → Int32} (h : F4 I I1) (h' : F4 I1 I2) : F4 I I2 := fun a a1 a2 => by rw [h' a a1 a2, h a a1 a2]
theorem F58_t {I I1 I2 : Nat → Nat → Int32} (h : F58 I I1) (h' : F58 I1 I2) : F58 I I2 := ⟨fun a a1 a2 => by rw [h'.1 a a1 a2, h.1 a a1 a2], fun j hj => by rw [h'.2 j hj, h.2 j hj]⟩
theorem char_tab : ∀ c, c < 128 → nI c &&& 255 = nI c := by decide +kernel
theorem put1 {I I' : Nat → Nat → Int32} {k c : Nat} (h : SK I I' k) (hk : k < 2 ^ 30) (hc : c < 128) :
    ∃ I1 I2, fX0_add 4 (nI c) (st I v J) = some (st I1 v J) ∧ fX10_put 75 (nI c) (st I' v' J') = some (st I2 v' J') ∧ SK I1 I2 (k + 1) ∧ F4 I I1 ∧ F58 I' I2 := by
  obtain ⟨h1, h2, h3⟩ := h
  have hb : isB 4 = true := rfl
  have hadd := add_ok (v := v) (J := J) hb h1 hk (nI c)
  refine ⟨adB I 4 k (nI c), if k < 6000 then up (up I' 102 k (nI c)) 75 58 (nI (k + 1)) else up I' 75 58 (nI (k + 1)), hadd, ?_, ⟨?_, ?_, ?_⟩, ?_, ?_⟩
  · unfold fX10_put fX10_put_20
    simp only [bnd_x, gd_0, gd_1, gd_o0, gd_o1, ite_self, rf_75_1, rf_75_3, rf_75_12, rf_75_13, rf_75_14, rf_75_15, rf_75_16, rf_75_17, rf_75_18, rf_75_22, rf_75_23, rf_75_24, rf_75_25, rf_75_31, rf_75_32, rf_75_41, rf_75_42, rf_75_43, rf_75_44, rf_75_45, rf_75_46, rf_75_47, rf_75_48, rf_75_53, rf_75_54, rf_75_55, rf_75_57, c_75, i_75, w_75, z0_75, z1_75, h2]
    by_cases z : k < 6000
    · rw [if_neg (show ¬ (6000 : Int32) ≤ nI k from nI_ge (b := 6000) z (by decide)), if_pos z]
      simp only [ua_102 z, bnd_x, gd_0, gd_1, gd_o0, gd_o1, ite_self, rf_75_1, rf_75_3, rf_75_12, rf_75_13, rf_75_14, rf_75_15, rf_75_16, rf_75_17, rf_75_18, rf_75_22, rf_75_23, rf_75_24, rf_75_25, rf_75_31, rf_75_32, rf_75_41, rf_75_42, rf_75_43, rf_75_44, rf_75_45, rf_75_46, rf_75_47, rf_75_48, rf_75_53, rf_75_54, rf_75_55, rf_75_57, c_75, i_75, w_75, z0_75, z1_75, up_ne (show (75 : Nat) ≠ 102 by decide), h2, nI_1]
    · rw [if_pos (show (6000 : Int32) ≤ nI k from nI_le (a := 6000) (by omega) (by omega)), if_neg z, nI_1]
  · unfold adB; split
    · rw [up_self]
    · rw [up_self]
  · split
    · rw [up_self]
    · rw [up_self]
  · intro p hp hp6
    unfold adB
    by_cases z : k < 6000
    · rw [if_pos z, if_pos z, up_ne (show (5 : Nat) ≠ 4 by decide), up_at, up_ne (show (102 : Nat) ≠ 75 by decide), up_at]
      by_cases e : p = k
      · rw [e, vup_s, vup_s, byte8, char_tab c hc]
      · rw [vup_n e, vup_n e]; exact h3 p (by omega) hp6
    · rw [if_neg z, if_neg z, up_ne (show (5 : Nat) ≠ 4 by decide), up_ne (show (102 : Nat) ≠ 75 by decide)]
      exact h3 p (by omega) hp6
  · intro a a1 a2
    unfold adB; split
    · rw [up_ne a1, up_ne a2]
    · rw [up_ne a1]
  · split
    · exact ⟨fun a a1 a2 => by rw [up_ne a1, up_ne a2], fun j hj => by rw [up_at, vup_n hj, up_ne (by decide)]⟩
    · exact ⟨fun a a1 a2 => by rw [up_ne a1], fun j hj => by rw [up_at, vup_n hj]⟩
theorem dig_tab : ∀ a, a < 151 → (48 + ((nI a / 100) - (nI a / 100) / 10 * 10)) = nI (48 + a / 100) ∧ (48 + (nI a / 100)) = nI (48 + a / 100) ∧ (48 + ((nI a / 10) - (nI a / 10) / 10 * 10)) = nI (48 + a / 10 % 10) ∧ (48 + (nI a - nI a / 10 * 10)) = nI (48 + a % 10) := by decide +kernel
/-- digits of a number up to 150 -/
theorem digits3 {I I' : Nat → Nat → Int32} {k a : Nat} (h : SK I I' k) (hk : k + 4 < 2 ^ 30) (ha : a ≤ 150) :
    ∃ I1 I2 k', fX0_addDigits_15 4 (nI a) (st I v J) = some (st I1 v J) ∧ fX10_putNumber_20 75 (nI a) (st I' v' J') = some (st I2 v' J') ∧ SK I1 I2 k' ∧ k' ≤ k + 3 ∧ F4 I I1 ∧ F58 I' I2 := by
  obtain ⟨t1, t2, t3, t4⟩ := dig_tab a (by omega)
  have last : ∀ (I I' : Nat → Nat → Int32) (k : Nat), SK I I' k → k < 2 ^ 30 → ∃ I1 I2, fX0_addDigits_55 4 (nI a) (st I v J) = some (st I1 v J) ∧ fX10_putNumber_58 75 (nI a) (st I' v' J') = some (st I2 v' J') ∧ SK I1 I2 (k + 1) ∧ F4 I I1 ∧ F58 I' I2 := by
    intro I I' k h hk
    obtain ⟨I1, I2, q1, q2, q3⟩ := put1 (v := v) (v' := v') (J := J) (J' := J') (c := 48 + a % 10) h hk (by omega)
    refine ⟨I1, I2, ?_, ?_, q3⟩
    · unfold fX0_addDigits_55; simp only [bnd_x, gd_0, gd_1, gd_o0, gd_o1, ite_self, rf_1_0, rf_1_1, rf_1_5, rf_1_6, rf_1_7, rf_2_0, rf_4_0, rf_6_0, rf_6_1, rf_6_2, rf_7_0, rf_9_0, rf_11_0, rf_13_0, rf_13_1, rf_13_2, rf_14_0, rf_16_0, rf_18_0, rf_20_0, rf_20_1, rf_20_2, rf_21_0, rf_23_0, rf_25_0, rf_27_0, rf_29_0, rf_29_1, rf_29_2, rf_29_3, rf_29_4, rf_29_5, rf_30_0, rf_32_0, rf_34_0, rf_36_0, rf_38_0, rf_40_0, rf_42_0, rf_42_1, rf_42_2, rf_42_3, rf_43_0, rf_43_1, rf_43_2, rf_44_0, rf_46_0, rf_48_0, rf_50_0, rf_52_0, rf_52_1, rf_52_2, rf_52_3, rf_52_4, rf_52_5, rf_52_6, rf_52_7, rf_52_8, rf_52_9, rf_52_10, rf_52_11, rf_53_0, rf_55_0, rf_57_0, rf_59_0, rf_61_0, rf_63_0, rf_65_0, rf_67_0, rf_69_0, rf_71_0, rf_73_0, a_7, p_7, f_7, c_7, a_9, p_9, f_9, c_9, a_11, p_11, f_11, c_11, a_14, p_14, f_14, c_14, a_16, p_16, f_16, c_16, a_18, p_18, f_18, c_18, a_21, p_21, f_21, c_21, a_23, p_23, f_23, c_23, a_25, p_25, f_25, c_25, a_30, p_30, f_30, c_30, a_32, p_32, f_32, c_32, a_34, p_34, f_34, c_34, a_36, p_36, f_36, c_36, a_38, p_38, f_38, c_38, a_40, p_40, f_40, c_40, a_44, p_44, f_44, c_44, a_46, p_46, f_46, c_46, a_48, p_48, f_48, c_48, a_50, p_50, f_50, c_50, a_53, p_53, f_53, c_53, a_55, p_55, f_55, c_55, a_57, p_57, f_57, c_57, a_59, p_59, f_59, c_59, a_61, p_61, f_61, c_61, a_63, p_63, f_63, c_63, a_65, p_65, f_65, c_65, a_67, p_67, f_67, c_67, a_69, p_69, f_69, c_69, a_71, p_71, f_71, c_71, a_73, p_73, f_73, c_73, c_1, i_1, w_1, z0_1, z1_1, c_2, i_2, w_2, z0_2, z1_2, c_4, i_4, w_4, z0_4, z1_4, c_6, i_6, w_6, z0_6, z1_6, c_13, i_13, w_13, z0_13, z1_13, c_20, i_20, w_20, z0_20, z1_20, c_27, i_27, w_27, z0_27, z1_27, c_28, i_28, w_28, z0_28, z1_28, c_29, i_29, w_29, z0_29, z1_29, c_42, i_42, w_42, z0_42, z1_42, c_43, i_43, w_43, z0_43, z1_43, c_52, i_52, w_52, z0_52, z1_52, X1_size, X1_literal, X1_numberOfStep, X1_ofFormula, X1_inAll, X1_user, X9_codeOf, X1_firstUse, X1_endOfUses, X2_open, X2_at, X2_add, X2_drop, X2_clear, X4_fuelLeft, X4_isActive, X4_isMarked, X4_mark, X4_usedCount, X4_usedAt, X4_setActive, X4_forget, X4_truthOf, t4, q1]
    · unfold fX10_putNumber_58; simp only [bnd_x, gd_0, gd_1, gd_o0, gd_o1, ite_self, rf_75_1, rf_75_3, rf_75_12, rf_75_13, rf_75_14, rf_75_15, rf_75_16, rf_75_17, rf_75_18, rf_75_22, rf_75_23, rf_75_24, rf_75_25, rf_75_31, rf_75_32, rf_75_41, rf_75_42, rf_75_43, rf_75_44, rf_75_45, rf_75_46, rf_75_47, rf_75_48, rf_75_53, rf_75_54, rf_75_55, rf_75_57, c_75, i_75, w_75, z0_75, z1_75, t4, q2]
  have mid : ∀ (I I' : Nat → Nat → Int32) (k : Nat), SK I I' k → k + 1 < 2 ^ 30 → ∃ I1 I2 k', fX0_addDigits_35 4 (nI a) (st I v J) = some (st I1 v J) ∧ fX10_putNumber_38 75 (nI a) (st I' v' J') = some (st I2 v' J') ∧ SK I1 I2 k' ∧ k' ≤ k + 2 ∧ F4 I I1 ∧ F58 I' I2 := by
    intro I I' k h hk
    unfold fX0_addDigits_35 fX10_putNumber_38
    by_cases z : a < 10
    · rw [if_pos (show nI a < 10 from nI_lt (b := 10) z (by decide)), if_pos (show nI a < 10 from nI_lt (b := 10) z (by decide))]
      obtain ⟨I1, I2, q1, q2, q3, q4, q5⟩ := last I I' k h (by omega)
      exact ⟨I1, I2, k + 1, q1, q2, q3, by omega, q4, q5⟩
    · rw [if_neg (show ¬ nI a < 10 from nI_nlt (b := 10) (by omega) (by omega)), if_neg (show ¬ nI a < 10 from nI_nlt (b := 10) (by omega) (by omega))]
      obtain ⟨A, B, p1, p2, p3, p4, p5⟩ := put1 (v := v) (v' := v') (J := J) (J' := J') (c := 48 + a / 10 % 10) h (by omega) (by omega)
      obtain ⟨I1, I2, q1, q2, q3, q4, q5⟩ := last A B (k + 1) p3 (by omega)
      refine ⟨I1, I2, k + 2, ?_, ?_, q3, by omega, F4_t p4 q4, F58_t p5 q5⟩
      · simp only [bnd_x, gd_0, gd_1, gd_o0, gd_o1, ite_self, rf_1_0, rf_1_1, rf_1_5, rf_1_6, rf_1_7, rf_2_0, rf_4_0, rf_6_0, rf_6_1, rf_6_2, rf_7_0, rf_9_0, rf_11_0, rf_13_0, rf_13_1, rf_13_2, rf_14_0, rf_16_0, rf_18_0, rf_20_0, rf_20_1, rf_20_2, rf_21_0, rf_23_0, rf_25_0, rf_27_0, rf_29_0, rf_29_1, rf_29_2, rf_29_3, rf_29_4, rf_29_5, rf_30_0, rf_32_0, rf_34_0, rf_36_0, rf_38_0, rf_40_0, rf_42_0, rf_42_1, rf_42_2, rf_42_3, rf_43_0, rf_43_1, rf_43_2, rf_44_0, rf_46_0, rf_48_0, rf_50_0, rf_52_0, rf_52_1, rf_52_2, rf_52_3, rf_52_4, rf_52_5, rf_52_6, rf_52_7, rf_52_8, rf_52_9, rf_52_10, rf_52_11, rf_53_0, rf_55_0, rf_57_0, rf_59_0, rf_61_0, rf_63_0, rf_65_0, rf_67_0, rf_69_0, rf_71_0, rf_73_0, a_7, p_7, f_7, c_7, a_9, p_9, f_9, c_9, a_11, p_11, f_11, c_11, a_14, p_14, f_14, c_14, a_16, p_16, f_16, c_16, a_18, p_18, f_18, c_18, a_21, p_21, f_21, c_21, a_23, p_23, f_23, c_23, a_25, p_25, f_25, c_25, a_30, p_30, f_30, c_30, a_32, p_32, f_32, c_32, a_34, p_34, f_34, c_34, a_36, p_36, f_36, c_36, a_38, p_38, f_38, c_38, a_40, p_40, f_40, c_40, a_44, p_44, f_44, c_44, a_46, p_46, f_46, c_46, a_48, p_48, f_48, c_48, a_50, p_50, f_50, c_50, a_53, p_53, f_53, c_53, a_55, p_55, f_55, c_55, a_57, p_57, f_57, c_57, a_59, p_59, f_59, c_59, a_61, p_61, f_61, c_61, a_63, p_63, f_63, c_63, a_65, p_65, f_65, c_65, a_67, p_67, f_67, c_67, a_69, p_69, f_69, c_69, a_71, p_71, f_71, c_71, a_73, p_73, f_73, c_73, c_1, i_1, w_1, z0_1, z1_1, c_2, i_2, w_2, z0_2, z1_2, c_4, i_4, w_4, z0_4, z1_4, c_6, i_6, w_6, z0_6, z1_6, c_13, i_13, w_13, z0_13, z1_13, c_20, i_20, w_20, z0_20, z1_20, c_27, i_27, w_27, z0_27, z1_27, c_28, i_28, w_28, z0_28, z1_28, c_29, i_29, w_29, z0_29, z1_29, c_42, i_42, w_42, z0_42, z1_42, c_43, i_43, w_43, z0_43, z1_43, c_52, i_52, w_52, z0_52, z1_52, X1_size, X1_literal, X1_numberOfStep, X1_ofFormula, X1_inAll, X1_user, X9_codeOf, X1_firstUse, X1_endOfUses, X2_open, X2_at, X2_add, X2_drop, X2_clear, X4_fuelLeft, X4_isActive, X4_isMarked, X4_mark, X4_usedCount, X4_usedAt, X4_setActive, X4_forget, X4_truthOf, t3, p1, q1]
      · simp only [bnd_x, gd_0, gd_1, gd_o0, gd_o1, ite_self, rf_75_1, rf_75_3, rf_75_12, rf_75_13, rf_75_14, rf_75_15, rf_75_16, rf_75_17, rf_75_18, rf_75_22, rf_75_23, rf_75_24, rf_75_25, rf_75_31, rf_75_32, rf_75_41, rf_75_42, rf_75_43, rf_75_44, rf_75_45, rf_75_46, rf_75_47, rf_75_48, rf_75_53, rf_75_54, rf_75_55, rf_75_57, c_75, i_75, w_75, z0_75, z1_75, t3, p2, q2]
  unfold fX0_addDigits_15 fX10_putNumber_20
  by_cases z : a < 100
  · rw [if_pos (show nI a < 100 from nI_lt (b := 100) z (by decide)), if_pos (show nI a < 100 from nI_lt (b := 100) z (by decide))]
    obtain ⟨I1, I2, k', q1, q2, q3, q4, q5⟩ := mid I I' k h (by omega)
    exact ⟨I1, I2, k', q1, q2, q3, by omega, q5⟩
  · rw [if_neg (show ¬ nI a < 100 from nI_nlt (b := 100) (by omega) (by omega)), if_neg (show ¬ nI a < 100 from nI_nlt (b := 100) (by omega) (by omega))]
    obtain ⟨A, B, p1, p2, p3, p4, p5⟩ := put1 (v := v) (v' := v') (J := J) (J' := J') (c := 48 + a / 100) h (by omega) (by omega)
    obtain ⟨I1, I2, k', q1, q2, q3, q4, q5, q6⟩ := mid A B (k + 1) p3 (by omega)
    refine ⟨I1, I2, k', ?_, ?_, q3, by omega, F4_t p4 q5, F58_t p5 q6⟩
    · simp only [bnd_x, gd_0, gd_1, gd_o0, gd_o1, ite_self, rf_1_0, rf_1_1, rf_1_5, rf_1_6, rf_1_7, rf_2_0, rf_4_0, rf_6_0, rf_6_1, rf_6_2, rf_7_0, rf_9_0, rf_11_0, rf_13_0, rf_13_1, rf_13_2, rf_14_0, rf_16_0, rf_18_0, rf_20_0, rf_20_1, rf_20_2, rf_21_0, rf_23_0, rf_25_0, rf_27_0, rf_29_0, rf_29_1, rf_29_2, rf_29_3, rf_29_4, rf_29_5, rf_30_0, rf_32_0, rf_34_0, rf_36_0, rf_38_0, rf_40_0, rf_42_0, rf_42_1, rf_42_2, rf_42_3, rf_43_0, rf_43_1, rf_43_2, rf_44_0, rf_46_0, rf_48_0, rf_50_0, rf_52_0, rf_52_1, rf_52_2, rf_52_3, rf_52_4, rf_52_5, rf_52_6, rf_52_7, rf_52_8, rf_52_9, rf_52_10, rf_52_11, rf_53_0, rf_55_0, rf_57_0, rf_59_0, rf_61_0, rf_63_0, rf_65_0, rf_67_0, rf_69_0, rf_71_0, rf_73_0, a_7, p_7, f_7, c_7, a_9, p_9, f_9, c_9, a_11, p_11, f_11, c_11, a_14, p_14, f_14, c_14, a_16, p_16, f_16, c_16, a_18, p_18, f_18, c_18, a_21, p_21, f_21, c_21, a_23, p_23, f_23, c_23, a_25, p_25, f_25, c_25, a_30, p_30, f_30, c_30, a_32, p_32, f_32, c_32, a_34, p_34, f_34, c_34, a_36, p_36, f_36, c_36, a_38, p_38, f_38, c_38, a_40, p_40, f_40, c_40, a_44, p_44, f_44, c_44, a_46, p_46, f_46, c_46, a_48, p_48, f_48, c_48, a_50, p_50, f_50, c_50, a_53, p_53, f_53, c_53, a_55, p_55, f_55, c_55, a_57, p_57, f_57, c_57, a_59, p_59, f_59, c_59, a_61, p_61, f_61, c_61, a_63, p_63, f_63, c_63, a_65, p_65, f_65, c_65, a_67, p_67, f_67, c_67, a_69, p_69, f_69, c_69, a_71, p_71, f_71, c_71, a_73, p_73, f_73, c_73, c_1, i_1, w_1, z0_1, z1_1, c_2, i_2, w_2, z0_2, z1_2, c_4, i_4, w_4, z0_4, z1_4, c_6, i_6, w_6, z0_6, z1_6, c_13, i_13, w_13, z0_13, z1_13, c_20, i_20, w_20, z0_20, z1_20, c_27, i_27, w_27, z0_27, z1_27, c_28, i_28, w_28, z0_28, z1_28, c_29, i_29, w_29, z0_29, z1_29, c_42, i_42, w_42, z0_42, z1_42, c_43, i_43, w_43, z0_43, z1_43, c_52, i_52, w_52, z0_52, z1_52, X1_size, X1_literal, X1_numberOfStep, X1_ofFormula, X1_inAll, X1_user, X9_codeOf, X1_firstUse, X1_endOfUses, X2_open, X2_at, X2_add, X2_drop, X2_clear, X4_fuelLeft, X4_isActive, X4_isMarked, X4_mark, X4_usedCount, X4_usedAt, X4_setActive, X4_forget, X4_truthOf, t1, p1, q1]
    · simp only [bnd_x, gd_0, gd_1, gd_o0, gd_o1, ite_self, rf_75_1, rf_75_3, rf_75_12, rf_75_13, rf_75_14, rf_75_15, rf_75_16, rf_75_17, rf_75_18, rf_75_22, rf_75_23, rf_75_24, rf_75_25, rf_75_31, rf_75_32, rf_75_41, rf_75_42, rf_75_43, rf_75_44, rf_75_45, rf_75_46, rf_75_47, rf_75_48, rf_75_53, rf_75_54, rf_75_55, rf_75_57, c_75, i_75, w_75, z0_75, z1_75, t2, p2, q2]
theorem pos_i {l : Int32} (h : isL l) : (0 ≤ l ∧ l = nI (av l)) ∨ (¬ 0 ≤ l ∧ -l = nI (av l)) := by
  have ha := L_abs h
  by_cases c : l ≤ 0
  · rw [if_pos c] at ha
    refine Or.inr ⟨fun q => h.1 ?_, ha⟩
    exact Int32.le_antisymm c q
  · rw [if_neg c] at ha
    exact Or.inl ⟨Int32.le_of_lt (Int32.not_le.mp c), ha⟩
theorem num_lock {I I' : Nat → Nat → Int32} {k : Nat} {l : Int32} (h : SK I I' k) (hk : k + 5 < 2 ^ 30) (hl : isL l) :
    ∃ I1 I2 k', fX0_addDigits 4 l (st I v J) = some (st I1 v J) ∧ fX10_putNumber 75 l (st I' v' J') = some (st I2 v' J') ∧ SK I1 I2 k' ∧ k' ≤ k + 4 ∧ F4 I I1 ∧ F58 I' I2 := by
  have hav := (L_av hl).2
  have hz := L_zab hl
  unfold fX0_addDigits fX10_putNumber
  rw [hz]
  rcases pos_i hl with ⟨c, e⟩ | ⟨c, e⟩
  · rw [if_pos c, if_pos c]
    obtain ⟨I1, I2, k', q1, q2, q3, q4, q5, q6⟩ := digits3 (v := v) (v' := v') (J := J) (J' := J') h (by omega) hav
    refine ⟨I1, I2, k', q1, ?_, q3, by omega, q5, q6⟩
    unfold fX10_putNumber_10
    rw [if_pos c]
    rw [← e] at q2
    exact q2
  · rw [if_neg c, if_neg c]
    obtain ⟨A, B, p1, p2, p3, p4, p5⟩ := put1 (v := v) (v' := v') (J := J) (J' := J') (c := 45) h (by omega) (by omega)
    obtain ⟨I1, I2, k', q1, q2, q3, q4, q5, q6⟩ := digits3 (v := v) (v' := v') (J := J) (J' := J') p3 (by omega) hav
    rw [show nI 45 = (45 : Int32) from rfl] at p1 p2
    refine ⟨I1, I2, k', ?_, ?_, q3, by omega, F4_t p4 q5, F58_t p5 q6⟩
    · simp only [bnd_x, gd_0, gd_1, gd_o0, gd_o1, ite_self, rf_1_0, rf_1_1, rf_1_5, rf_1_6, rf_1_7, rf_2_0, rf_4_0, rf_6_0, rf_6_1, rf_6_2, rf_7_0, rf_9_0, rf_11_0, rf_13_0, rf_13_1, rf_13_2, rf_14_0, rf_16_0, rf_18_0, rf_20_0, rf_20_1, rf_20_2, rf_21_0, rf_23_0, rf_25_0, rf_27_0, rf_29_0, rf_29_1, rf_29_2, rf_29_3, rf_29_4, rf_29_5, rf_30_0, rf_32_0, rf_34_0, rf_36_0, rf_38_0, rf_40_0, rf_42_0, rf_42_1, rf_42_2, rf_42_3, rf_43_0, rf_43_1, rf_43_2, rf_44_0, rf_46_0, rf_48_0, rf_50_0, rf_52_0, rf_52_1, rf_52_2, rf_52_3, rf_52_4, rf_52_5, rf_52_6, rf_52_7, rf_52_8, rf_52_9, rf_52_10, rf_52_11, rf_53_0, rf_55_0, rf_57_0, rf_59_0, rf_61_0, rf_63_0, rf_65_0, rf_67_0, rf_69_0, rf_71_0, rf_73_0, a_7, p_7, f_7, c_7, a_9, p_9, f_9, c_9, a_11, p_11, f_11, c_11, a_14, p_14, f_14, c_14, a_16, p_16, f_16, c_16, a_18, p_18, f_18, c_18, a_21, p_21, f_21, c_21, a_23, p_23, f_23, c_23, a_25, p_25, f_25, c_25, a_30, p_30, f_30, c_30, a_32, p_32, f_32, c_32, a_34, p_34, f_34, c_34, a_36, p_36, f_36, c_36, a_38, p_38, f_38, c_38, a_40, p_40, f_40, c_40, a_44, p_44, f_44, c_44, a_46, p_46, f_46, c_46, a_48, p_48, f_48, c_48, a_50, p_50, f_50, c_50, a_53, p_53, f_53, c_53, a_55, p_55, f_55, c_55, a_57, p_57, f_57, c_57, a_59, p_59, f_59, c_59, a_61, p_61, f_61, c_61, a_63, p_63, f_63, c_63, a_65, p_65, f_65, c_65, a_67, p_67, f_67, c_67, a_69, p_69, f_69, c_69, a_71, p_71, f_71, c_71, a_73, p_73, f_73, c_73, c_1, i_1, w_1, z0_1, z1_1, c_2, i_2, w_2, z0_2, z1_2, c_4, i_4, w_4, z0_4, z1_4, c_6, i_6, w_6, z0_6, z1_6, c_13, i_13, w_13, z0_13, z1_13, c_20, i_20, w_20, z0_20, z1_20, c_27, i_27, w_27, z0_27, z1_27, c_28, i_28, w_28, z0_28, z1_28, c_29, i_29, w_29, z0_29, z1_29, c_42, i_42, w_42, z0_42, z1_42, c_43, i_43, w_43, z0_43, z1_43, c_52, i_52, w_52, z0_52, z1_52, X1_size, X1_literal, X1_numberOfStep, X1_ofFormula, X1_inAll, X1_user, X9_codeOf, X1_firstUse, X1_endOfUses, X2_open, X2_at, X2_add, X2_drop, X2_clear, X4_fuelLeft, X4_isActive, X4_isMarked, X4_mark, X4_usedCount, X4_usedAt, X4_setActive, X4_forget, X4_truthOf, p1, q1]
    · unfold fX10_putNumber_10
      simp only [bnd_x, gd_0, gd_1, gd_o0, gd_o1, ite_self, rf_75_1, rf_75_3, rf_75_12, rf_75_13, rf_75_14, rf_75_15, rf_75_16, rf_75_17, rf_75_18, rf_75_22, rf_75_23, rf_75_24, rf_75_25, rf_75_31, rf_75_32, rf_75_41, rf_75_42, rf_75_43, rf_75_44, rf_75_45, rf_75_46, rf_75_47, rf_75_48, rf_75_53, rf_75_54, rf_75_55, rf_75_57, c_75, i_75, w_75, z0_75, z1_75, p2, if_neg c, e, q2]
/-- the literals of a step -/
theorem lits_lock {f i s a : Nat} {g : Nat → Int32} (hv : v.2.1 = f) (hf : isSh f = true) (hi : i ≤ 300) (hs : s ≤ 40) (hg : ∀ j, j < s → isL (g j)) (ha : a + s ≤ 2000) (K : Nat → Int32 → Int32 → zS → Option (Int32 × zS)) (l1 : Int32) : ∀ (d j m m' k : Nat) (I I' : Nat → Nat → Int32), j + d = s → d < m → d < m' → SK I I' k → k + 5 * d + 3 < 2 ^ 30 → (∀ j, j < s → shLit I f (nI i) (nI j) = g j) → I' 82 i = nI s → I' 81 i = nI a → (∀ j, j < s → I' 83 (a + j) = g j) →
    ∃ I1 I2 k', fX9_writeStep_40 m 1 (nI i) (nI s) (nI j) (st I v J) = some (st I1 v J) ∧ fX10_shorter_141 K m' 75 l1 (nI i) (nI j) (st I' v' J') = K 75 l1 (nI (i + 1)) (st I2 v' J') ∧ SK I1 I2 k' ∧ k' ≤ k + 5 * d + 2 ∧ F4 I I1 ∧ F58 I' I2 := by
  have n3 : v.2.1 ≠ 0 := by rw [hv]; rcases isSh_i hf with q | q | q <;> rw [q] <;> decide
  have hf5 : 5 < f := by rcases isSh_i hf with q | q | q <;> omega
  intro d
  induction d with
  | zero =>
    intro j m m' k I I' hj hm hm' h hk e1 e2 e3 e4
    obtain ⟨m, rfl⟩ : ∃ q, m = q + 1 := ⟨m - 1, by omega⟩
    obtain ⟨m', rfl⟩ : ∃ q, m' = q + 1 := ⟨m' - 1, by omega⟩
    obtain ⟨A, B, p1, p2, p3, p4, p5⟩ := put1 (v := v) (v' := v') (J := J) (J' := J') (c := 48) h (by omega) (by omega)
    obtain ⟨I1, I2, q1, q2, q3, q4, q5⟩ := put1 (v := v) (v' := v') (J := J) (J' := J') (c := 10) p3 (by omega) (by omega)
    rw [show nI 48 = (48 : Int32) from rfl] at p1 p2
    rw [show nI 10 = (10 : Int32) from rfl] at q1 q2
    have le : nI s ≤ nI j := nI_le (by omega) (by omega)
    refine ⟨I1, I2, k + 1 + 1, ?_, ?_, q3, by omega, F4_t p4 q4, F58_t p5 q5⟩
    · conv => lhs; unfold fX9_writeStep_40
      rw [if_pos le]
      simp only [bnd_x, gd_0, gd_1, gd_o0, gd_o1, ite_self, rf_1_0, rf_1_1, rf_1_5, rf_1_6, rf_1_7, rf_2_0, rf_4_0, rf_6_0, rf_6_1, rf_6_2, rf_7_0, rf_9_0, rf_11_0, rf_13_0, rf_13_1, rf_13_2, rf_14_0, rf_16_0, rf_18_0, rf_20_0, rf_20_1, rf_20_2, rf_21_0, rf_23_0, rf_25_0, rf_27_0, rf_29_0, rf_29_1, rf_29_2, rf_29_3, rf_29_4, rf_29_5, rf_30_0, rf_32_0, rf_34_0, rf_36_0, rf_38_0, rf_40_0, rf_42_0, rf_42_1, rf_42_2, rf_42_3, rf_43_0, rf_43_1, rf_43_2, rf_44_0, rf_46_0, rf_48_0, rf_50_0, rf_52_0, rf_52_1, rf_52_2, rf_52_3, rf_52_4, rf_52_5, rf_52_6, rf_52_7, rf_52_8, rf_52_9, rf_52_10, rf_52_11, rf_53_0, rf_55_0, rf_57_0, rf_59_0, rf_61_0, rf_63_0, rf_65_0, rf_67_0, rf_69_0, rf_71_0, rf_73_0, a_7, p_7, f_7, c_7, a_9, p_9, f_9, c_9, a_11, p_11, f_11, c_11, a_14, p_14, f_14, c_14, a_16, p_16, f_16, c_16, a_18, p_18, f_18, c_18, a_21, p_21, f_21, c_21, a_23, p_23, f_23, c_23, a_25, p_25, f_25, c_25, a_30, p_30, f_30, c_30, a_32, p_32, f_32, c_32, a_34, p_34, f_34, c_34, a_36, p_36, f_36, c_36, a_38, p_38, f_38, c_38, a_40, p_40, f_40, c_40, a_44, p_44, f_44, c_44, a_46, p_46, f_46, c_46, a_48, p_48, f_48, c_48, a_50, p_50, f_50, c_50, a_53, p_53, f_53, c_53, a_55, p_55, f_55, c_55, a_57, p_57, f_57, c_57, a_59, p_59, f_59, c_59, a_61, p_61, f_61, c_61, a_63, p_63, f_63, c_63, a_65, p_65, f_65, c_65, a_67, p_67, f_67, c_67, a_69, p_69, f_69, c_69, a_71, p_71, f_71, c_71, a_73, p_73, f_73, c_73, c_1, i_1, w_1, z0_1, z1_1, c_2, i_2, w_2, z0_2, z1_2, c_4, i_4, w_4, z0_4, z1_4, c_6, i_6, w_6, z0_6, z1_6, c_13, i_13, w_13, z0_13, z1_13, c_20, i_20, w_20, z0_20, z1_20, c_27, i_27, w_27, z0_27, z1_27, c_28, i_28, w_28, z0_28, z1_28, c_29, i_29, w_29, z0_29, z1_29, c_42, i_42, w_42, z0_42, z1_42, c_43, i_43, w_43, z0_43, z1_43, c_52, i_52, w_52, z0_52, z1_52, X1_size, X1_literal, X1_numberOfStep, X1_ofFormula, X1_inAll, X1_user, X9_codeOf, X1_firstUse, X1_endOfUses, X2_open, X2_at, X2_add, X2_drop, X2_clear, X4_fuelLeft, X4_isActive, X4_isMarked, X4_mark, X4_usedCount, X4_usedAt, X4_setActive, X4_forget, X4_truthOf, p1, q1]
    · conv => lhs; unfold fX10_shorter_141
      simp only [bnd_x, gd_0, gd_1, gd_o0, gd_o1, ite_self, rf_75_1, rf_75_3, rf_75_12, rf_75_13, rf_75_14, rf_75_15, rf_75_16, rf_75_17, rf_75_18, rf_75_22, rf_75_23, rf_75_24, rf_75_25, rf_75_31, rf_75_32, rf_75_41, rf_75_42, rf_75_43, rf_75_44, rf_75_45, rf_75_46, rf_75_47, rf_75_48, rf_75_53, rf_75_54, rf_75_55, rf_75_57, c_75, i_75, w_75, z0_75, z1_75, qa_82 (show i < 301 by omega), e2, if_pos le, p2, q2, fX10_shorter_194, nI_1]
  | succ d ih =>
    intro j m m' k I I' hj hm hm' h hk e1 e2 e3 e4
    obtain ⟨m, rfl⟩ : ∃ q, m = q + 1 := ⟨m - 1, by omega⟩
    obtain ⟨m', rfl⟩ : ∃ q, m' = q + 1 := ⟨m' - 1, by omega⟩
    obtain ⟨A, B, k', p1, p2, p3, p4, p5, p6⟩ := num_lock (v := v) (v' := v') (J := J) (J' := J') h (by omega) (hg j (by omega))
    obtain ⟨C, D, q1, q2, q3, q4, q5⟩ := put1 (v := v) (v' := v') (J := J) (J' := J') (c := 32) p3 (by omega) (by omega)
    rw [show nI 32 = (32 : Int32) from rfl] at q1 q2
    have fC : F4 I C := F4_t p5 q4
    have fD : F58 I' D := F58_t p6 q5
    have r1 : ∀ x, rd C (f + 3) x = rd I (f + 3) x := rd_fr (fC _ (by omega) (by omega))
    have r2 : ∀ x, rd C (f + 1) x = rd I (f + 1) x := rd_fr (fC _ (by omega) (by omega))
    have es : ∀ x, shSize C f x = shSize I f x := fun x => by unfold shSize; rw [r1, r1]
    have el : ∀ x y, shLit C f x y = shLit I f x y := fun x y => by unfold shLit; rw [es, r1, r2]
    obtain ⟨I1, I2, k'', t1, t2, t3, t4, t5, t6⟩ := ih (j + 1) m m' (k' + 1) C D (by omega) (by omega) (by omega) q3 (by omega) (fun q hq => by rw [el]; exact e1 q hq) (by rw [fD.1 82 (by decide) (by decide)]; exact e2) (by rw [fD.1 81 (by decide) (by decide)]; exact e3) (by rw [fD.1 83 (by decide) (by decide)]; exact e4)
    have nle : ¬ nI s ≤ nI j := nI_ge (by omega) (by omega)
    refine ⟨I1, I2, k'', ?_, ?_, t3, by omega, F4_t fC t5, F58_t fD t6⟩
    · conv => lhs; unfold fX9_writeStep_40
      rw [if_neg nle]
      simp only [bnd_x, gd_0, gd_1, gd_o0, gd_o1, ite_self, rf_1_0, rf_1_1, rf_1_5, rf_1_6, rf_1_7, rf_2_0, rf_4_0, rf_6_0, rf_6_1, rf_6_2, rf_7_0, rf_9_0, rf_11_0, rf_13_0, rf_13_1, rf_13_2, rf_14_0, rf_16_0, rf_18_0, rf_20_0, rf_20_1, rf_20_2, rf_21_0, rf_23_0, rf_25_0, rf_27_0, rf_29_0, rf_29_1, rf_29_2, rf_29_3, rf_29_4, rf_29_5, rf_30_0, rf_32_0, rf_34_0, rf_36_0, rf_38_0, rf_40_0, rf_42_0, rf_42_1, rf_42_2, rf_42_3, rf_43_0, rf_43_1, rf_43_2, rf_44_0, rf_46_0, rf_48_0, rf_50_0, rf_52_0, rf_52_1, rf_52_2, rf_52_3, rf_52_4, rf_52_5, rf_52_6, rf_52_7, rf_52_8, rf_52_9, rf_52_10, rf_52_11, rf_53_0, rf_55_0, rf_57_0, rf_59_0, rf_61_0, rf_63_0, rf_65_0, rf_67_0, rf_69_0, rf_71_0, rf_73_0, a_7, p_7, f_7, c_7, a_9, p_9, f_9, c_9, a_11, p_11, f_11, c_11, a_14, p_14, f_14, c_14, a_16, p_16, f_16, c_16, a_18, p_18, f_18, c_18, a_21, p_21, f_21, c_21, a_23, p_23, f_23, c_23, a_25, p_25, f_25, c_25, a_30, p_30, f_30, c_30, a_32, p_32, f_32, c_32, a_34, p_34, f_34, c_34, a_36, p_36, f_36, c_36, a_38, p_38, f_38, c_38, a_40, p_40, f_40, c_40, a_44, p_44, f_44, c_44, a_46, p_46, f_46, c_46, a_48, p_48, f_48, c_48, a_50, p_50, f_50, c_50, a_53, p_53, f_53, c_53, a_55, p_55, f_55, c_55, a_57, p_57, f_57, c_57, a_59, p_59, f_59, c_59, a_61, p_61, f_61, c_61, a_63, p_63, f_63, c_63, a_65, p_65, f_65, c_65, a_67, p_67, f_67, c_67, a_69, p_69, f_69, c_69, a_71, p_71, f_71, c_71, a_73, p_73, f_73, c_73, c_1, i_1, w_1, z0_1, z1_1, c_2, i_2, w_2, z0_2, z1_2, c_4, i_4, w_4, z0_4, z1_4, c_6, i_6, w_6, z0_6, z1_6, c_13, i_13, w_13, z0_13, z1_13, c_20, i_20, w_20, z0_20, z1_20, c_27, i_27, w_27, z0_27, z1_27, c_28, i_28, w_28, z0_28, z1_28, c_29, i_29, w_29, z0_29, z1_29, c_42, i_42, w_42, z0_42, z1_42, c_43, i_43, w_43, z0_43, z1_43, c_52, i_52, w_52, z0_52, z1_52, X1_size, X1_literal, X1_numberOfStep, X1_ofFormula, X1_inAll, X1_user, X9_codeOf, X1_firstUse, X1_endOfUses, X2_open, X2_at, X2_add, X2_drop, X2_clear, X4_fuelLeft, X4_isActive, X4_isMarked, X4_mark, X4_usedCount, X4_usedAt, X4_setActive, X4_forget, X4_truthOf, rv_1_3 n3, hv, cl_st (sh_f hf).1, X7_literal hf, e1 j (by omega), p1, q1, nI_1]
      exact t1
    · conv => lhs; unfold fX10_shorter_141
      simp only [bnd_x, gd_0, gd_1, gd_o0, gd_o1, ite_self, rf_75_1, rf_75_3, rf_75_12, rf_75_13, rf_75_14, rf_75_15, rf_75_16, rf_75_17, rf_75_18, rf_75_22, rf_75_23, rf_75_24, rf_75_25, rf_75_31, rf_75_32, rf_75_41, rf_75_42, rf_75_43, rf_75_44, rf_75_45, rf_75_46, rf_75_47, rf_75_48, rf_75_53, rf_75_54, rf_75_55, rf_75_57, c_75, i_75, w_75, z0_75, z1_75, qa_82 (show i < 301 by omega), e2, if_neg nle, qa_81 (show i < 301 by omega), e3, nI_add, qa_83 (show a + j < 2000 by omega), e4 j (by omega), p2, q2, nI_1]
      exact t2
variable {N nf np : Nat} {sz : Nat → Nat} {lt : Nat → Nat → Int32}
/-- literals of steps are literals -/
def SL (I : Nat → Nat → Int32) (f np : Nat) : Prop := ∀ i s, 1 ≤ i → i ≤ np → s ≤ 40 → shSize I f (nI i) = nI s → ∀ j, j < s → isL (shLit I f (nI i) (nI j))
theorem F4_CFr {I I1 : Nat → Nat → Int32} {f : Nat} (hf : 5 < f) (h : F4 I I1) : CFr I I1 f := ⟨fun a a1 a2 => h a (by omega) (by omega), fun a a1 a2 => h a (by omega) (by omega)⟩
theorem F58_MFr {I I1 : Nat → Nat → Int32} (h : F58 I I1) : MFr I I1 := ⟨fun a a1 a2 a3 => h.1 a (by omega) (by omega), fun j hj => h.2 j (by omega)⟩
theorem SL_F {I I1 : Nat → Nat → Int32} {f : Nat} (hf : 5 < f) (h : SL I f np) (a : F4 I I1) : SL I1 f np := by
  have r1 : ∀ x, rd I1 (f + 3) x = rd I (f + 3) x := rd_fr (a _ (by omega) (by omega))
  have r2 : ∀ x, rd I1 (f + 1) x = rd I (f + 1) x := rd_fr (a _ (by omega) (by omega))
  have es : ∀ x, shSize I1 f x = shSize I f x := fun x => by unfold shSize; rw [r1, r1]
  have el : ∀ x y, shLit I1 f x y = shLit I f x y := fun x y => by unfold shLit; rw [es, r1, r2]
  intro i s i1 i2 s1 s2 j hj
  rw [el]; rw [es] at s2
  exact h i s i1 i2 s1 s2 j hj
theorem shorter_loop {f last : Nat} (hv : v.2.1 = f) (h7 : v.2.2.2.2.2.2 = f) (hf : isSh f = true) (hlast : last ≤ np) (hnp : np ≤ 300) : ∀ (d i m m' k : Nat) (I I' : Nat → Nat → Int32), 1 ≤ i → i + d = last + 1 → d < m → d < m' → SK I I' k → k + 205 * d + 1 < 2 ^ 30 → DBS I I' f N sz lt np nf → I' 75 34 = 1 → I' 75 19 = nI nf → SL I f np →
    ∃ I1 I2 k', fX9_shorter_17 m 1 (nI last) (nI i) (st I v J) = some (nI k', st I1 v J) ∧ fX10_shorter_43 m' 75 (nI last) (nI i) (st I' v' J') = some (nI k', st I2 v' J') ∧ SK I1 I2 k' ∧ k' ≤ k + 205 * d ∧ F4 I I1 ∧ F58 I' I2 := by
  have n3 : v.2.1 ≠ 0 := by rw [hv]; rcases isSh_i hf with q | q | q <;> rw [q] <;> decide
  have hf5 : 5 < f := by rcases isSh_i hf with q | q | q <;> omega
  have hz := zfu_big
  intro d
  induction d with
  | zero =>
    intro i m m' k I I' i1 hi hm hm' h hk hD h34 h19 hL
    obtain ⟨m, rfl⟩ : ∃ q, m = q + 1 := ⟨m - 1, by omega⟩
    obtain ⟨m', rfl⟩ : ∃ q, m' = q + 1 := ⟨m' - 1, by omega⟩
    have lt1 : nI last < nI i := nI_lt (by omega) (by omega)
    refine ⟨I, I', k, ?_, ?_, h, by omega, fun _ _ _ => rfl, ⟨fun _ _ _ => rfl, fun _ _ => rfl⟩⟩
    · conv => lhs; unfold fX9_shorter_17
      rw [if_pos lt1]
      unfold fX0_written
      simp only [bnd_x, gd_0, gd_1, gd_o0, gd_o1, ite_self, rf_1_0, rf_1_1, rf_1_5, rf_1_6, rf_1_7, rf_2_0, rf_4_0, rf_6_0, rf_6_1, rf_6_2, rf_7_0, rf_9_0, rf_11_0, rf_13_0, rf_13_1, rf_13_2, rf_14_0, rf_16_0, rf_18_0, rf_20_0, rf_20_1, rf_20_2, rf_21_0, rf_23_0, rf_25_0, rf_27_0, rf_29_0, rf_29_1, rf_29_2, rf_29_3, rf_29_4, rf_29_5, rf_30_0, rf_32_0, rf_34_0, rf_36_0, rf_38_0, rf_40_0, rf_42_0, rf_42_1, rf_42_2, rf_42_3, rf_43_0, rf_43_1, rf_43_2, rf_44_0, rf_46_0, rf_48_0, rf_50_0, rf_52_0, rf_52_1, rf_52_2, rf_52_3, rf_52_4, rf_52_5, rf_52_6, rf_52_7, rf_52_8, rf_52_9, rf_52_10, rf_52_11, rf_53_0, rf_55_0, rf_57_0, rf_59_0, rf_61_0, rf_63_0, rf_65_0, rf_67_0, rf_69_0, rf_71_0, rf_73_0, a_7, p_7, f_7, c_7, a_9, p_9, f_9, c_9, a_11, p_11, f_11, c_11, a_14, p_14, f_14, c_14, a_16, p_16, f_16, c_16, a_18, p_18, f_18, c_18, a_21, p_21, f_21, c_21, a_23, p_23, f_23, c_23, a_25, p_25, f_25, c_25, a_30, p_30, f_30, c_30, a_32, p_32, f_32, c_32, a_34, p_34, f_34, c_34, a_36, p_36, f_36, c_36, a_38, p_38, f_38, c_38, a_40, p_40, f_40, c_40, a_44, p_44, f_44, c_44, a_46, p_46, f_46, c_46, a_48, p_48, f_48, c_48, a_50, p_50, f_50, c_50, a_53, p_53, f_53, c_53, a_55, p_55, f_55, c_55, a_57, p_57, f_57, c_57, a_59, p_59, f_59, c_59, a_61, p_61, f_61, c_61, a_63, p_63, f_63, c_63, a_65, p_65, f_65, c_65, a_67, p_67, f_67, c_67, a_69, p_69, f_69, c_69, a_71, p_71, f_71, c_71, a_73, p_73, f_73, c_73, c_1, i_1, w_1, z0_1, z1_1, c_2, i_2, w_2, z0_2, z1_2, c_4, i_4, w_4, z0_4, z1_4, c_6, i_6, w_6, z0_6, z1_6, c_13, i_13, w_13, z0_13, z1_13, c_20, i_20, w_20, z0_20, z1_20, c_27, i_27, w_27, z0_27, z1_27, c_28, i_28, w_28, z0_28, z1_28, c_29, i_29, w_29, z0_29, z1_29, c_42, i_42, w_42, z0_42, z1_42, c_43, i_43, w_43, z0_43, z1_43, c_52, i_52, w_52, z0_52, z1_52, X1_size, X1_literal, X1_numberOfStep, X1_ofFormula, X1_inAll, X1_user, X9_codeOf, X1_firstUse, X1_endOfUses, X2_open, X2_at, X2_add, X2_drop, X2_clear, X4_fuelLeft, X4_isActive, X4_isMarked, X4_mark, X4_usedCount, X4_usedAt, X4_setActive, X4_forget, X4_truthOf, h.1]
    · conv => lhs; unfold fX10_shorter_43
      rw [if_pos lt1]
      simp only [bnd_x, gd_0, gd_1, gd_o0, gd_o1, ite_self, rf_75_1, rf_75_3, rf_75_12, rf_75_13, rf_75_14, rf_75_15, rf_75_16, rf_75_17, rf_75_18, rf_75_22, rf_75_23, rf_75_24, rf_75_25, rf_75_31, rf_75_32, rf_75_41, rf_75_42, rf_75_43, rf_75_44, rf_75_45, rf_75_46, rf_75_47, rf_75_48, rf_75_53, rf_75_54, rf_75_55, rf_75_57, c_75, i_75, w_75, z0_75, z1_75, h.2.1]
  | succ d ih =>
    intro i m m' k I I' i1 hi hm hm' h hk hD h34 h19 hL
    obtain ⟨m, rfl⟩ : ∃ q, m = q + 1 := ⟨m - 1, by omega⟩
    obtain ⟨m', rfl⟩ : ∃ q, m' = q + 1 := ⟨m' - 1, by omega⟩
    have nlt : ¬ nI last < nI i := nI_nlt (by omega) (by omega)
    have hD' := hD
    obtain ⟨d1, d2, d3, d4, d5, d6⟩ := hD
    have hN := d1.1.1
    have hWF : WF I I' f N sz lt np := by
      rcases d5 with ⟨-, q⟩ | ⟨q, -⟩
      · exact q
      · rw [q] at h34; exact absurd h34 (by decide)
    obtain ⟨s, g, bb, u, q1, q2, q3, q4, ⟨a, q5, q5', q5''⟩, q6, q7, q8, q9, q10, q11⟩ := d1.2.2.2.2.1.2.2.2.2.2 i i1 (by omega)
    have hAM := hWF.1.1.2.2.2.1
    obtain ⟨gg, g1, g2, g3⟩ := hWF.1.2.2.1 i i1 (by omega)
    -- whether it stays
    have hstay : ∃ S : Bool, fX3_staysInProof 42 (nI i) (st I v J) = some (b2 S, st I v J) ∧ fX10_shorter_43 (m' + 1) 75 (nI last) (nI i) (st I' v' J') = fX10_shorter_112 (fX10_shorter_43 m') 75 (nI last) (nI i) (b2 S) (st I' v' J') := by
      cases bb with
      | false =>
        obtain ⟨u1, u2⟩ := q11 rfl
        obtain ⟨a1, a2, a3, a4⟩ := hAM u u1 u2
        have hu0 : ¬ nI u = 0 := nI_ne0 (show 0 < u by omega) (by omega)
        have hb : ∃ S : Bool, I 56 u = b2 S := by
          rcases a4 with q | q
          · exact ⟨false, q⟩
          · exact ⟨true, q⟩
        obtain ⟨S, hS⟩ := hb
        have hnz : nz (I 56 u) = b2 S := by rw [hS]; cases S <;> rfl
        refine ⟨S, ?_, ?_⟩
        · unfold fX3_staysInProof
          simp only [bnd_x, gd_0, gd_1, gd_o0, gd_o1, ite_self, rf_1_0, rf_1_1, rf_1_5, rf_1_6, rf_1_7, rf_2_0, rf_4_0, rf_6_0, rf_6_1, rf_6_2, rf_7_0, rf_9_0, rf_11_0, rf_13_0, rf_13_1, rf_13_2, rf_14_0, rf_16_0, rf_18_0, rf_20_0, rf_20_1, rf_20_2, rf_21_0, rf_23_0, rf_25_0, rf_27_0, rf_29_0, rf_29_1, rf_29_2, rf_29_3, rf_29_4, rf_29_5, rf_30_0, rf_32_0, rf_34_0, rf_36_0, rf_38_0, rf_40_0, rf_42_0, rf_42_1, rf_42_2, rf_42_3, rf_43_0, rf_43_1, rf_43_2, rf_44_0, rf_46_0, rf_48_0, rf_50_0, rf_52_0, rf_52_1, rf_52_2, rf_52_3, rf_52_4, rf_52_5, rf_52_6, rf_52_7, rf_52_8, rf_52_9, rf_52_10, rf_52_11, rf_53_0, rf_55_0, rf_57_0, rf_59_0, rf_61_0, rf_63_0, rf_65_0, rf_67_0, rf_69_0, rf_71_0, rf_73_0, a_7, p_7, f_7, c_7, a_9, p_9, f_9, c_9, a_11, p_11, f_11, c_11, a_14, p_14, f_14, c_14, a_16, p_16, f_16, c_16, a_18, p_18, f_18, c_18, a_21, p_21, f_21, c_21, a_23, p_23, f_23, c_23, a_25, p_25, f_25, c_25, a_30, p_30, f_30, c_30, a_32, p_32, f_32, c_32, a_34, p_34, f_34, c_34, a_36, p_36, f_36, c_36, a_38, p_38, f_38, c_38, a_40, p_40, f_40, c_40, a_44, p_44, f_44, c_44, a_46, p_46, f_46, c_46, a_48, p_48, f_48, c_48, a_50, p_50, f_50, c_50, a_53, p_53, f_53, c_53, a_55, p_55, f_55, c_55, a_57, p_57, f_57, c_57, a_59, p_59, f_59, c_59, a_61, p_61, f_61, c_61, a_63, p_63, f_63, c_63, a_65, p_65, f_65, c_65, a_67, p_67, f_67, c_67, a_69, p_69, f_69, c_69, a_71, p_71, f_71, c_71, a_73, p_73, f_73, c_73, c_1, i_1, w_1, z0_1, z1_1, c_2, i_2, w_2, z0_2, z1_2, c_4, i_4, w_4, z0_4, z1_4, c_6, i_6, w_6, z0_6, z1_6, c_13, i_13, w_13, z0_13, z1_13, c_20, i_20, w_20, z0_20, z1_20, c_27, i_27, w_27, z0_27, z1_27, c_28, i_28, w_28, z0_28, z1_28, c_29, i_29, w_29, z0_29, z1_29, c_42, i_42, w_42, z0_42, z1_42, c_43, i_43, w_43, z0_43, z1_43, c_52, i_52, w_52, z0_52, z1_52, X1_size, X1_literal, X1_numberOfStep, X1_ofFormula, X1_inAll, X1_user, X9_codeOf, X1_firstUse, X1_endOfUses, X2_open, X2_at, X2_add, X2_drop, X2_clear, X4_fuelLeft, X4_isActive, X4_isMarked, X4_mark, X4_usedCount, X4_usedAt, X4_setActive, X4_forget, X4_truthOf, rd_34 (show i < 301 by omega), q8, if_neg hu0, isMk (show u < 601 by omega), hnz, gd_p (b2_01 S)]
        · conv => lhs; unfold fX10_shorter_43
          rw [if_neg nlt]
          simp only [bnd_x, gd_0, gd_1, gd_o0, gd_o1, ite_self, rf_75_1, rf_75_3, rf_75_12, rf_75_13, rf_75_14, rf_75_15, rf_75_16, rf_75_17, rf_75_18, rf_75_22, rf_75_23, rf_75_24, rf_75_25, rf_75_31, rf_75_32, rf_75_41, rf_75_42, rf_75_43, rf_75_44, rf_75_45, rf_75_46, rf_75_47, rf_75_48, rf_75_53, rf_75_54, rf_75_55, rf_75_57, c_75, i_75, w_75, z0_75, z1_75, qa_84 (show i < 301 by omega), q7, show b2 false = 0 from rfl, if_pos, qa_90 (show i < 301 by omega), q9, qa_92 (show u < 601 by omega), a2, hS]
      | true =>
        have u0 : u = 0 := q10 rfl
        have hMl : ∀ S : Bool, (if nI gg ≤ 0 then (0 : Int32) else if nI gg ≤ nI nf then 1 else if I' 92 gg = 0 then 0 else 1) = b2 S → fX10_shorter_43 (m' + 1) 75 (nI last) (nI i) (st I' v' J') = fX10_shorter_112 (fX10_shorter_43 m') 75 (nI last) (nI i) (b2 S) (st I' v' J') := by
          intro S hS
          rw [← hS]
          conv => lhs; unfold fX10_shorter_43
          rw [if_neg nlt]
          simp only [bnd_x, gd_0, gd_1, gd_o0, gd_o1, ite_self, rf_75_1, rf_75_3, rf_75_12, rf_75_13, rf_75_14, rf_75_15, rf_75_16, rf_75_17, rf_75_18, rf_75_22, rf_75_23, rf_75_24, rf_75_25, rf_75_31, rf_75_32, rf_75_41, rf_75_42, rf_75_43, rf_75_44, rf_75_45, rf_75_46, rf_75_47, rf_75_48, rf_75_53, rf_75_54, rf_75_55, rf_75_57, c_75, i_75, w_75, z0_75, z1_75, qa_84 (show i < 301 by omega), q7, show b2 true = 1 from rfl, if_neg (show ¬ (1 : Int32) = 0 by decide), qa_95 (show i < 301 by omega), g3, h19, qa_92 (show gg < 601 by omega), fX10_shorter_97, fX10_shorter_93]
          split
          · rfl
          · split
            · rfl
            · split <;> rfl
        by_cases z : gg = 0
        · refine ⟨false, ?_, hMl false (by rw [z]; rfl)⟩
          unfold fX3_staysInProof
          simp only [bnd_x, gd_0, gd_1, gd_o0, gd_o1, ite_self, rf_1_0, rf_1_1, rf_1_5, rf_1_6, rf_1_7, rf_2_0, rf_4_0, rf_6_0, rf_6_1, rf_6_2, rf_7_0, rf_9_0, rf_11_0, rf_13_0, rf_13_1, rf_13_2, rf_14_0, rf_16_0, rf_18_0, rf_20_0, rf_20_1, rf_20_2, rf_21_0, rf_23_0, rf_25_0, rf_27_0, rf_29_0, rf_29_1, rf_29_2, rf_29_3, rf_29_4, rf_29_5, rf_30_0, rf_32_0, rf_34_0, rf_36_0, rf_38_0, rf_40_0, rf_42_0, rf_42_1, rf_42_2, rf_42_3, rf_43_0, rf_43_1, rf_43_2, rf_44_0, rf_46_0, rf_48_0, rf_50_0, rf_52_0, rf_52_1, rf_52_2, rf_52_3, rf_52_4, rf_52_5, rf_52_6, rf_52_7, rf_52_8, rf_52_9, rf_52_10, rf_52_11, rf_53_0, rf_55_0, rf_57_0, rf_59_0, rf_61_0, rf_63_0, rf_65_0, rf_67_0, rf_69_0, rf_71_0, rf_73_0, a_7, p_7, f_7, c_7, a_9, p_9, f_9, c_9, a_11, p_11, f_11, c_11, a_14, p_14, f_14, c_14, a_16, p_16, f_16, c_16, a_18, p_18, f_18, c_18, a_21, p_21, f_21, c_21, a_23, p_23, f_23, c_23, a_25, p_25, f_25, c_25, a_30, p_30, f_30, c_30, a_32, p_32, f_32, c_32, a_34, p_34, f_34, c_34, a_36, p_36, f_36, c_36, a_38, p_38, f_38, c_38, a_40, p_40, f_40, c_40, a_44, p_44, f_44, c_44, a_46, p_46, f_46, c_46, a_48, p_48, f_48, c_48, a_50, p_50, f_50, c_50, a_53, p_53, f_53, c_53, a_55, p_55, f_55, c_55, a_57, p_57, f_57, c_57, a_59, p_59, f_59, c_59, a_61, p_61, f_61, c_61, a_63, p_63, f_63, c_63, a_65, p_65, f_65, c_65, a_67, p_67, f_67, c_67, a_69, p_69, f_69, c_69, a_71, p_71, f_71, c_71, a_73, p_73, f_73, c_73, c_1, i_1, w_1, z0_1, z1_1, c_2, i_2, w_2, z0_2, z1_2, c_4, i_4, w_4, z0_4, z1_4, c_6, i_6, w_6, z0_6, z1_6, c_13, i_13, w_13, z0_13, z1_13, c_20, i_20, w_20, z0_20, z1_20, c_27, i_27, w_27, z0_27, z1_27, c_28, i_28, w_28, z0_28, z1_28, c_29, i_29, w_29, z0_29, z1_29, c_42, i_42, w_42, z0_42, z1_42, c_43, i_43, w_43, z0_43, z1_43, c_52, i_52, w_52, z0_52, z1_52, X1_size, X1_literal, X1_numberOfStep, X1_ofFormula, X1_inAll, X1_user, X9_codeOf, X1_firstUse, X1_endOfUses, X2_open, X2_at, X2_add, X2_drop, X2_clear, X4_fuelLeft, X4_isActive, X4_isMarked, X4_mark, X4_usedCount, X4_usedAt, X4_setActive, X4_forget, X4_truthOf, rd_34 (show i < 301 by omega), q8, u0, nI_0, if_pos, rd_50 (show i < 301 by omega), g2, z]
          rfl
        · have z' : ¬ nI gg = 0 := nI_ne0 (show 0 < gg by omega) (by omega)
          have z'' : ¬ nI gg ≤ 0 := nI_nle (show 0 < gg by omega) (by omega)
          by_cases zf : gg ≤ nf
          · have le : nI gg ≤ nI nf := nI_le zf (by omega)
            refine ⟨true, ?_, hMl true (by rw [if_neg z'', if_pos le]; rfl)⟩
            unfold fX3_staysInProof
            simp only [bnd_x, gd_0, gd_1, gd_o0, gd_o1, ite_self, rf_1_0, rf_1_1, rf_1_5, rf_1_6, rf_1_7, rf_2_0, rf_4_0, rf_6_0, rf_6_1, rf_6_2, rf_7_0, rf_9_0, rf_11_0, rf_13_0, rf_13_1, rf_13_2, rf_14_0, rf_16_0, rf_18_0, rf_20_0, rf_20_1, rf_20_2, rf_21_0, rf_23_0, rf_25_0, rf_27_0, rf_29_0, rf_29_1, rf_29_2, rf_29_3, rf_29_4, rf_29_5, rf_30_0, rf_32_0, rf_34_0, rf_36_0, rf_38_0, rf_40_0, rf_42_0, rf_42_1, rf_42_2, rf_42_3, rf_43_0, rf_43_1, rf_43_2, rf_44_0, rf_46_0, rf_48_0, rf_50_0, rf_52_0, rf_52_1, rf_52_2, rf_52_3, rf_52_4, rf_52_5, rf_52_6, rf_52_7, rf_52_8, rf_52_9, rf_52_10, rf_52_11, rf_53_0, rf_55_0, rf_57_0, rf_59_0, rf_61_0, rf_63_0, rf_65_0, rf_67_0, rf_69_0, rf_71_0, rf_73_0, a_7, p_7, f_7, c_7, a_9, p_9, f_9, c_9, a_11, p_11, f_11, c_11, a_14, p_14, f_14, c_14, a_16, p_16, f_16, c_16, a_18, p_18, f_18, c_18, a_21, p_21, f_21, c_21, a_23, p_23, f_23, c_23, a_25, p_25, f_25, c_25, a_30, p_30, f_30, c_30, a_32, p_32, f_32, c_32, a_34, p_34, f_34, c_34, a_36, p_36, f_36, c_36, a_38, p_38, f_38, c_38, a_40, p_40, f_40, c_40, a_44, p_44, f_44, c_44, a_46, p_46, f_46, c_46, a_48, p_48, f_48, c_48, a_50, p_50, f_50, c_50, a_53, p_53, f_53, c_53, a_55, p_55, f_55, c_55, a_57, p_57, f_57, c_57, a_59, p_59, f_59, c_59, a_61, p_61, f_61, c_61, a_63, p_63, f_63, c_63, a_65, p_65, f_65, c_65, a_67, p_67, f_67, c_67, a_69, p_69, f_69, c_69, a_71, p_71, f_71, c_71, a_73, p_73, f_73, c_73, c_1, i_1, w_1, z0_1, z1_1, c_2, i_2, w_2, z0_2, z1_2, c_4, i_4, w_4, z0_4, z1_4, c_6, i_6, w_6, z0_6, z1_6, c_13, i_13, w_13, z0_13, z1_13, c_20, i_20, w_20, z0_20, z1_20, c_27, i_27, w_27, z0_27, z1_27, c_28, i_28, w_28, z0_28, z1_28, c_29, i_29, w_29, z0_29, z1_29, c_42, i_42, w_42, z0_42, z1_42, c_43, i_43, w_43, z0_43, z1_43, c_52, i_52, w_52, z0_52, z1_52, X1_size, X1_literal, X1_numberOfStep, X1_ofFormula, X1_inAll, X1_user, X9_codeOf, X1_firstUse, X1_endOfUses, X2_open, X2_at, X2_add, X2_drop, X2_clear, X4_fuelLeft, X4_isActive, X4_isMarked, X4_mark, X4_usedCount, X4_usedAt, X4_setActive, X4_forget, X4_truthOf, rd_34 (show i < 301 by omega), q8, u0, nI_0, if_pos, rd_50 (show i < 301 by omega), g2, if_neg z', d3, if_pos le]
            rfl
          · have nle : ¬ nI gg ≤ nI nf := nI_ge (by omega) (by omega)
            obtain ⟨a1, a2, a3, a4⟩ := hAM gg (by omega) g1
            have hC : fX3_staysInProof 42 (nI i) (st I v J) = some (nz (I 56 gg), st I v J) := by
              unfold fX3_staysInProof
              simp only [bnd_x, gd_0, gd_1, gd_o0, gd_o1, ite_self, rf_1_0, rf_1_1, rf_1_5, rf_1_6, rf_1_7, rf_2_0, rf_4_0, rf_6_0, rf_6_1, rf_6_2, rf_7_0, rf_9_0, rf_11_0, rf_13_0, rf_13_1, rf_13_2, rf_14_0, rf_16_0, rf_18_0, rf_20_0, rf_20_1, rf_20_2, rf_21_0, rf_23_0, rf_25_0, rf_27_0, rf_29_0, rf_29_1, rf_29_2, rf_29_3, rf_29_4, rf_29_5, rf_30_0, rf_32_0, rf_34_0, rf_36_0, rf_38_0, rf_40_0, rf_42_0, rf_42_1, rf_42_2, rf_42_3, rf_43_0, rf_43_1, rf_43_2, rf_44_0, rf_46_0, rf_48_0, rf_50_0, rf_52_0, rf_52_1, rf_52_2, rf_52_3, rf_52_4, rf_52_5, rf_52_6, rf_52_7, rf_52_8, rf_52_9, rf_52_10, rf_52_11, rf_53_0, rf_55_0, rf_57_0, rf_59_0, rf_61_0, rf_63_0, rf_65_0, rf_67_0, rf_69_0, rf_71_0, rf_73_0, a_7, p_7, f_7, c_7, a_9, p_9, f_9, c_9, a_11, p_11, f_11, c_11, a_14, p_14, f_14, c_14, a_16, p_16, f_16, c_16, a_18, p_18, f_18, c_18, a_21, p_21, f_21, c_21, a_23, p_23, f_23, c_23, a_25, p_25, f_25, c_25, a_30, p_30, f_30, c_30, a_32, p_32, f_32, c_32, a_34, p_34, f_34, c_34, a_36, p_36, f_36, c_36, a_38, p_38, f_38, c_38, a_40, p_40, f_40, c_40, a_44, p_44, f_44, c_44, a_46, p_46, f_46, c_46, a_48, p_48, f_48, c_48, a_50, p_50, f_50, c_50, a_53, p_53, f_53, c_53, a_55, p_55, f_55, c_55, a_57, p_57, f_57, c_57, a_59, p_59, f_59, c_59, a_61, p_61, f_61, c_61, a_63, p_63, f_63, c_63, a_65, p_65, f_65, c_65, a_67, p_67, f_67, c_67, a_69, p_69, f_69, c_69, a_71, p_71, f_71, c_71, a_73, p_73, f_73, c_73, c_1, i_1, w_1, z0_1, z1_1, c_2, i_2, w_2, z0_2, z1_2, c_4, i_4, w_4, z0_4, z1_4, c_6, i_6, w_6, z0_6, z1_6, c_13, i_13, w_13, z0_13, z1_13, c_20, i_20, w_20, z0_20, z1_20, c_27, i_27, w_27, z0_27, z1_27, c_28, i_28, w_28, z0_28, z1_28, c_29, i_29, w_29, z0_29, z1_29, c_42, i_42, w_42, z0_42, z1_42, c_43, i_43, w_43, z0_43, z1_43, c_52, i_52, w_52, z0_52, z1_52, X1_size, X1_literal, X1_numberOfStep, X1_ofFormula, X1_inAll, X1_user, X9_codeOf, X1_firstUse, X1_endOfUses, X2_open, X2_at, X2_add, X2_drop, X2_clear, X4_fuelLeft, X4_isActive, X4_isMarked, X4_mark, X4_usedCount, X4_usedAt, X4_setActive, X4_forget, X4_truthOf, rd_34 (show i < 301 by omega), q8, u0, nI_0, if_pos, rd_50 (show i < 301 by omega), g2, if_neg z', d3, if_neg nle, isMk (show gg < 601 by omega)]
              unfold nz
              by_cases y : I 56 gg = 0
              · rw [if_pos y, if_pos rfl]
              · rw [if_neg y, if_neg (by decide)]
            rcases a4 with y | y
            · refine ⟨false, by rw [hC, y]; rfl, hMl false (by rw [if_neg z'', if_neg nle, a2, y]; rfl)⟩
            · refine ⟨true, by rw [hC, y]; rfl, hMl true (by rw [if_neg z'', if_neg nle, a2, y]; rfl)⟩
    obtain ⟨S, hS1, hS2⟩ := hstay
    rw [hS2]
    cases S with
    | false =>
      obtain ⟨I1, I2, k', t1, t2, t3, t4, t5, t6⟩ := ih (i + 1) m m' k I I' (by omega) (by omega) (by omega) (by omega) h (by omega) hD' h34 h19 hL
      refine ⟨I1, I2, k', ?_, ?_, t3, by omega, t5, t6⟩
      · conv => lhs; unfold fX9_shorter_17
        rw [if_neg nlt]
        simp only [bnd_x, gd_0, gd_1, gd_o0, gd_o1, ite_self, rf_1_0, rf_1_1, rf_1_5, rf_1_6, rf_1_7, rf_2_0, rf_4_0, rf_6_0, rf_6_1, rf_6_2, rf_7_0, rf_9_0, rf_11_0, rf_13_0, rf_13_1, rf_13_2, rf_14_0, rf_16_0, rf_18_0, rf_20_0, rf_20_1, rf_20_2, rf_21_0, rf_23_0, rf_25_0, rf_27_0, rf_29_0, rf_29_1, rf_29_2, rf_29_3, rf_29_4, rf_29_5, rf_30_0, rf_32_0, rf_34_0, rf_36_0, rf_38_0, rf_40_0, rf_42_0, rf_42_1, rf_42_2, rf_42_3, rf_43_0, rf_43_1, rf_43_2, rf_44_0, rf_46_0, rf_48_0, rf_50_0, rf_52_0, rf_52_1, rf_52_2, rf_52_3, rf_52_4, rf_52_5, rf_52_6, rf_52_7, rf_52_8, rf_52_9, rf_52_10, rf_52_11, rf_53_0, rf_55_0, rf_57_0, rf_59_0, rf_61_0, rf_63_0, rf_65_0, rf_67_0, rf_69_0, rf_71_0, rf_73_0, a_7, p_7, f_7, c_7, a_9, p_9, f_9, c_9, a_11, p_11, f_11, c_11, a_14, p_14, f_14, c_14, a_16, p_16, f_16, c_16, a_18, p_18, f_18, c_18, a_21, p_21, f_21, c_21, a_23, p_23, f_23, c_23, a_25, p_25, f_25, c_25, a_30, p_30, f_30, c_30, a_32, p_32, f_32, c_32, a_34, p_34, f_34, c_34, a_36, p_36, f_36, c_36, a_38, p_38, f_38, c_38, a_40, p_40, f_40, c_40, a_44, p_44, f_44, c_44, a_46, p_46, f_46, c_46, a_48, p_48, f_48, c_48, a_50, p_50, f_50, c_50, a_53, p_53, f_53, c_53, a_55, p_55, f_55, c_55, a_57, p_57, f_57, c_57, a_59, p_59, f_59, c_59, a_61, p_61, f_61, c_61, a_63, p_63, f_63, c_63, a_65, p_65, f_65, c_65, a_67, p_67, f_67, c_67, a_69, p_69, f_69, c_69, a_71, p_71, f_71, c_71, a_73, p_73, f_73, c_73, c_1, i_1, w_1, z0_1, z1_1, c_2, i_2, w_2, z0_2, z1_2, c_4, i_4, w_4, z0_4, z1_4, c_6, i_6, w_6, z0_6, z1_6, c_13, i_13, w_13, z0_13, z1_13, c_20, i_20, w_20, z0_20, z1_20, c_27, i_27, w_27, z0_27, z1_27, c_28, i_28, w_28, z0_28, z1_28, c_29, i_29, w_29, z0_29, z1_29, c_42, i_42, w_42, z0_42, z1_42, c_43, i_43, w_43, z0_43, z1_43, c_52, i_52, w_52, z0_52, z1_52, X1_size, X1_literal, X1_numberOfStep, X1_ofFormula, X1_inAll, X1_user, X9_codeOf, X1_firstUse, X1_endOfUses, X2_open, X2_at, X2_add, X2_drop, X2_clear, X4_fuelLeft, X4_isActive, X4_isMarked, X4_mark, X4_usedCount, X4_usedAt, X4_setActive, X4_forget, X4_truthOf, hS1, show b2 false = 0 from rfl, if_pos, fX9_shorter_38, nI_1]
        exact t1
      · unfold fX10_shorter_112 fX10_shorter_194
        rw [show b2 false = 0 from rfl, if_pos rfl, nI_1]
        exact t2
    | true =>
      -- d and a blank, if it is a deletion
      have hpre : ∃ A B k1, SK A B k1 ∧ k1 ≤ k + 2 ∧ F4 I A ∧ F58 I' B ∧ fX9_writeStep 1 (nI i) (st I v J) = fX9_writeStep_40 zfu 1 (nI i) (nI s) 0 (st A v J) ∧ fX10_shorter_112 (fX10_shorter_43 m') 75 (nI last) (nI i) (b2 true) (st I' v' J') = fX10_shorter_141 (fX10_shorter_43 m') zfu 75 (nI last) (nI i) 0 (st B v' J') := by
        cases bb with
        | false =>
          refine ⟨I, I', k, h, by omega, fun _ _ _ => rfl, ⟨fun _ _ _ => rfl, fun _ _ => rfl⟩, ?_, ?_⟩
          · unfold fX9_writeStep fX9_writeStep_29
            simp only [bnd_x, gd_0, gd_1, gd_o0, gd_o1, ite_self, rf_1_0, rf_1_1, rf_1_5, rf_1_6, rf_1_7, rf_2_0, rf_4_0, rf_6_0, rf_6_1, rf_6_2, rf_7_0, rf_9_0, rf_11_0, rf_13_0, rf_13_1, rf_13_2, rf_14_0, rf_16_0, rf_18_0, rf_20_0, rf_20_1, rf_20_2, rf_21_0, rf_23_0, rf_25_0, rf_27_0, rf_29_0, rf_29_1, rf_29_2, rf_29_3, rf_29_4, rf_29_5, rf_30_0, rf_32_0, rf_34_0, rf_36_0, rf_38_0, rf_40_0, rf_42_0, rf_42_1, rf_42_2, rf_42_3, rf_43_0, rf_43_1, rf_43_2, rf_44_0, rf_46_0, rf_48_0, rf_50_0, rf_52_0, rf_52_1, rf_52_2, rf_52_3, rf_52_4, rf_52_5, rf_52_6, rf_52_7, rf_52_8, rf_52_9, rf_52_10, rf_52_11, rf_53_0, rf_55_0, rf_57_0, rf_59_0, rf_61_0, rf_63_0, rf_65_0, rf_67_0, rf_69_0, rf_71_0, rf_73_0, a_7, p_7, f_7, c_7, a_9, p_9, f_9, c_9, a_11, p_11, f_11, c_11, a_14, p_14, f_14, c_14, a_16, p_16, f_16, c_16, a_18, p_18, f_18, c_18, a_21, p_21, f_21, c_21, a_23, p_23, f_23, c_23, a_25, p_25, f_25, c_25, a_30, p_30, f_30, c_30, a_32, p_32, f_32, c_32, a_34, p_34, f_34, c_34, a_36, p_36, f_36, c_36, a_38, p_38, f_38, c_38, a_40, p_40, f_40, c_40, a_44, p_44, f_44, c_44, a_46, p_46, f_46, c_46, a_48, p_48, f_48, c_48, a_50, p_50, f_50, c_50, a_53, p_53, f_53, c_53, a_55, p_55, f_55, c_55, a_57, p_57, f_57, c_57, a_59, p_59, f_59, c_59, a_61, p_61, f_61, c_61, a_63, p_63, f_63, c_63, a_65, p_65, f_65, c_65, a_67, p_67, f_67, c_67, a_69, p_69, f_69, c_69, a_71, p_71, f_71, c_71, a_73, p_73, f_73, c_73, c_1, i_1, w_1, z0_1, z1_1, c_2, i_2, w_2, z0_2, z1_2, c_4, i_4, w_4, z0_4, z1_4, c_6, i_6, w_6, z0_6, z1_6, c_13, i_13, w_13, z0_13, z1_13, c_20, i_20, w_20, z0_20, z1_20, c_27, i_27, w_27, z0_27, z1_27, c_28, i_28, w_28, z0_28, z1_28, c_29, i_29, w_29, z0_29, z1_29, c_42, i_42, w_42, z0_42, z1_42, c_43, i_43, w_43, z0_43, z1_43, c_52, i_52, w_52, z0_52, z1_52, X1_size, X1_literal, X1_numberOfStep, X1_ofFormula, X1_inAll, X1_user, X9_codeOf, X1_firstUse, X1_endOfUses, X2_open, X2_at, X2_add, X2_drop, X2_clear, X4_fuelLeft, X4_isActive, X4_isMarked, X4_mark, X4_usedCount, X4_usedAt, X4_setActive, X4_forget, X4_truthOf, rv_1_3 n3, hv, cl_st (sh_f hf).1, X7_isDeletion hf, q6, show b2 false = 0 from rfl, if_pos, X7_size hf, q2]
          · unfold fX10_shorter_112 fX10_shorter_138
            simp only [bnd_x, gd_0, gd_1, gd_o0, gd_o1, ite_self, rf_75_1, rf_75_3, rf_75_12, rf_75_13, rf_75_14, rf_75_15, rf_75_16, rf_75_17, rf_75_18, rf_75_22, rf_75_23, rf_75_24, rf_75_25, rf_75_31, rf_75_32, rf_75_41, rf_75_42, rf_75_43, rf_75_44, rf_75_45, rf_75_46, rf_75_47, rf_75_48, rf_75_53, rf_75_54, rf_75_55, rf_75_57, c_75, i_75, w_75, z0_75, z1_75, show b2 true = 1 from rfl, if_neg (show ¬ (1 : Int32) = 0 by decide), qa_84 (show i < 301 by omega), q7, show b2 false = 0 from rfl, if_pos]
        | true =>
          obtain ⟨A, B, p1, p2, p3, p4, p5⟩ := put1 (v := v) (v' := v') (J := J) (J' := J') (c := 100) h (by omega) (by omega)
          obtain ⟨C, D, r1, r2, r3, r4, r5⟩ := put1 (v := v) (v' := v') (J := J) (J' := J') (c := 32) p3 (by omega) (by omega)
          rw [show nI 100 = (100 : Int32) from rfl] at p1 p2
          rw [show nI 32 = (32 : Int32) from rfl] at r1 r2
          have fC := F4_t p4 r4
          have rr : ∀ x, rd C (f + 3) x = rd I (f + 3) x := rd_fr (fC _ (by omega) (by omega))
          have es : shSize C f (nI i) = nI s := by unfold shSize; rw [rr, rr]; exact q2
          refine ⟨C, D, k + 1 + 1, r3, by omega, fC, F58_t p5 r5, ?_, ?_⟩
          · unfold fX9_writeStep fX9_writeStep_29
            simp only [bnd_x, gd_0, gd_1, gd_o0, gd_o1, ite_self, rf_1_0, rf_1_1, rf_1_5, rf_1_6, rf_1_7, rf_2_0, rf_4_0, rf_6_0, rf_6_1, rf_6_2, rf_7_0, rf_9_0, rf_11_0, rf_13_0, rf_13_1, rf_13_2, rf_14_0, rf_16_0, rf_18_0, rf_20_0, rf_20_1, rf_20_2, rf_21_0, rf_23_0, rf_25_0, rf_27_0, rf_29_0, rf_29_1, rf_29_2, rf_29_3, rf_29_4, rf_29_5, rf_30_0, rf_32_0, rf_34_0, rf_36_0, rf_38_0, rf_40_0, rf_42_0, rf_42_1, rf_42_2, rf_42_3, rf_43_0, rf_43_1, rf_43_2, rf_44_0, rf_46_0, rf_48_0, rf_50_0, rf_52_0, rf_52_1, rf_52_2, rf_52_3, rf_52_4, rf_52_5, rf_52_6, rf_52_7, rf_52_8, rf_52_9, rf_52_10, rf_52_11, rf_53_0, rf_55_0, rf_57_0, rf_59_0, rf_61_0, rf_63_0, rf_65_0, rf_67_0, rf_69_0, rf_71_0, rf_73_0, a_7, p_7, f_7, c_7, a_9, p_9, f_9, c_9, a_11, p_11, f_11, c_11, a_14, p_14, f_14, c_14, a_16, p_16, f_16, c_16, a_18, p_18, f_18, c_18, a_21, p_21, f_21, c_21, a_23, p_23, f_23, c_23, a_25, p_25, f_25, c_25, a_30, p_30, f_30, c_30, a_32, p_32, f_32, c_32, a_34, p_34, f_34, c_34, a_36, p_36, f_36, c_36, a_38, p_38, f_38, c_38, a_40, p_40, f_40, c_40, a_44, p_44, f_44, c_44, a_46, p_46, f_46, c_46, a_48, p_48, f_48, c_48, a_50, p_50, f_50, c_50, a_53, p_53, f_53, c_53, a_55, p_55, f_55, c_55, a_57, p_57, f_57, c_57, a_59, p_59, f_59, c_59, a_61, p_61, f_61, c_61, a_63, p_63, f_63, c_63, a_65, p_65, f_65, c_65, a_67, p_67, f_67, c_67, a_69, p_69, f_69, c_69, a_71, p_71, f_71, c_71, a_73, p_73, f_73, c_73, c_1, i_1, w_1, z0_1, z1_1, c_2, i_2, w_2, z0_2, z1_2, c_4, i_4, w_4, z0_4, z1_4, c_6, i_6, w_6, z0_6, z1_6, c_13, i_13, w_13, z0_13, z1_13, c_20, i_20, w_20, z0_20, z1_20, c_27, i_27, w_27, z0_27, z1_27, c_28, i_28, w_28, z0_28, z1_28, c_29, i_29, w_29, z0_29, z1_29, c_42, i_42, w_42, z0_42, z1_42, c_43, i_43, w_43, z0_43, z1_43, c_52, i_52, w_52, z0_52, z1_52, X1_size, X1_literal, X1_numberOfStep, X1_ofFormula, X1_inAll, X1_user, X9_codeOf, X1_firstUse, X1_endOfUses, X2_open, X2_at, X2_add, X2_drop, X2_clear, X4_fuelLeft, X4_isActive, X4_isMarked, X4_mark, X4_usedCount, X4_usedAt, X4_setActive, X4_forget, X4_truthOf, rv_1_3 n3, hv, cl_st (sh_f hf).1, X7_isDeletion hf, q6, show b2 true = 1 from rfl, if_neg (show ¬ (1 : Int32) = 0 by decide), p1, r1, X7_size hf, es]
          · unfold fX10_shorter_112 fX10_shorter_138
            simp only [bnd_x, gd_0, gd_1, gd_o0, gd_o1, ite_self, rf_75_1, rf_75_3, rf_75_12, rf_75_13, rf_75_14, rf_75_15, rf_75_16, rf_75_17, rf_75_18, rf_75_22, rf_75_23, rf_75_24, rf_75_25, rf_75_31, rf_75_32, rf_75_41, rf_75_42, rf_75_43, rf_75_44, rf_75_45, rf_75_46, rf_75_47, rf_75_48, rf_75_53, rf_75_54, rf_75_55, rf_75_57, c_75, i_75, w_75, z0_75, z1_75, show b2 true = 1 from rfl, if_neg (show ¬ (1 : Int32) = 0 by decide), qa_84 (show i < 301 by omega), q7, p2, r2]
      obtain ⟨A, B, k1, y1, y2, y3, y4, y5, y6⟩ := hpre
      have rr1 : ∀ x, rd A (f + 3) x = rd I (f + 3) x := rd_fr (y3 _ (by omega) (by omega))
      have rr2 : ∀ x, rd A (f + 1) x = rd I (f + 1) x := rd_fr (y3 _ (by omega) (by omega))
      have es : ∀ x, shSize A f x = shSize I f x := fun x => by unfold shSize; rw [rr1, rr1]
      have el : ∀ x y, shLit A f x y = shLit I f x y := fun x y => by unfold shLit; rw [es, rr1, rr2]
      obtain ⟨C, D, k2, z1, z2, z3, z4, z5, z6⟩ := lits_lock (v := v) (v' := v') (J := J) (J' := J') (g := g) hv hf (show i ≤ 300 by omega) q1 (fun j hj => by rw [← q3 j hj]; exact hL i s i1 (by omega) q1 q2 j hj) q5' (fX10_shorter_43 m') (nI last) s 0 zfu zfu k1 A B (by omega) (by omega) (by omega) y1 (by omega) (fun j hj => by rw [el]; exact q3 j hj) (by rw [y4.1 82 (by decide) (by decide)]; exact q4) (by rw [y4.1 81 (by decide) (by decide)]; exact q5) (by rw [y4.1 83 (by decide) (by decide)]; exact q5'')
      rw [nI_0] at z1 z2
      have fC := F4_t y3 z5
      have fD := F58_t y4 z6
      obtain ⟨I1, I2, k', t1, t2, t3, t4, t5, t6⟩ := ih (i + 1) m m' k2 C D (by omega) (by omega) (by omega) (by omega) z3 (by omega) (DBS_G hD' (F4_CFr hf5 fC) (F58_MFr fD)) (by rw [fD.2 34 (by decide)]; exact h34) (by rw [fD.2 19 (by decide)]; exact h19) (SL_F hf5 hL fC)
      refine ⟨I1, I2, k', ?_, by rw [y6, z2, t2], t3, by omega, F4_t fC t5, F58_t fD t6⟩
      conv => lhs; unfold fX9_shorter_17
      rw [if_neg nlt]
      simp only [bnd_x, gd_0, gd_1, gd_o0, gd_o1, ite_self, rf_1_0, rf_1_1, rf_1_5, rf_1_6, rf_1_7, rf_2_0, rf_4_0, rf_6_0, rf_6_1, rf_6_2, rf_7_0, rf_9_0, rf_11_0, rf_13_0, rf_13_1, rf_13_2, rf_14_0, rf_16_0, rf_18_0, rf_20_0, rf_20_1, rf_20_2, rf_21_0, rf_23_0, rf_25_0, rf_27_0, rf_29_0, rf_29_1, rf_29_2, rf_29_3, rf_29_4, rf_29_5, rf_30_0, rf_32_0, rf_34_0, rf_36_0, rf_38_0, rf_40_0, rf_42_0, rf_42_1, rf_42_2, rf_42_3, rf_43_0, rf_43_1, rf_43_2, rf_44_0, rf_46_0, rf_48_0, rf_50_0, rf_52_0, rf_52_1, rf_52_2, rf_52_3, rf_52_4, rf_52_5, rf_52_6, rf_52_7, rf_52_8, rf_52_9, rf_52_10, rf_52_11, rf_53_0, rf_55_0, rf_57_0, rf_59_0, rf_61_0, rf_63_0, rf_65_0, rf_67_0, rf_69_0, rf_71_0, rf_73_0, a_7, p_7, f_7, c_7, a_9, p_9, f_9, c_9, a_11, p_11, f_11, c_11, a_14, p_14, f_14, c_14, a_16, p_16, f_16, c_16, a_18, p_18, f_18, c_18, a_21, p_21, f_21, c_21, a_23, p_23, f_23, c_23, a_25, p_25, f_25, c_25, a_30, p_30, f_30, c_30, a_32, p_32, f_32, c_32, a_34, p_34, f_34, c_34, a_36, p_36, f_36, c_36, a_38, p_38, f_38, c_38, a_40, p_40, f_40, c_40, a_44, p_44, f_44, c_44, a_46, p_46, f_46, c_46, a_48, p_48, f_48, c_48, a_50, p_50, f_50, c_50, a_53, p_53, f_53, c_53, a_55, p_55, f_55, c_55, a_57, p_57, f_57, c_57, a_59, p_59, f_59, c_59, a_61, p_61, f_61, c_61, a_63, p_63, f_63, c_63, a_65, p_65, f_65, c_65, a_67, p_67, f_67, c_67, a_69, p_69, f_69, c_69, a_71, p_71, f_71, c_71, a_73, p_73, f_73, c_73, c_1, i_1, w_1, z0_1, z1_1, c_2, i_2, w_2, z0_2, z1_2, c_4, i_4, w_4, z0_4, z1_4, c_6, i_6, w_6, z0_6, z1_6, c_13, i_13, w_13, z0_13, z1_13, c_20, i_20, w_20, z0_20, z1_20, c_27, i_27, w_27, z0_27, z1_27, c_28, i_28, w_28, z0_28, z1_28, c_29, i_29, w_29, z0_29, z1_29, c_42, i_42, w_42, z0_42, z1_42, c_43, i_43, w_43, z0_43, z1_43, c_52, i_52, w_52, z0_52, z1_52, X1_size, X1_literal, X1_numberOfStep, X1_ofFormula, X1_inAll, X1_user, X9_codeOf, X1_firstUse, X1_endOfUses, X2_open, X2_at, X2_add, X2_drop, X2_clear, X4_fuelLeft, X4_isActive, X4_isMarked, X4_mark, X4_usedCount, X4_usedAt, X4_setActive, X4_forget, X4_truthOf, hS1, show b2 true = 1 from rfl, if_neg (show ¬ (1 : Int32) = 0 by decide), y5, z1, fX9_shorter_38, nI_1]
      exact t1
/-- without a weighing none stays -/
theorem shorter_none {f : Nat} {I I' : Nat → Nat → Int32} (hD : S0 I I' f N sz lt np) (hNW : NW I) (hnp : np ≤ 300) : ∀ (d i m : Nat), 1 ≤ i → i + d = np + 1 → d < m → fX9_shorter_17 m 1 (nI np) (nI i) (st I v J) = some (I 4 1, st I v J) := by
  have hN := hD.1.1
  intro d
  induction d with
  | zero =>
    intro i m i1 hi hm
    obtain ⟨m, rfl⟩ : ∃ q, m = q + 1 := ⟨m - 1, by omega⟩
    conv => lhs; unfold fX9_shorter_17
    rw [if_pos (nI_lt (show np < i by omega) (by omega))]
    unfold fX0_written
    simp only [bnd_x, gd_0, gd_1, gd_o0, gd_o1, ite_self, rf_1_0, rf_1_1, rf_1_5, rf_1_6, rf_1_7, rf_2_0, rf_4_0, rf_6_0, rf_6_1, rf_6_2, rf_7_0, rf_9_0, rf_11_0, rf_13_0, rf_13_1, rf_13_2, rf_14_0, rf_16_0, rf_18_0, rf_20_0, rf_20_1, rf_20_2, rf_21_0, rf_23_0, rf_25_0, rf_27_0, rf_29_0, rf_29_1, rf_29_2, rf_29_3, rf_29_4, rf_29_5, rf_30_0, rf_32_0, rf_34_0, rf_36_0, rf_38_0, rf_40_0, rf_42_0, rf_42_1, rf_42_2, rf_42_3, rf_43_0, rf_43_1, rf_43_2, rf_44_0, rf_46_0, rf_48_0, rf_50_0, rf_52_0, rf_52_1, rf_52_2, rf_52_3, rf_52_4, rf_52_5, rf_52_6, rf_52_7, rf_52_8, rf_52_9, rf_52_10, rf_52_11, rf_53_0, rf_55_0, rf_57_0, rf_59_0, rf_61_0, rf_63_0, rf_65_0, rf_67_0, rf_69_0, rf_71_0, rf_73_0, a_7, p_7, f_7, c_7, a_9, p_9, f_9, c_9, a_11, p_11, f_11, c_11, a_14, p_14, f_14, c_14, a_16, p_16, f_16, c_16, a_18, p_18, f_18, c_18, a_21, p_21, f_21, c_21, a_23, p_23, f_23, c_23, a_25, p_25, f_25, c_25, a_30, p_30, f_30, c_30, a_32, p_32, f_32, c_32, a_34, p_34, f_34, c_34, a_36, p_36, f_36, c_36, a_38, p_38, f_38, c_38, a_40, p_40, f_40, c_40, a_44, p_44, f_44, c_44, a_46, p_46, f_46, c_46, a_48, p_48, f_48, c_48, a_50, p_50, f_50, c_50, a_53, p_53, f_53, c_53, a_55, p_55, f_55, c_55, a_57, p_57, f_57, c_57, a_59, p_59, f_59, c_59, a_61, p_61, f_61, c_61, a_63, p_63, f_63, c_63, a_65, p_65, f_65, c_65, a_67, p_67, f_67, c_67, a_69, p_69, f_69, c_69, a_71, p_71, f_71, c_71, a_73, p_73, f_73, c_73, c_1, i_1, w_1, z0_1, z1_1, c_2, i_2, w_2, z0_2, z1_2, c_4, i_4, w_4, z0_4, z1_4, c_6, i_6, w_6, z0_6, z1_6, c_13, i_13, w_13, z0_13, z1_13, c_20, i_20, w_20, z0_20, z1_20, c_27, i_27, w_27, z0_27, z1_27, c_28, i_28, w_28, z0_28, z1_28, c_29, i_29, w_29, z0_29, z1_29, c_42, i_42, w_42, z0_42, z1_42, c_43, i_43, w_43, z0_43, z1_43, c_52, i_52, w_52, z0_52, z1_52, X1_size, X1_literal, X1_numberOfStep, X1_ofFormula, X1_inAll, X1_user, X9_codeOf, X1_firstUse, X1_endOfUses, X2_open, X2_at, X2_add, X2_drop, X2_clear, X4_fuelLeft, X4_isActive, X4_isMarked, X4_mark, X4_usedCount, X4_usedAt, X4_setActive, X4_forget, X4_truthOf]
  | succ d ih =>
    intro i m i1 hi hm
    obtain ⟨m, rfl⟩ : ∃ q, m = q + 1 := ⟨m - 1, by omega⟩
    obtain ⟨s, g, bb, u, q1, q2, q3, q4, q5, q6, q7, q8, q9, q10, q11⟩ := hD.2.2.2.2.1.2.2.2.2.2 i i1 (by omega)
    have hu : u ≤ N := by
      cases bb with
      | true => rw [q10 rfl]; omega
      | false => exact (q11 rfl).2
    have hst : fX3_staysInProof 42 (nI i) (st I v J) = some (0, st I v J) := by
      unfold fX3_staysInProof
      simp only [bnd_x, gd_0, gd_1, gd_o0, gd_o1, ite_self, rf_1_0, rf_1_1, rf_1_5, rf_1_6, rf_1_7, rf_2_0, rf_4_0, rf_6_0, rf_6_1, rf_6_2, rf_7_0, rf_9_0, rf_11_0, rf_13_0, rf_13_1, rf_13_2, rf_14_0, rf_16_0, rf_18_0, rf_20_0, rf_20_1, rf_20_2, rf_21_0, rf_23_0, rf_25_0, rf_27_0, rf_29_0, rf_29_1, rf_29_2, rf_29_3, rf_29_4, rf_29_5, rf_30_0, rf_32_0, rf_34_0, rf_36_0, rf_38_0, rf_40_0, rf_42_0, rf_42_1, rf_42_2, rf_42_3, rf_43_0, rf_43_1, rf_43_2, rf_44_0, rf_46_0, rf_48_0, rf_50_0, rf_52_0, rf_52_1, rf_52_2, rf_52_3, rf_52_4, rf_52_5, rf_52_6, rf_52_7, rf_52_8, rf_52_9, rf_52_10, rf_52_11, rf_53_0, rf_55_0, rf_57_0, rf_59_0, rf_61_0, rf_63_0, rf_65_0, rf_67_0, rf_69_0, rf_71_0, rf_73_0, a_7, p_7, f_7, c_7, a_9, p_9, f_9, c_9, a_11, p_11, f_11, c_11, a_14, p_14, f_14, c_14, a_16, p_16, f_16, c_16, a_18, p_18, f_18, c_18, a_21, p_21, f_21, c_21, a_23, p_23, f_23, c_23, a_25, p_25, f_25, c_25, a_30, p_30, f_30, c_30, a_32, p_32, f_32, c_32, a_34, p_34, f_34, c_34, a_36, p_36, f_36, c_36, a_38, p_38, f_38, c_38, a_40, p_40, f_40, c_40, a_44, p_44, f_44, c_44, a_46, p_46, f_46, c_46, a_48, p_48, f_48, c_48, a_50, p_50, f_50, c_50, a_53, p_53, f_53, c_53, a_55, p_55, f_55, c_55, a_57, p_57, f_57, c_57, a_59, p_59, f_59, c_59, a_61, p_61, f_61, c_61, a_63, p_63, f_63, c_63, a_65, p_65, f_65, c_65, a_67, p_67, f_67, c_67, a_69, p_69, f_69, c_69, a_71, p_71, f_71, c_71, a_73, p_73, f_73, c_73, c_1, i_1, w_1, z0_1, z1_1, c_2, i_2, w_2, z0_2, z1_2, c_4, i_4, w_4, z0_4, z1_4, c_6, i_6, w_6, z0_6, z1_6, c_13, i_13, w_13, z0_13, z1_13, c_20, i_20, w_20, z0_20, z1_20, c_27, i_27, w_27, z0_27, z1_27, c_28, i_28, w_28, z0_28, z1_28, c_29, i_29, w_29, z0_29, z1_29, c_42, i_42, w_42, z0_42, z1_42, c_43, i_43, w_43, z0_43, z1_43, c_52, i_52, w_52, z0_52, z1_52, X1_size, X1_literal, X1_numberOfStep, X1_ofFormula, X1_inAll, X1_user, X9_codeOf, X1_firstUse, X1_endOfUses, X2_open, X2_at, X2_add, X2_drop, X2_clear, X4_fuelLeft, X4_isActive, X4_isMarked, X4_mark, X4_usedCount, X4_usedAt, X4_setActive, X4_forget, X4_truthOf, rd_34 (show i < 301 by omega), q8, rd_50 (show i < 301 by omega), hNW.2.2.2.2.2.2.2.2 i (by omega), isMk (show u < 601 by omega), (hNW.2.2.2.2.2.2.2.1 u (by omega)).1, nz, if_pos]
    conv => lhs; unfold fX9_shorter_17
    rw [if_neg (nI_nlt (show i ≤ np by omega) (by omega))]
    simp only [bnd_x, gd_0, gd_1, gd_o0, gd_o1, ite_self, rf_1_0, rf_1_1, rf_1_5, rf_1_6, rf_1_7, rf_2_0, rf_4_0, rf_6_0, rf_6_1, rf_6_2, rf_7_0, rf_9_0, rf_11_0, rf_13_0, rf_13_1, rf_13_2, rf_14_0, rf_16_0, rf_18_0, rf_20_0, rf_20_1, rf_20_2, rf_21_0, rf_23_0, rf_25_0, rf_27_0, rf_29_0, rf_29_1, rf_29_2, rf_29_3, rf_29_4, rf_29_5, rf_30_0, rf_32_0, rf_34_0, rf_36_0, rf_38_0, rf_40_0, rf_42_0, rf_42_1, rf_42_2, rf_42_3, rf_43_0, rf_43_1, rf_43_2, rf_44_0, rf_46_0, rf_48_0, rf_50_0, rf_52_0, rf_52_1, rf_52_2, rf_52_3, rf_52_4, rf_52_5, rf_52_6, rf_52_7, rf_52_8, rf_52_9, rf_52_10, rf_52_11, rf_53_0, rf_55_0, rf_57_0, rf_59_0, rf_61_0, rf_63_0, rf_65_0, rf_67_0, rf_69_0, rf_71_0, rf_73_0, a_7, p_7, f_7, c_7, a_9, p_9, f_9, c_9, a_11, p_11, f_11, c_11, a_14, p_14, f_14, c_14, a_16, p_16, f_16, c_16, a_18, p_18, f_18, c_18, a_21, p_21, f_21, c_21, a_23, p_23, f_23, c_23, a_25, p_25, f_25, c_25, a_30, p_30, f_30, c_30, a_32, p_32, f_32, c_32, a_34, p_34, f_34, c_34, a_36, p_36, f_36, c_36, a_38, p_38, f_38, c_38, a_40, p_40, f_40, c_40, a_44, p_44, f_44, c_44, a_46, p_46, f_46, c_46, a_48, p_48, f_48, c_48, a_50, p_50, f_50, c_50, a_53, p_53, f_53, c_53, a_55, p_55, f_55, c_55, a_57, p_57, f_57, c_57, a_59, p_59, f_59, c_59, a_61, p_61, f_61, c_61, a_63, p_63, f_63, c_63, a_65, p_65, f_65, c_65, a_67, p_67, f_67, c_67, a_69, p_69, f_69, c_69, a_71, p_71, f_71, c_71, a_73, p_73, f_73, c_73, c_1, i_1, w_1, z0_1, z1_1, c_2, i_2, w_2, z0_2, z1_2, c_4, i_4, w_4, z0_4, z1_4, c_6, i_6, w_6, z0_6, z1_6, c_13, i_13, w_13, z0_13, z1_13, c_20, i_20, w_20, z0_20, z1_20, c_27, i_27, w_27, z0_27, z1_27, c_28, i_28, w_28, z0_28, z1_28, c_29, i_29, w_29, z0_29, z1_29, c_42, i_42, w_42, z0_42, z1_42, c_43, i_43, w_43, z0_43, z1_43, c_52, i_52, w_52, z0_52, z1_52, X1_size, X1_literal, X1_numberOfStep, X1_ofFormula, X1_inAll, X1_user, X9_codeOf, X1_firstUse, X1_endOfUses, X2_open, X2_at, X2_add, X2_drop, X2_clear, X4_fuelLeft, X4_isActive, X4_isMarked, X4_mark, X4_usedCount, X4_usedAt, X4_setActive, X4_forget, X4_truthOf, hst, if_pos, fX9_shorter_38, nI_1]
    exact ih (i + 1) m (by omega) (by omega) (by omega)
theorem GR_4 {I I' X Y : Nat → Nat → Int32} {w : zV} (h : GR I I' w) (a : F4 I X) (b : ∀ q, q ≠ 75 → q ≠ 102 → Y q = I' q) (c : ∀ j, j ≠ 0 → j ≠ 58 → Y 75 j = I' 75 j) (s : SW X Y) : GR X Y w := by
  obtain ⟨nf, ef, wf, df, np, ep, wp, dp, N, sz, lt, h1, h2, h3, h4, h5, h6, h7, h8, h9⟩ := h
  have h1' := h1
  obtain ⟨p1, p2, p3, p4, p5, p6, p7⟩ := h1
  have hf1 : 5 < w.1 := by rcases isSh_i p1 with q | q | q <;> omega
  have hf2 : 5 < w.2.1 := by rcases isSh_i p2 with q | q | q <;> omega
  have hf3 : 5 < w.2.2.1 := by rcases isSh_i p3 with q | q | q <;> omega
  have hM : MFr I' Y := ⟨fun q q1 q2 q3 => b q (by omega) (by omega), fun j hj => c j (by omega) (by omega)⟩
  exact ⟨nf, ef, wf, df, np, ep, wp, dp, N, sz, lt, h1', by rw [a _ (by omega) (by omega)]; exact h2, FSh_G h3 (fun r r1 r2 => a r (by omega) (by omega)) hM, PSh_G h4 (fun r r1 r2 => a r (by omega) (by omega)) hM, DBS_G h5 (F4_CFr hf2 a) hM, TP_G h6 (a 2 (by decide) (by decide)) (a 3 (by decide) (by decide)) (c 2 (by decide) (by decide)) (b 76 (by decide) (by decide)), s, by rw [c 10 (by decide) (by decide), a 1 (by decide) (by decide)]; exact h8, by rw [c 11 (by decide) (by decide), a 1 (by decide) (by decide)]; exact h9⟩
end
section
theorem shorter_call : CALL0 (fX9_shorter 1) (fX10_shorter 75) := by
  intro I I' v v' J J' hG
  have hG' := hG
  have hz := zfu_big
  obtain ⟨nf, ef, wf, df, np, ep, wp, dp, N, sz, lt, h1, h2, h3, h4, h5, h6, h7, h8, h9⟩ := hG
  obtain ⟨p1, p2, p3, p4, p5, p6, p7⟩ := h1
  have hnp := h4.1.1
  have hf5 : 5 < v.2.1 := by rcases isSh_i p2 with q | q | q <;> omega
  generalize hA : up I 4 1 0 = A
  generalize hB : up (up I' 75 0 0) 75 58 0 = B
  have fA : F4 I A := fun a a1 a2 => by rw [← hA, up_ne a1]
  have bB : ∀ q, q ≠ 75 → q ≠ 102 → B q = I' q := fun q q1 _ => by rw [← hB, up_ne q1, up_ne q1]
  have cB : ∀ j, j ≠ 0 → j ≠ 58 → B 75 j = I' 75 j := fun j j1 j2 => by rw [← hB, up_at, vup_n j2, up_at, vup_n j1]
  have hSK : SK A B 0 := ⟨by rw [← hA, up_self]; rfl, by rw [← hB, up_self]; rfl, fun p hp => by omega⟩
  have hM : MFr I' B := ⟨fun q q1 q2 q3 => bB q (by omega) (by omega), fun j hj => cB j (by omega) (by omega)⟩
  have hD : DBS A B v.2.1 N sz lt np nf := DBS_G h5 (F4_CFr hf5 fA) hM
  have A42 : A 42 = I 42 := fA 42 (by decide) (by decide)
  have hSL : SL A v.2.1 np := by
    apply SL_F hf5 _ fA
    intro i s i1 i2 s1 s2 j hj
    have hsz := (SHC_size p2 h4.2.1 h4.1 i1 i2).2.2
    obtain ⟨k1, k2, k3, k4⟩ := h4.1.2.2.2 i i1 i2
    have e : s = ep i - ep (i - 1) := (nI_eq (by omega) (by omega)).mp (by rw [← s2, hsz])
    rw [SHC_lit p2 h4.2.1 h4.1 i1 i2 (by omega)]
    exact k3 _ (by omega) (by omega)
  have hrows : A v.2.2.2.2.2.2 3 = nI np := by rw [p7, fA _ (by omega) (by omega)]; exact h4.2.1.1
  have eC : ∀ la : Int32, (if I 42 8 = -1 then nI np else I 42 8) = la → fX9_shorter 1 (st I v J) = fX9_shorter_17 zfu 1 la 1 (st A v J) := by
    intro la hla
    unfold fX9_shorter fX0_clear fX3_lastStepWeighed
    simp only [bnd_x, gd_0, gd_1, gd_o0, gd_o1, ite_self, rf_1_0, rf_1_1, rf_1_5, rf_1_6, rf_1_7, rf_2_0, rf_4_0, rf_6_0, rf_6_1, rf_6_2, rf_7_0, rf_9_0, rf_11_0, rf_13_0, rf_13_1, rf_13_2, rf_14_0, rf_16_0, rf_18_0, rf_20_0, rf_20_1, rf_20_2, rf_21_0, rf_23_0, rf_25_0, rf_27_0, rf_29_0, rf_29_1, rf_29_2, rf_29_3, rf_29_4, rf_29_5, rf_30_0, rf_32_0, rf_34_0, rf_36_0, rf_38_0, rf_40_0, rf_42_0, rf_42_1, rf_42_2, rf_42_3, rf_43_0, rf_43_1, rf_43_2, rf_44_0, rf_46_0, rf_48_0, rf_50_0, rf_52_0, rf_52_1, rf_52_2, rf_52_3, rf_52_4, rf_52_5, rf_52_6, rf_52_7, rf_52_8, rf_52_9, rf_52_10, rf_52_11, rf_53_0, rf_55_0, rf_57_0, rf_59_0, rf_61_0, rf_63_0, rf_65_0, rf_67_0, rf_69_0, rf_71_0, rf_73_0, a_7, p_7, f_7, c_7, a_9, p_9, f_9, c_9, a_11, p_11, f_11, c_11, a_14, p_14, f_14, c_14, a_16, p_16, f_16, c_16, a_18, p_18, f_18, c_18, a_21, p_21, f_21, c_21, a_23, p_23, f_23, c_23, a_25, p_25, f_25, c_25, a_30, p_30, f_30, c_30, a_32, p_32, f_32, c_32, a_34, p_34, f_34, c_34, a_36, p_36, f_36, c_36, a_38, p_38, f_38, c_38, a_40, p_40, f_40, c_40, a_44, p_44, f_44, c_44, a_46, p_46, f_46, c_46, a_48, p_48, f_48, c_48, a_50, p_50, f_50, c_50, a_53, p_53, f_53, c_53, a_55, p_55, f_55, c_55, a_57, p_57, f_57, c_57, a_59, p_59, f_59, c_59, a_61, p_61, f_61, c_61, a_63, p_63, f_63, c_63, a_65, p_65, f_65, c_65, a_67, p_67, f_67, c_67, a_69, p_69, f_69, c_69, a_71, p_71, f_71, c_71, a_73, p_73, f_73, c_73, c_1, i_1, w_1, z0_1, z1_1, c_2, i_2, w_2, z0_2, z1_2, c_4, i_4, w_4, z0_4, z1_4, c_6, i_6, w_6, z0_6, z1_6, c_13, i_13, w_13, z0_13, z1_13, c_20, i_20, w_20, z0_20, z1_20, c_27, i_27, w_27, z0_27, z1_27, c_28, i_28, w_28, z0_28, z1_28, c_29, i_29, w_29, z0_29, z1_29, c_42, i_42, w_42, z0_42, z1_42, c_43, i_43, w_43, z0_43, z1_43, c_52, i_52, w_52, z0_52, z1_52, X1_size, X1_literal, X1_numberOfStep, X1_ofFormula, X1_inAll, X1_user, X9_codeOf, X1_firstUse, X1_endOfUses, X2_open, X2_at, X2_add, X2_drop, X2_clear, X4_fuelLeft, X4_isActive, X4_isMarked, X4_mark, X4_usedCount, X4_usedAt, X4_setActive, X4_forget, X4_truthOf, hA, A42, X1_steps (show isSh v.2.2.2.2.2.2 = true by rw [p7]; exact p2), hrows]
    rw [← hla]
    split <;> rfl
  have h20 : B 75 20 = nI np := by rw [cB 20 (by decide) (by decide)]; exact h4.2.2.2.1
  rcases hD.2.2.2.2.1 with ⟨w1, w2⟩ | ⟨w1, w2⟩
  · -- weighed
    have h37 : B 75 37 = I 42 8 := by rw [w2.1.2.2.2.2.2, A42]
    have hlast : ∃ la, la ≤ np ∧ (if I 42 8 = -1 then nI np else I 42 8) = nI la := by
      by_cases c : I 42 8 = -1
      · exact ⟨np, Nat.le_refl _, by rw [if_pos c]⟩
      · rcases h5.2.2.2.2.2 with q | ⟨c', c1, c2⟩
        · exact absurd q c
        · exact ⟨c', c1, by rw [if_neg c, c2]⟩
    obtain ⟨la, l1, l2⟩ := hlast
    obtain ⟨I1, I2, k', t1, t2, t3, t4, t5, t6⟩ := shorter_loop (v := v) (v' := v') (J := J) (J' := J') (N := N) (nf := nf) (sz := sz) (lt := lt) (f := v.2.1) (last := la) rfl p7 p2 l1 hnp la 1 zfu zfu 0 A B (by omega) (by omega) (by omega) (by omega) hSK (by omega) hD w1 (by rw [cB 19 (by decide) (by decide)]; exact h3.2.2.2.1) hSL
    rw [show nI 1 = (1 : Int32) from rfl] at t1 t2
    refine ⟨I1, v, nI k', I2, by rw [eC _ l2, t1], ?_, GR_4 hG' (F4_t fA t5) (fun q q1 q2 => by rw [t6.1 q q1 q2, bB q q1 q2]) (fun j j1 j2 => by rw [t6.2 j j2, cB j j1 j2]) ⟨k', by omega, t3.1, t3.2.1, t3.2.2⟩, fun a ha => (F4_t fA t5) a (by omega) (by omega), fun a ha => by rw [t6.1 a (by omega) (by omega), bB a (by omega) (by omega)]⟩
    unfold fX10_shorter fX10_shorter_40
    simp only [bnd_x, gd_0, gd_1, gd_o0, gd_o1, ite_self, rf_75_1, rf_75_3, rf_75_12, rf_75_13, rf_75_14, rf_75_15, rf_75_16, rf_75_17, rf_75_18, rf_75_22, rf_75_23, rf_75_24, rf_75_25, rf_75_31, rf_75_32, rf_75_41, rf_75_42, rf_75_43, rf_75_44, rf_75_45, rf_75_46, rf_75_47, rf_75_48, rf_75_53, rf_75_54, rf_75_55, rf_75_57, c_75, i_75, w_75, z0_75, z1_75, hB, w1, if_neg (show ¬ (1 : Int32) = 0 by decide), h37, h20]
    rw [← t2, ← l2]
    split <;> rfl
  · -- nothing weighed
    have c : I 42 8 = -1 := by rw [← A42]; exact w2.2.2.1
    have t1 := shorter_none (v := v) (J := J) hD.1 w2 hnp np 1 zfu (by omega) (by omega) (by omega)
    rw [show nI 1 = (1 : Int32) from rfl] at t1
    obtain ⟨m, hm⟩ : ∃ m, zfu = m + 1 := ⟨zfu - 1, by omega⟩
    refine ⟨A, v, 0, B, by rw [eC (nI np) (by rw [if_pos c]), t1, hSK.1]; rfl, ?_, GR_4 hG' fA bB cB ⟨0, by omega, hSK.1, hSK.2.1, fun p hp => by omega⟩, fun a ha => fA a (by omega) (by omega), fun a ha => bB a (by omega) (by omega)⟩
    have h58 : B 75 58 = 0 := hSK.2.1
    unfold fX10_shorter fX10_shorter_40
    simp only [bnd_x, gd_0, gd_1, gd_o0, gd_o1, ite_self, rf_75_1, rf_75_3, rf_75_12, rf_75_13, rf_75_14, rf_75_15, rf_75_16, rf_75_17, rf_75_18, rf_75_22, rf_75_23, rf_75_24, rf_75_25, rf_75_31, rf_75_32, rf_75_41, rf_75_42, rf_75_43, rf_75_44, rf_75_45, rf_75_46, rf_75_47, rf_75_48, rf_75_53, rf_75_54, rf_75_55, rf_75_57, c_75, i_75, w_75, z0_75, z1_75, hB, w1, if_pos, hm]
    conv => lhs; unfold fX10_shorter_43
    rw [if_pos (show (0 : Int32) < 1 by decide)]
    simp only [bnd_x, gd_0, gd_1, gd_o0, gd_o1, ite_self, rf_75_1, rf_75_3, rf_75_12, rf_75_13, rf_75_14, rf_75_15, rf_75_16, rf_75_17, rf_75_18, rf_75_22, rf_75_23, rf_75_24, rf_75_25, rf_75_31, rf_75_32, rf_75_41, rf_75_42, rf_75_43, rf_75_44, rf_75_45, rf_75_46, rf_75_47, rf_75_48, rf_75_53, rf_75_54, rf_75_55, rf_75_57, c_75, i_75, w_75, z0_75, z1_75, h58]
/-- bytes of the shorter proof are copied -/
def tks (I : Nat → Nat → Int32) (n : Nat) : Nat → Nat → Int32 := up (up (up (up (up (up (up I 75 4 (nI n)) 75 26 0) 75 27 0) 75 28 0) 75 30 150) 75 8 0) 75 5 0
theorem tks_f {I : Nat → Nat → Int32} {n : Nat} : (∀ a, a ≠ 75 → tks I n a = I a) ∧ tks I n 75 4 = nI n ∧ tks I n 75 26 = 0 ∧ tks I n 75 27 = 0 ∧ tks I n 75 28 = 0 ∧ tks I n 75 30 = 150 ∧ tks I n 75 8 = 0 ∧ tks I n 75 5 = 0 ∧ (∀ j, j ∉ [4, 5, 8, 26, 27, 28, 30] → tks I n 75 j = I 75 j) := by
  unfold tks
  refine ⟨fun a ha => by rw [up_ne ha, up_ne ha, up_ne ha, up_ne ha, up_ne ha, up_ne ha, up_ne ha], ?_, ?_, ?_, ?_, ?_, ?_, ?_, fun j hj => ?_⟩
  · simp [up]
  · simp [up]
  · simp [up]
  · simp [up]
  · simp [up]
  · simp [up]
  · simp [up]
  · have k : ∀ q, q ∈ [4, 5, 8, 26, 27, 28, 30] → j ≠ q := fun q hq e => hj (e ▸ hq)
    rw [up_at, vup_n (k 5 (by decide)), up_at, vup_n (k 8 (by decide)), up_at, vup_n (k 30 (by decide)), up_at, vup_n (k 28 (by decide)), up_at, vup_n (k 27 (by decide)), up_at, vup_n (k 26 (by decide)), up_at, vup_n (k 4 (by decide))]
theorem tsh_loop {v : zV} {J : Nat → Nat → Int64} {n : Nat} (hn : n ≤ 6000) : ∀ (d p m : Nat) (I : Nat → Nat → Int32), p + d = n → d < m → I 75 58 = nI n →
    ∃ I1, fX10_takeShorter_19 m 75 (nI p) (st I v J) = (bnd (fX10_readText 75 (st (tks I1 n) v J)) fun q19 => bnd (cl q19 10 75 (fX10_becomesProof 75 q19)) fun q22 => bnd (qI q22 10 75 20) fun x25 => some (x25, q22)) ∧ (∀ q, p ≤ q → q < n → I1 77 q = I 102 q) ∧ (∀ q, q < p → I1 77 q = I 77 q) ∧ (∀ a, a ≠ 77 → I1 a = I a) := by
  intro d
  induction d with
  | zero =>
    intro p m I hp hm h58
    obtain ⟨m, rfl⟩ : ∃ q, m = q + 1 := ⟨m - 1, by omega⟩
    refine ⟨I, ?_, fun q q1 q2 => by omega, fun _ _ => rfl, fun _ _ => rfl⟩
    conv => lhs; unfold fX10_takeShorter_19
    simp only [bnd_x, gd_0, gd_1, gd_o0, gd_o1, ite_self, rf_75_1, rf_75_3, rf_75_12, rf_75_13, rf_75_14, rf_75_15, rf_75_16, rf_75_17, rf_75_18, rf_75_22, rf_75_23, rf_75_24, rf_75_25, rf_75_31, rf_75_32, rf_75_41, rf_75_42, rf_75_43, rf_75_44, rf_75_45, rf_75_46, rf_75_47, rf_75_48, rf_75_53, rf_75_54, rf_75_55, rf_75_57, c_75, i_75, w_75, z0_75, z1_75, h58, if_pos (nI_le (show n ≤ p by omega) (show p < 2 ^ 31 by omega)), beginRead_ok]
    rfl
  | succ d ih =>
    intro p m I hp hm h58
    obtain ⟨m, rfl⟩ : ∃ q, m = q + 1 := ⟨m - 1, by omega⟩
    obtain ⟨I1, f1, f2, f3, f4⟩ := ih (p + 1) m (up I 77 p (I 102 p)) (by omega) (by omega) (by rw [up_ne (by decide)]; exact h58)
    refine ⟨I1, ?_, ?_, ?_, fun a ha => by rw [f4 a ha, up_ne ha]⟩
    · conv => lhs; unfold fX10_takeShorter_19
      simp only [bnd_x, gd_0, gd_1, gd_o0, gd_o1, ite_self, rf_75_1, rf_75_3, rf_75_12, rf_75_13, rf_75_14, rf_75_15, rf_75_16, rf_75_17, rf_75_18, rf_75_22, rf_75_23, rf_75_24, rf_75_25, rf_75_31, rf_75_32, rf_75_41, rf_75_42, rf_75_43, rf_75_44, rf_75_45, rf_75_46, rf_75_47, rf_75_48, rf_75_53, rf_75_54, rf_75_55, rf_75_57, c_75, i_75, w_75, z0_75, z1_75, h58, if_neg (nI_ge (show p < n by omega) (show n < 2 ^ 31 by omega)), qa_102 (show p < 6000 by omega), ua_77 (show p < 6000 by omega), nI_1]
      exact f1
    · intro q q1 q2
      by_cases c : q = p
      · subst c; rw [f3 q (by omega), up_self]
      · rw [f2 q (by omega) q2, up_ne (by decide)]
    · intro q hq
      rw [f3 q (by omega), up_at, vup_n (by omega)]
theorem take_call : CALL0 (fX9_takeShorter 1) (fX10_takeShorter 75) := by
  intro I I' v v' J J' hG
  have hG' := hG
  have hz := zfu_big
  obtain ⟨nf, ef, wf, df, np, ep, wp, dp, N, sz, lt, h1, h2, h3, h4, h5, h6, ⟨sw, s1, s2, s3, s4⟩, h8, h9⟩ := hG
  obtain ⟨p1, p2, p3, p4, p5, p6, p7⟩ := h1
  have hf1 : v.1 + 6 < 27 ∧ 5 < v.1 := by rcases isSh_i p1 with q | q | q <;> omega
  have hf2 : v.2.1 + 6 < 27 ∧ 5 < v.2.1 := by rcases isSh_i p2 with q | q | q <;> omega
  have hf3 : v.2.2.1 + 6 < 27 ∧ 5 < v.2.2.1 := by rcases isSh_i p3 with q | q | q <;> omega
  have n3 : v.2.2.1 ≠ 0 := by omega
  have hkept := kept_ok (v := v) (J := J) s2 s1
  have e58 : up I' 75 0 0 75 58 = nI sw := by rw [up_at, vup_n (by decide)]; exact s3
  by_cases c : sw ≤ 6000
  · rw [Nat.min_eq_left c] at hkept
    have le1 : nI sw ≤ nI sw := nI_le (Nat.le_refl _) (by omega)
    have le2 : nI sw ≤ (6000 : Int32) := nI_le (b := 6000) c (by decide)
    obtain ⟨M, m1, m2, m3, m4⟩ := tsh_loop (v := v') (J := J') c sw 0 zfu (up I' 75 0 0) (by omega) (by omega) e58
    rw [nI_0] at m1
    have hMT : ∀ p, p < sw → M 77 p = I' 102 p := fun p hp => by rw [m2 p (by omega) hp, up_ne (by decide)]
    have hBT : BT I 4 (I' 102) sw := ⟨sw, by omega, s2, Nat.le_refl _, c, fun p hp => s4 p hp (by omega)⟩
    -- the reading
    have hb4 : isB 4 = true := rfl
    obtain ⟨g1, g2, g3, g4, g5, g6, g7, g8, g9, g10⟩ := bgn_f (f := v.2.2.1) (I := I) (n := sw) p3
    obtain ⟨t1, t2, t4, t5, t6, t7, t8, t9, t10⟩ := tks_f (I := M) (n := sw)
    have hRC : RCl (bgn I v.2.2.1 sw) (tks M sw) v.2.2.1 0 (fun _ => 0) (fun _ => 0) (fun _ => false) := by
      refine ⟨⟨by omega, rfl, Nat.zero_le _, fun i i1 i2 => by omega⟩, ⟨g9, g10, fun i hi => ?_, fun p hp => by simp at hp, fun i i1 i2 => by omega⟩, ⟨fun i i1 i2 => by omega, fun p hp => by simp at hp⟩, t4, t5, fun i i1 i2 => by omega⟩
      rw [show i = 0 by omega, g1 (v.2.2.1 + 4) (by omega) (by omega) (by omega)]; exact h2
    have hCS : CS (bgn I v.2.2.1 sw) 4 (I' 102) sw := ⟨BT_fr hBT (g1 4 (by omega) (by omega) (by omega)) (g1 5 (by omega) (by omega) (by omega)), g2, g4⟩
    have hRT : RT (tks M sw) (I' 102) sw := ⟨c, t2, fun p hp => by rw [t1 77 (by decide)]; exact hMT p hp⟩
    obtain ⟨I1, I2, n', e, w, d, k1, k2, k3, k4, k5, k6⟩ := text_loop (v := vB v 4 v.2.2.1) (v' := v') (J := J) (J' := J') (b := 4) (f := v.2.2.1) ⟨rfl, rfl, rfl, hb4, p3⟩ 300 0 zfu zfu 0 0 (bgn I v.2.2.1 sw) (tks M sw) _ _ _ (by omega) (by omega) (by omega) ⟨hRC, hCS, hRT, g7, g8, t8, g6, t6, by omega, by omega, by omega, g3, t9⟩ t7
    have frX : ∀ a, a ≠ 27 → a ≠ 28 → (a < v.2.2.1 ∨ v.2.2.1 + 6 < a) → I1 a = I a := fun a a1 a2 a3 => by rw [k5.1 a a1 a2 (by omega) (by omega) (by omega) (by omega), g1 a a1 a2 (by omega)]
    have frM : ∀ a, a ≠ 75 → a ≠ 77 → ¬ (85 ≤ a ∧ a ≤ 88) → I2 a = I' a := fun a a1 a2 a3 => by rw [k6.1 a a1 (by omega) (by omega) (by omega) (by omega), t1 a a1, m4 a a2, up_ne a1]
    have fr75 : ∀ j, (0 < j ∧ j < 4) ∨ (9 < j ∧ j < 26) ∨ 30 < j → I2 75 j = I' 75 j := fun j hj => by
      rw [k6.2 j (by omega), t10 j (by simp only [List.mem_cons, List.not_mem_nil, or_false]; omega), m4 75 (by decide), up_at, vup_n (by omega)]
    have hMF : MFr I' I2 := ⟨fun a a1 a2 a3 => frM a (by omega) (by omega) a3, fun j hj => fr75 j (by omega)⟩
    have hFX : FSh I1 I2 v.1 nf ef wf df := FSh_G h3 (fun r x1 x2 => frX r (by omega) (by omega) (sh_dis p1 p3 p5 x1 x2)) hMF
    obtain ⟨Xz, Mz, N', sz', lt', q1, q2, q3, q4, q5, q6, q7, q8, q9⟩ := spare_lock (w := vB v 4 v.2.2.1) (v' := v') (J := J) (J' := J') p1 p2 p3 hFX k3 (by rw [frX 33 (by decide) (by decide) (by omega)]; exact h5.2.2.2.1) (by
      show I1 (v.2.1 + 4) 0 = 0
      rw [frX (v.2.1 + 4) (by omega) (by omega) (sh_dis p2 p3 p6 (by omega) (by omega)), h4.2.1.2.2.1 0 (by omega), h4.1.2.1]; rfl)
    have hrow : Xz v.2.2.1 3 = nI n' := q4.2.1.1
    have h20 : Mz 75 20 = nI n' := q4.2.2.2.1
    refine ⟨Xz, (v.1, v.2.2.1, v.2.1, 4, v.2.2.1, 4, v.2.2.1), nI n', Mz, ?_, ?_, ⟨nf, ef, wf, df, n', e, w, d, N', sz', lt', ⟨p1, p3, p2, p5, p4, Ne.symm p6, rfl⟩, q6, q3, q4, q5, ?_, ?_, ?_, ?_⟩, ?_, ?_⟩
    · have hrd : fX5_readTextProof 27 4 (nI sw) v.2.2.1 (st I v J) = some (st I1 (vB v 4 v.2.2.1) J) := by
        unfold fX5_readTextProof
        simp only [bnd_x, gd_0, gd_1, gd_o0, gd_o1, ite_self, rf_1_0, rf_1_1, rf_1_5, rf_1_6, rf_1_7, rf_2_0, rf_4_0, rf_6_0, rf_6_1, rf_6_2, rf_7_0, rf_9_0, rf_11_0, rf_13_0, rf_13_1, rf_13_2, rf_14_0, rf_16_0, rf_18_0, rf_20_0, rf_20_1, rf_20_2, rf_21_0, rf_23_0, rf_25_0, rf_27_0, rf_29_0, rf_29_1, rf_29_2, rf_29_3, rf_29_4, rf_29_5, rf_30_0, rf_32_0, rf_34_0, rf_36_0, rf_38_0, rf_40_0, rf_42_0, rf_42_1, rf_42_2, rf_42_3, rf_43_0, rf_43_1, rf_43_2, rf_44_0, rf_46_0, rf_48_0, rf_50_0, rf_52_0, rf_52_1, rf_52_2, rf_52_3, rf_52_4, rf_52_5, rf_52_6, rf_52_7, rf_52_8, rf_52_9, rf_52_10, rf_52_11, rf_53_0, rf_55_0, rf_57_0, rf_59_0, rf_61_0, rf_63_0, rf_65_0, rf_67_0, rf_69_0, rf_71_0, rf_73_0, a_7, p_7, f_7, c_7, a_9, p_9, f_9, c_9, a_11, p_11, f_11, c_11, a_14, p_14, f_14, c_14, a_16, p_16, f_16, c_16, a_18, p_18, f_18, c_18, a_21, p_21, f_21, c_21, a_23, p_23, f_23, c_23, a_25, p_25, f_25, c_25, a_30, p_30, f_30, c_30, a_32, p_32, f_32, c_32, a_34, p_34, f_34, c_34, a_36, p_36, f_36, c_36, a_38, p_38, f_38, c_38, a_40, p_40, f_40, c_40, a_44, p_44, f_44, c_44, a_46, p_46, f_46, c_46, a_48, p_48, f_48, c_48, a_50, p_50, f_50, c_50, a_53, p_53, f_53, c_53, a_55, p_55, f_55, c_55, a_57, p_57, f_57, c_57, a_59, p_59, f_59, c_59, a_61, p_61, f_61, c_61, a_63, p_63, f_63, c_63, a_65, p_65, f_65, c_65, a_67, p_67, f_67, c_67, a_69, p_69, f_69, c_69, a_71, p_71, f_71, c_71, a_73, p_73, f_73, c_73, c_1, i_1, w_1, z0_1, z1_1, c_2, i_2, w_2, z0_2, z1_2, c_4, i_4, w_4, z0_4, z1_4, c_6, i_6, w_6, z0_6, z1_6, c_13, i_13, w_13, z0_13, z1_13, c_20, i_20, w_20, z0_20, z1_20, c_27, i_27, w_27, z0_27, z1_27, c_28, i_28, w_28, z0_28, z1_28, c_29, i_29, w_29, z0_29, z1_29, c_42, i_42, w_42, z0_42, z1_42, c_43, i_43, w_43, z0_43, z1_43, c_52, i_52, w_52, z0_52, z1_52, X1_size, X1_literal, X1_numberOfStep, X1_ofFormula, X1_inAll, X1_user, X9_codeOf, X1_firstUse, X1_endOfUses, X2_open, X2_at, X2_add, X2_drop, X2_clear, X4_fuelLeft, X4_isActive, X4_isMarked, X4_mark, X4_usedCount, X4_usedAt, X4_setActive, X4_forget, X4_truthOf, begin_r hb4 p3]
        exact k1
      have qv : qR (st Xz ((vB v 4 v.2.2.1).1, (vB v 4 v.2.2.1).2.2.1, (vB v 4 v.2.2.1).2.1, (vB v 4 v.2.2.1).2.2.2.1, (vB v 4 v.2.2.1).2.2.2.2.1, (vB v 4 v.2.2.1).2.2.2.2.2.1, (vB v 4 v.2.2.1).2.2.1) J) 9 1 3 = some v.2.2.1 := rv_1_3 (v := ((vB v 4 v.2.2.1).1, (vB v 4 v.2.2.1).2.2.1, (vB v 4 v.2.2.1).2.1, (vB v 4 v.2.2.1).2.2.2.1, (vB v 4 v.2.2.1).2.2.2.2.1, (vB v 4 v.2.2.1).2.2.2.2.2.1, (vB v 4 v.2.2.1).2.2.1)) n3
      unfold fX9_takeShorter fX0_written
      simp only [bnd_x, gd_0, gd_1, gd_o0, gd_o1, ite_self, rf_1_0, rf_1_1, rf_1_5, rf_1_6, rf_1_7, rf_2_0, rf_4_0, rf_6_0, rf_6_1, rf_6_2, rf_7_0, rf_9_0, rf_11_0, rf_13_0, rf_13_1, rf_13_2, rf_14_0, rf_16_0, rf_18_0, rf_20_0, rf_20_1, rf_20_2, rf_21_0, rf_23_0, rf_25_0, rf_27_0, rf_29_0, rf_29_1, rf_29_2, rf_29_3, rf_29_4, rf_29_5, rf_30_0, rf_32_0, rf_34_0, rf_36_0, rf_38_0, rf_40_0, rf_42_0, rf_42_1, rf_42_2, rf_42_3, rf_43_0, rf_43_1, rf_43_2, rf_44_0, rf_46_0, rf_48_0, rf_50_0, rf_52_0, rf_52_1, rf_52_2, rf_52_3, rf_52_4, rf_52_5, rf_52_6, rf_52_7, rf_52_8, rf_52_9, rf_52_10, rf_52_11, rf_53_0, rf_55_0, rf_57_0, rf_59_0, rf_61_0, rf_63_0, rf_65_0, rf_67_0, rf_69_0, rf_71_0, rf_73_0, a_7, p_7, f_7, c_7, a_9, p_9, f_9, c_9, a_11, p_11, f_11, c_11, a_14, p_14, f_14, c_14, a_16, p_16, f_16, c_16, a_18, p_18, f_18, c_18, a_21, p_21, f_21, c_21, a_23, p_23, f_23, c_23, a_25, p_25, f_25, c_25, a_30, p_30, f_30, c_30, a_32, p_32, f_32, c_32, a_34, p_34, f_34, c_34, a_36, p_36, f_36, c_36, a_38, p_38, f_38, c_38, a_40, p_40, f_40, c_40, a_44, p_44, f_44, c_44, a_46, p_46, f_46, c_46, a_48, p_48, f_48, c_48, a_50, p_50, f_50, c_50, a_53, p_53, f_53, c_53, a_55, p_55, f_55, c_55, a_57, p_57, f_57, c_57, a_59, p_59, f_59, c_59, a_61, p_61, f_61, c_61, a_63, p_63, f_63, c_63, a_65, p_65, f_65, c_65, a_67, p_67, f_67, c_67, a_69, p_69, f_69, c_69, a_71, p_71, f_71, c_71, a_73, p_73, f_73, c_73, c_1, i_1, w_1, z0_1, z1_1, c_2, i_2, w_2, z0_2, z1_2, c_4, i_4, w_4, z0_4, z1_4, c_6, i_6, w_6, z0_6, z1_6, c_13, i_13, w_13, z0_13, z1_13, c_20, i_20, w_20, z0_20, z1_20, c_27, i_27, w_27, z0_27, z1_27, c_28, i_28, w_28, z0_28, z1_28, c_29, i_29, w_29, z0_29, z1_29, c_42, i_42, w_42, z0_42, z1_42, c_43, i_43, w_43, z0_43, z1_43, c_52, i_52, w_52, z0_52, z1_52, X1_size, X1_literal, X1_numberOfStep, X1_ofFormula, X1_inAll, X1_user, X9_codeOf, X1_firstUse, X1_endOfUses, X2_open, X2_at, X2_add, X2_drop, X2_clear, X4_fuelLeft, X4_isActive, X4_isMarked, X4_mark, X4_usedCount, X4_usedAt, X4_setActive, X4_forget, X4_truthOf, s2, hkept, if_pos le1, rv_1_4 n3, hrd, q1, qv, cl_st (sh_f p3).1, X7_rows p3, hrow]
      rfl
    · have hrt : fX10_readText 75 (st (tks M sw) v' J') = some (st I2 v' J') := by unfold fX10_readText; exact k2
      unfold fX10_takeShorter
      simp only [bnd_x, gd_0, gd_1, gd_o0, gd_o1, ite_self, rf_75_1, rf_75_3, rf_75_12, rf_75_13, rf_75_14, rf_75_15, rf_75_16, rf_75_17, rf_75_18, rf_75_22, rf_75_23, rf_75_24, rf_75_25, rf_75_31, rf_75_32, rf_75_41, rf_75_42, rf_75_43, rf_75_44, rf_75_45, rf_75_46, rf_75_47, rf_75_48, rf_75_53, rf_75_54, rf_75_55, rf_75_57, c_75, i_75, w_75, z0_75, z1_75, e58, if_pos le2, m1, hrt, q2, h20]
    · exact TP_G h6 (by rw [q7 2 (by omega), frX 2 (by decide) (by decide) (by omega)]) (by rw [q7 3 (by omega), frX 3 (by decide) (by decide) (by omega)]) (by rw [q8 2 (by decide) (by decide) (by decide), fr75 2 (by omega)]) (by rw [q9 76 (by decide) (by decide) (by decide) (by decide) (by decide) (by decide) (by decide), frM 76 (by decide) (by decide) (by omega)])
    · refine ⟨sw, s1, ?_, ?_, ?_⟩
      · rw [q7 4 (by omega), frX 4 (by decide) (by decide) (by omega)]; exact s2
      · rw [q8 58 (by decide) (by decide) (by decide), fr75 58 (by omega)]; exact s3
      · rw [q7 5 (by omega), frX 5 (by decide) (by decide) (by omega), q9 102 (by decide) (by decide) (by decide) (by decide) (by decide) (by decide) (by decide), frM 102 (by decide) (by decide) (by omega)]; exact s4
    · rw [q8 10 (by decide) (by decide) (by decide), fr75 10 (by omega), q7 1 (by omega), frX 1 (by decide) (by decide) (by omega)]; exact h8
    · rw [q8 11 (by decide) (by decide) (by decide), fr75 11 (by omega), q7 1 (by omega), frX 1 (by decide) (by decide) (by omega)]; exact h9
    · intro a ha; rw [q7 a (by omega), frX a (by omega) (by omega) (by omega)]
    · intro a ha; rw [q9 a (by omega) (by omega) (by omega) (by omega) (by omega) (by omega) (by omega), frM a (by omega) (by omega) (by omega)]
  · rw [Nat.min_eq_right (by omega)] at hkept
    have nle1 : ¬ nI sw ≤ nI 6000 := nI_ge (by omega) (by omega)
    refine ⟨I, v, -1, up I' 75 0 0, ?_, ?_, GR_0 hG' 0, fun _ _ => rfl, fun a ha => up_ne (by omega)⟩
    · unfold fX9_takeShorter fX0_written
      simp only [bnd_x, gd_0, gd_1, gd_o0, gd_o1, ite_self, rf_1_0, rf_1_1, rf_1_5, rf_1_6, rf_1_7, rf_2_0, rf_4_0, rf_6_0, rf_6_1, rf_6_2, rf_7_0, rf_9_0, rf_11_0, rf_13_0, rf_13_1, rf_13_2, rf_14_0, rf_16_0, rf_18_0, rf_20_0, rf_20_1, rf_20_2, rf_21_0, rf_23_0, rf_25_0, rf_27_0, rf_29_0, rf_29_1, rf_29_2, rf_29_3, rf_29_4, rf_29_5, rf_30_0, rf_32_0, rf_34_0, rf_36_0, rf_38_0, rf_40_0, rf_42_0, rf_42_1, rf_42_2, rf_42_3, rf_43_0, rf_43_1, rf_43_2, rf_44_0, rf_46_0, rf_48_0, rf_50_0, rf_52_0, rf_52_1, rf_52_2, rf_52_3, rf_52_4, rf_52_5, rf_52_6, rf_52_7, rf_52_8, rf_52_9, rf_52_10, rf_52_11, rf_53_0, rf_55_0, rf_57_0, rf_59_0, rf_61_0, rf_63_0, rf_65_0, rf_67_0, rf_69_0, rf_71_0, rf_73_0, a_7, p_7, f_7, c_7, a_9, p_9, f_9, c_9, a_11, p_11, f_11, c_11, a_14, p_14, f_14, c_14, a_16, p_16, f_16, c_16, a_18, p_18, f_18, c_18, a_21, p_21, f_21, c_21, a_23, p_23, f_23, c_23, a_25, p_25, f_25, c_25, a_30, p_30, f_30, c_30, a_32, p_32, f_32, c_32, a_34, p_34, f_34, c_34, a_36, p_36, f_36, c_36, a_38, p_38, f_38, c_38, a_40, p_40, f_40, c_40, a_44, p_44, f_44, c_44, a_46, p_46, f_46, c_46, a_48, p_48, f_48, c_48, a_50, p_50, f_50, c_50, a_53, p_53, f_53, c_53, a_55, p_55, f_55, c_55, a_57, p_57, f_57, c_57, a_59, p_59, f_59, c_59, a_61, p_61, f_61, c_61, a_63, p_63, f_63, c_63, a_65, p_65, f_65, c_65, a_67, p_67, f_67, c_67, a_69, p_69, f_69, c_69, a_71, p_71, f_71, c_71, a_73, p_73, f_73, c_73, c_1, i_1, w_1, z0_1, z1_1, c_2, i_2, w_2, z0_2, z1_2, c_4, i_4, w_4, z0_4, z1_4, c_6, i_6, w_6, z0_6, z1_6, c_13, i_13, w_13, z0_13, z1_13, c_20, i_20, w_20, z0_20, z1_20, c_27, i_27, w_27, z0_27, z1_27, c_28, i_28, w_28, z0_28, z1_28, c_29, i_29, w_29, z0_29, z1_29, c_42, i_42, w_42, z0_42, z1_42, c_43, i_43, w_43, z0_43, z1_43, c_52, i_52, w_52, z0_52, z1_52, X1_size, X1_literal, X1_numberOfStep, X1_ofFormula, X1_inAll, X1_user, X9_codeOf, X1_firstUse, X1_endOfUses, X2_open, X2_at, X2_add, X2_drop, X2_clear, X4_fuelLeft, X4_isActive, X4_isMarked, X4_mark, X4_usedCount, X4_usedAt, X4_setActive, X4_forget, X4_truthOf, s2, hkept, if_neg nle1]
    · unfold fX10_takeShorter
      simp only [bnd_x, gd_0, gd_1, gd_o0, gd_o1, ite_self, rf_75_1, rf_75_3, rf_75_12, rf_75_13, rf_75_14, rf_75_15, rf_75_16, rf_75_17, rf_75_18, rf_75_22, rf_75_23, rf_75_24, rf_75_25, rf_75_31, rf_75_32, rf_75_41, rf_75_42, rf_75_43, rf_75_44, rf_75_45, rf_75_46, rf_75_47, rf_75_48, rf_75_53, rf_75_54, rf_75_55, rf_75_57, c_75, i_75, w_75, z0_75, z1_75, e58, if_neg (show ¬ nI sw ≤ (6000 : Int32) from nle1)]
end
