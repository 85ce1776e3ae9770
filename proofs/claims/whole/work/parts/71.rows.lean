/-! A row of a text: class and reference. -/
section
variable {f n : Nat} {e : Nat → Nat} {d : Nat → Bool} {T : Nat → Int32} {L : Nat}
def CS (I : Nat → Nat → Int32) (b : Nat) (T : Nat → Int32) (L : Nat) : Prop := BT I b T L ∧ I 28 1 = nI L ∧ I 27 3 = nI L
theorem B_f {b : Nat} (hb : isB b = true) (hf : isSh f = true) : b ≠ 27 ∧ b ≠ 28 ∧ b + 1 ≠ 27 ∧ b + 1 ≠ 28 ∧ b + 1 < f ∧ f + 6 < 27 ∧ b ≠ 0 := by
  rcases isB_i hb with rfl | rfl <;> rcases isSh_i hf with rfl | rfl | rfl <;> decide
theorem CS_fr {I I1 : Nat → Nat → Int32} {b : Nat} (hb : isB b = true) (hf : isSh f = true) (h : CS I b T L) (a : FCr I I1 f) : CS I1 b T L := by
  obtain ⟨b1, b2, b3, b4, b5, b6, b7⟩ := B_f hb hf
  exact ⟨BT_fr h.1 (a.1 b b1 b2 (by omega) (by omega) (by omega) (by omega)) (a.1 (b + 1) b3 b4 (by omega) (by omega) (by omega) (by omega)), a.2.2.1.trans h.2.1, a.2.1.trans h.2.2⟩
theorem RT_F {I I1 : Nat → Nat → Int32} (h : RT I T L) (a : FMr I I1) : RT I1 T L := RT_fr h (a.2 4 (by omega)) (a.1 77 (by decide) (by decide) (by decide) (by decide) (by decide))
theorem RO_fr {I I' I1 I2 : Nat → Nat → Int32} {w : Nat → Int32} {g r t : Nat} (h : RO I I' f n e w d g r t) (a : ∀ q, q ≠ 28 → I1 q = I q) (hf : f + 6 < 27) (b75 : ∀ j, 26 ≤ j → j ≤ 29 → I2 75 j = I' 75 j) (b : ∀ q, q ≠ 75 → I2 q = I' q) : RO I1 I2 f n e w d g r t := by
  obtain ⟨h1, ⟨h2, h3, h4, h5⟩, h6⟩ := h
  exact ⟨RF_fr h1 (a _ (by omega)) (a _ (by omega)) (a _ (by omega)) (a _ (by omega)) (b75 _ (by decide) (by decide)) (b75 _ (by decide) (by decide)) (b _ (by decide)) (b _ (by decide)) (b _ (by decide)) (b _ (by decide)), ⟨by rw [a 27 (by decide)]; exact h2, by rw [a 27 (by decide)]; exact h3, by rw [b75 28 (by decide) (by decide)]; exact h4, by rw [b75 29 (by decide) (by decide)]; exact h5⟩, h6⟩
theorem tk_ne {I : Nat → Nat → Int32} {P q : Nat} (h : q ≠ 28) : tk I T L P q = I q := by unfold tk; rw [up_ne h, up_ne h]
theorem tk_28 {I : Nat → Nat → Int32} {P : Nat} : tk I T L P 28 2 = nI P ∧ tk I T L P 28 3 = nI (en T L P) ∧ tk I T L P 28 1 = I 28 1 := by
  unfold tk
  exact ⟨by rw [up_at, vup_n (by decide), up_self], by rw [up_self], by rw [up_at, vup_n (by decide), up_at, vup_n (by decide)]⟩
theorem tk_F {I : Nat → Nat → Int32} {P : Nat} (hf : isSh f = true) : FCr I (tk I T L P) f := FCr_t (FCr_28 hf (by decide)) (FCr_28 hf (by decide))
theorem tm_ne {I : Nat → Nat → Int32} {P q : Nat} (h : q ≠ 75) : tm I T L P q = I q := by unfold tm; rw [up_ne h, up_ne h, up_ne h]
theorem tm_75 {I : Nat → Nat → Int32} {P : Nat} : tm I T L P 75 6 = nI P ∧ tm I T L P 75 5 = nI (en T L P) ∧ tm I T L P 75 7 = nI (en T L P) ∧ ∀ j, j ≠ 5 → j ≠ 6 → j ≠ 7 → tm I T L P 75 j = I 75 j := by
  unfold tm
  refine ⟨?_, ?_, by rw [up_self], fun j j1 j2 j3 => by rw [up_at, vup_n j3, up_at, vup_n j1, up_at, vup_n j2]⟩
  · rw [up_at, vup_n (by decide), up_at, vup_n (by decide), up_self]
  · rw [up_at, vup_n (by decide), up_self]
theorem tm_F {I : Nat → Nat → Int32} {P : Nat} : FMr I (tm I T L P) := FMr_t (FMr_t (FMr_75 (by omega)) (FMr_75 (by omega))) (FMr_75 (by omega))
theorem fault_c {v : zV} {J : Nat → Nat → Int64} {I : Nat → Nat → Int32} {b P E : Nat} (hv : v.2.2.2.2.2.1 = b) (hb : isB b = true) (hT : BT I b T L) (h2 : I 28 2 = nI P) (h3 : I 28 3 = nI E) (hPE : P < E) (hE : E ≤ L) (bd : Int32) : fX5_faultOfToken 27 bd (st I v J) = some (if okN T P E = true then (if zab (vN T P E) ≤ bd then 0 else 2) else 1, st I v J) := by
  unfold fX5_faultOfToken
  simp only [bnd_x, gd_0, gd_1, gd_o0, gd_o1, ite_self, rf_1_0, rf_1_1, rf_1_5, rf_1_6, rf_1_7, rf_2_0, rf_4_0, rf_6_0, rf_6_1, rf_6_2, rf_7_0, rf_9_0, rf_11_0, rf_13_0, rf_13_1, rf_13_2, rf_14_0, rf_16_0, rf_18_0, rf_20_0, rf_20_1, rf_20_2, rf_21_0, rf_23_0, rf_25_0, rf_27_0, rf_29_0, rf_29_1, rf_29_2, rf_29_3, rf_29_4, rf_29_5, rf_30_0, rf_32_0, rf_34_0, rf_36_0, rf_38_0, rf_40_0, rf_42_0, rf_42_1, rf_42_2, rf_42_3, rf_43_0, rf_43_1, rf_43_2, rf_44_0, rf_46_0, rf_48_0, rf_50_0, rf_52_0, rf_52_1, rf_52_2, rf_52_3, rf_52_4, rf_52_5, rf_52_6, rf_52_7, rf_52_8, rf_52_9, rf_52_10, rf_52_11, rf_53_0, rf_55_0, rf_57_0, rf_59_0, rf_61_0, rf_63_0, rf_65_0, rf_67_0, rf_69_0, rf_71_0, rf_73_0, a_7, p_7, f_7, c_7, a_9, p_9, f_9, c_9, a_11, p_11, f_11, c_11, a_14, p_14, f_14, c_14, a_16, p_16, f_16, c_16, a_18, p_18, f_18, c_18, a_21, p_21, f_21, c_21, a_23, p_23, f_23, c_23, a_25, p_25, f_25, c_25, a_30, p_30, f_30, c_30, a_32, p_32, f_32, c_32, a_34, p_34, f_34, c_34, a_36, p_36, f_36, c_36, a_38, p_38, f_38, c_38, a_40, p_40, f_40, c_40, a_44, p_44, f_44, c_44, a_46, p_46, f_46, c_46, a_48, p_48, f_48, c_48, a_50, p_50, f_50, c_50, a_53, p_53, f_53, c_53, a_55, p_55, f_55, c_55, a_57, p_57, f_57, c_57, a_59, p_59, f_59, c_59, a_61, p_61, f_61, c_61, a_63, p_63, f_63, c_63, a_65, p_65, f_65, c_65, a_67, p_67, f_67, c_67, a_69, p_69, f_69, c_69, a_71, p_71, f_71, c_71, a_73, p_73, f_73, c_73, c_1, i_1, w_1, z0_1, z1_1, c_2, i_2, w_2, z0_2, z1_2, c_4, i_4, w_4, z0_4, z1_4, c_6, i_6, w_6, z0_6, z1_6, c_13, i_13, w_13, z0_13, z1_13, c_20, i_20, w_20, z0_20, z1_20, c_27, i_27, w_27, z0_27, z1_27, c_28, i_28, w_28, z0_28, z1_28, c_29, i_29, w_29, z0_29, z1_29, c_42, i_42, w_42, z0_42, z1_42, c_43, i_43, w_43, z0_43, z1_43, c_52, i_52, w_52, z0_52, z1_52, X1_size, X1_literal, X1_numberOfStep, X1_ofFormula, X1_inAll, X1_user, X9_codeOf, X1_firstUse, X1_endOfUses, X2_open, X2_at, X2_add, X2_drop, X2_clear, X4_fuelLeft, X4_isActive, X4_isMarked, X4_mark, X4_usedCount, X4_usedAt, X4_setActive, X4_forget, X4_truthOf, isNum_c hv hb hT h2 h3 hPE hE, num_c hv hb hT h2 h3 hPE hE]
  cases okN T P E with
  | false => rw [show b2 false = 0 from rfl, if_pos rfl, if_neg (by decide)]
  | true =>
    rw [show b2 true = 1 from rfl, if_neg (by decide), if_pos rfl]
    split <;> rfl
theorem fault_0 {v : zV} {J : Nat → Nat → Int64} {I : Nat → Nat → Int32} {b : Nat} (hv : v.2.2.2.2.2.1 = b) (hb : isB b = true) (hL : L ≤ 6000) (h2 : I 28 2 = nI L) (h3 : I 28 3 = nI L) (bd : Int32) : fX5_faultOfToken 27 bd (st I v J) = some (1, st I v J) := by
  unfold fX5_faultOfToken
  simp only [bnd_x, gd_0, gd_1, gd_o0, gd_o1, ite_self, rf_1_0, rf_1_1, rf_1_5, rf_1_6, rf_1_7, rf_2_0, rf_4_0, rf_6_0, rf_6_1, rf_6_2, rf_7_0, rf_9_0, rf_11_0, rf_13_0, rf_13_1, rf_13_2, rf_14_0, rf_16_0, rf_18_0, rf_20_0, rf_20_1, rf_20_2, rf_21_0, rf_23_0, rf_25_0, rf_27_0, rf_29_0, rf_29_1, rf_29_2, rf_29_3, rf_29_4, rf_29_5, rf_30_0, rf_32_0, rf_34_0, rf_36_0, rf_38_0, rf_40_0, rf_42_0, rf_42_1, rf_42_2, rf_42_3, rf_43_0, rf_43_1, rf_43_2, rf_44_0, rf_46_0, rf_48_0, rf_50_0, rf_52_0, rf_52_1, rf_52_2, rf_52_3, rf_52_4, rf_52_5, rf_52_6, rf_52_7, rf_52_8, rf_52_9, rf_52_10, rf_52_11, rf_53_0, rf_55_0, rf_57_0, rf_59_0, rf_61_0, rf_63_0, rf_65_0, rf_67_0, rf_69_0, rf_71_0, rf_73_0, a_7, p_7, f_7, c_7, a_9, p_9, f_9, c_9, a_11, p_11, f_11, c_11, a_14, p_14, f_14, c_14, a_16, p_16, f_16, c_16, a_18, p_18, f_18, c_18, a_21, p_21, f_21, c_21, a_23, p_23, f_23, c_23, a_25, p_25, f_25, c_25, a_30, p_30, f_30, c_30, a_32, p_32, f_32, c_32, a_34, p_34, f_34, c_34, a_36, p_36, f_36, c_36, a_38, p_38, f_38, c_38, a_40, p_40, f_40, c_40, a_44, p_44, f_44, c_44, a_46, p_46, f_46, c_46, a_48, p_48, f_48, c_48, a_50, p_50, f_50, c_50, a_53, p_53, f_53, c_53, a_55, p_55, f_55, c_55, a_57, p_57, f_57, c_57, a_59, p_59, f_59, c_59, a_61, p_61, f_61, c_61, a_63, p_63, f_63, c_63, a_65, p_65, f_65, c_65, a_67, p_67, f_67, c_67, a_69, p_69, f_69, c_69, a_71, p_71, f_71, c_71, a_73, p_73, f_73, c_73, c_1, i_1, w_1, z0_1, z1_1, c_2, i_2, w_2, z0_2, z1_2, c_4, i_4, w_4, z0_4, z1_4, c_6, i_6, w_6, z0_6, z1_6, c_13, i_13, w_13, z0_13, z1_13, c_20, i_20, w_20, z0_20, z1_20, c_27, i_27, w_27, z0_27, z1_27, c_28, i_28, w_28, z0_28, z1_28, c_29, i_29, w_29, z0_29, z1_29, c_42, i_42, w_42, z0_42, z1_42, c_43, i_43, w_43, z0_43, z1_43, c_52, i_52, w_52, z0_52, z1_52, X1_size, X1_literal, X1_numberOfStep, X1_ofFormula, X1_inAll, X1_user, X9_codeOf, X1_firstUse, X1_endOfUses, X2_open, X2_at, X2_add, X2_drop, X2_clear, X4_fuelLeft, X4_isActive, X4_isMarked, X4_mark, X4_usedCount, X4_usedAt, X4_setActive, X4_forget, X4_truthOf, isNum_0 hv hb hL h2 h3]
  rw [if_pos trivial]
theorem start_c {v : zV} {J : Nat → Nat → Int64} {I : Nat → Nat → Int32} : fX8_start 28 (st I v J) = some (I 28 2, st I v J) := by
  unfold fX8_start
  simp only [bnd_x, gd_0, gd_1, gd_o0, gd_o1, ite_self, rf_1_0, rf_1_1, rf_1_5, rf_1_6, rf_1_7, rf_2_0, rf_4_0, rf_6_0, rf_6_1, rf_6_2, rf_7_0, rf_9_0, rf_11_0, rf_13_0, rf_13_1, rf_13_2, rf_14_0, rf_16_0, rf_18_0, rf_20_0, rf_20_1, rf_20_2, rf_21_0, rf_23_0, rf_25_0, rf_27_0, rf_29_0, rf_29_1, rf_29_2, rf_29_3, rf_29_4, rf_29_5, rf_30_0, rf_32_0, rf_34_0, rf_36_0, rf_38_0, rf_40_0, rf_42_0, rf_42_1, rf_42_2, rf_42_3, rf_43_0, rf_43_1, rf_43_2, rf_44_0, rf_46_0, rf_48_0, rf_50_0, rf_52_0, rf_52_1, rf_52_2, rf_52_3, rf_52_4, rf_52_5, rf_52_6, rf_52_7, rf_52_8, rf_52_9, rf_52_10, rf_52_11, rf_53_0, rf_55_0, rf_57_0, rf_59_0, rf_61_0, rf_63_0, rf_65_0, rf_67_0, rf_69_0, rf_71_0, rf_73_0, a_7, p_7, f_7, c_7, a_9, p_9, f_9, c_9, a_11, p_11, f_11, c_11, a_14, p_14, f_14, c_14, a_16, p_16, f_16, c_16, a_18, p_18, f_18, c_18, a_21, p_21, f_21, c_21, a_23, p_23, f_23, c_23, a_25, p_25, f_25, c_25, a_30, p_30, f_30, c_30, a_32, p_32, f_32, c_32, a_34, p_34, f_34, c_34, a_36, p_36, f_36, c_36, a_38, p_38, f_38, c_38, a_40, p_40, f_40, c_40, a_44, p_44, f_44, c_44, a_46, p_46, f_46, c_46, a_48, p_48, f_48, c_48, a_50, p_50, f_50, c_50, a_53, p_53, f_53, c_53, a_55, p_55, f_55, c_55, a_57, p_57, f_57, c_57, a_59, p_59, f_59, c_59, a_61, p_61, f_61, c_61, a_63, p_63, f_63, c_63, a_65, p_65, f_65, c_65, a_67, p_67, f_67, c_67, a_69, p_69, f_69, c_69, a_71, p_71, f_71, c_71, a_73, p_73, f_73, c_73, c_1, i_1, w_1, z0_1, z1_1, c_2, i_2, w_2, z0_2, z1_2, c_4, i_4, w_4, z0_4, z1_4, c_6, i_6, w_6, z0_6, z1_6, c_13, i_13, w_13, z0_13, z1_13, c_20, i_20, w_20, z0_20, z1_20, c_27, i_27, w_27, z0_27, z1_27, c_28, i_28, w_28, z0_28, z1_28, c_29, i_29, w_29, z0_29, z1_29, c_42, i_42, w_42, z0_42, z1_42, c_43, i_43, w_43, z0_43, z1_43, c_52, i_52, w_52, z0_52, z1_52, X1_size, X1_literal, X1_numberOfStep, X1_ofFormula, X1_inAll, X1_user, X9_codeOf, X1_firstUse, X1_endOfUses, X2_open, X2_at, X2_add, X2_drop, X2_clear, X4_fuelLeft, X4_isActive, X4_isMarked, X4_mark, X4_usedCount, X4_usedAt, X4_setActive, X4_forget, X4_truthOf]
theorem rowC_end {v : zV} {J : Nat → Nat → Int64} {I : Nat → Nat → Int32} (h : I 27 7 ≠ 0) (m : Nat) (bd r : Int32) : fX5_readRow_7 (m + 1) 27 bd r (st I v J) = some (st I v J) := by
  conv => lhs; unfold fX5_readRow_7
  simp only [bnd_x, gd_0, gd_1, gd_o0, gd_o1, ite_self, rf_1_0, rf_1_1, rf_1_5, rf_1_6, rf_1_7, rf_2_0, rf_4_0, rf_6_0, rf_6_1, rf_6_2, rf_7_0, rf_9_0, rf_11_0, rf_13_0, rf_13_1, rf_13_2, rf_14_0, rf_16_0, rf_18_0, rf_20_0, rf_20_1, rf_20_2, rf_21_0, rf_23_0, rf_25_0, rf_27_0, rf_29_0, rf_29_1, rf_29_2, rf_29_3, rf_29_4, rf_29_5, rf_30_0, rf_32_0, rf_34_0, rf_36_0, rf_38_0, rf_40_0, rf_42_0, rf_42_1, rf_42_2, rf_42_3, rf_43_0, rf_43_1, rf_43_2, rf_44_0, rf_46_0, rf_48_0, rf_50_0, rf_52_0, rf_52_1, rf_52_2, rf_52_3, rf_52_4, rf_52_5, rf_52_6, rf_52_7, rf_52_8, rf_52_9, rf_52_10, rf_52_11, rf_53_0, rf_55_0, rf_57_0, rf_59_0, rf_61_0, rf_63_0, rf_65_0, rf_67_0, rf_69_0, rf_71_0, rf_73_0, a_7, p_7, f_7, c_7, a_9, p_9, f_9, c_9, a_11, p_11, f_11, c_11, a_14, p_14, f_14, c_14, a_16, p_16, f_16, c_16, a_18, p_18, f_18, c_18, a_21, p_21, f_21, c_21, a_23, p_23, f_23, c_23, a_25, p_25, f_25, c_25, a_30, p_30, f_30, c_30, a_32, p_32, f_32, c_32, a_34, p_34, f_34, c_34, a_36, p_36, f_36, c_36, a_38, p_38, f_38, c_38, a_40, p_40, f_40, c_40, a_44, p_44, f_44, c_44, a_46, p_46, f_46, c_46, a_48, p_48, f_48, c_48, a_50, p_50, f_50, c_50, a_53, p_53, f_53, c_53, a_55, p_55, f_55, c_55, a_57, p_57, f_57, c_57, a_59, p_59, f_59, c_59, a_61, p_61, f_61, c_61, a_63, p_63, f_63, c_63, a_65, p_65, f_65, c_65, a_67, p_67, f_67, c_67, a_69, p_69, f_69, c_69, a_71, p_71, f_71, c_71, a_73, p_73, f_73, c_73, c_1, i_1, w_1, z0_1, z1_1, c_2, i_2, w_2, z0_2, z1_2, c_4, i_4, w_4, z0_4, z1_4, c_6, i_6, w_6, z0_6, z1_6, c_13, i_13, w_13, z0_13, z1_13, c_20, i_20, w_20, z0_20, z1_20, c_27, i_27, w_27, z0_27, z1_27, c_28, i_28, w_28, z0_28, z1_28, c_29, i_29, w_29, z0_29, z1_29, c_42, i_42, w_42, z0_42, z1_42, c_43, i_43, w_43, z0_43, z1_43, c_52, i_52, w_52, z0_52, z1_52, X1_size, X1_literal, X1_numberOfStep, X1_ofFormula, X1_inAll, X1_user, X9_codeOf, X1_firstUse, X1_endOfUses, X2_open, X2_at, X2_add, X2_drop, X2_clear, X4_fuelLeft, X4_isActive, X4_isMarked, X4_mark, X4_usedCount, X4_usedAt, X4_setActive, X4_forget, X4_truthOf, if_neg h]
theorem rowM_end {v : zV} {J : Nat → Nat → Int64} {I : Nat → Nat → Int32} (m : Nat) (l : Int32) : fX10_readRowOf_15 (m + 1) 75 l 0 (st I v J) = some (st I v J) := by
  conv => lhs; unfold fX10_readRowOf_15
  rw [if_pos rfl]
/-- the row is over -/
def REND (v v' : zV) (J J' : Nat → Nat → Int64) (f n : Nat) (e : Nat → Nat) (d : Nat → Bool) (L : Nat) (A B : Option zS) (I I' : Nat → Nat → Int32) : Prop :=
  ∃ I1 I2 w' g', A = some (st I1 v J) ∧ B = some (st I2 v' J') ∧ RF I1 I2 f n e w' d g' ∧ FK I1 I2 ∧ FCr I I1 f ∧ FMr I' I2 ∧ (I1 27 7 = 0 → ∃ pos t, pos ≤ L ∧ I1 28 3 = nI pos ∧ I2 75 5 = nI pos ∧ I1 27 6 = nI t ∧ I2 75 28 = nI t ∧ g' ≤ t ∧ t ≤ 2000)
theorem tok_step {v v' : zV} {J J' : Nat → Nat → Int64} {b bd pos m m' : Nat} {I I' M : Nat → Nat → Int32} {w : Nat → Int32} {g r t : Nat} (hv : VV v b f) (hC : CS I b T L) (hR : RT M T L) (h : RO I M f n e w d g r t) (k7 : I 27 7 = 0) (k8 : I 27 8 = -1) (hbd : bd ≤ 150) (h30 : M 75 30 = nI bd) (h3 : I 28 3 = nI pos) (hpos : pos ≤ L) (fM : FMr I' M)
    (m6 : M 75 6 = nI (sk T L pos)) (m5 : M 75 5 = nI (en T L (sk T L pos))) (m7 : M 75 7 = nI (en T L (sk T L pos))) (m8 : (sk T L pos < L ∧ M 75 8 = 0) ∨ (sk T L pos = L ∧ M 75 8 = 1 ∧ M 75 9 = nI L)) :
    REND v v' J J' f n e d L (fX5_readRow_7 (m + 2) 27 (nI bd) (nI r) (st I v J)) (fX10_readRowOf_27 (fX10_readRowOf_15 (m' + 1)) 75 (st M v' J')) I I'
    ∨ ∃ I1 I2 w' g', fX5_readRow_7 (m + 2) 27 (nI bd) (nI r) (st I v J) = fX5_readRow_7 (m + 1) 27 (nI bd) (nI (r + 1)) (st I1 v J) ∧ fX10_readRowOf_27 (fX10_readRowOf_15 (m' + 1)) 75 (st M v' J') = fX10_readRowOf_15 (m' + 1) 75 0 1 (st I2 v' J') ∧ RO I1 I2 f n e w' d g' (r + 1) (t + 1) ∧ I1 27 7 = 0 ∧ I1 27 8 = -1 ∧ I2 75 8 = 0 ∧ I2 75 30 = nI bd ∧ FCr I I1 f ∧ FMr I' I2 ∧ I1 28 3 = nI (en T L (sk T L pos)) ∧ I2 75 5 = nI (en T L (sk T L pos)) := by
  obtain ⟨v1, v2, v3, hb, hf⟩ := hv
  obtain ⟨b1, b2, b3, b4, b5, b6, b7⟩ := B_f hb hf
  have hL := hR.1
  generalize hP : sk T L pos = P at *
  generalize hE : en T L P = E at *
  have hPL : P ≤ L := by rw [← hP]; exact sk_le hpos
  have hEL : E ≤ L := by rw [← hE]; exact en_le hPL
  have hnx := next_c (v := v) (J := J) v3 hb hC.1 hC.2.1 h3 hpos
  rw [hP] at hnx
  generalize hA : tk I T L P = A at *
  have Ane : ∀ q, q ≠ 28 → A q = I q := fun q hq => by rw [← hA]; exact tk_ne hq
  have A28 : A 28 2 = nI P ∧ A 28 3 = nI E := by rw [← hA, ← hE]; exact ⟨tk_28.1, tk_28.2.1⟩
  have FA : FCr I A f := by rw [← hA]; exact tk_F hf
  have hTA := CS_fr hb hf hC FA
  have hROA : RO A M f n e w d g r t := RO_fr h Ane b6 (fun _ _ _ => rfl) (fun _ _ => rfl)
  have r40 : ¬ (40 : Int32) < nI r := nI_nlt (a := 40) (b := r) h.2.2.2.1 (by decide)
  have hA7 : A 27 7 = 0 := by rw [Ane 27 (by decide)]; exact k7
  have hA8 : A 27 8 = -1 := by rw [Ane 27 (by decide)]; exact k8
  -- a fault ends it
  have blamed : ∀ (x p : Int32) (M2 : Nat → Nat → Int32), x ≠ 0 → fX5_readRow_7 (m + 2) 27 (nI bd) (nI r) (st I v J) = fX5_readRow_7 (m + 1) 27 (nI bd) (nI (r + 1)) (st (ktw A x p) v J) → fX10_readRowOf_27 (fX10_readRowOf_15 (m' + 1)) 75 (st M v' J') = some (st M2 v' J') → FK (ktw A x p) M2 → RF (ktw A x p) M2 f n e w d g → FMr M M2 → REND v v' J J' f n e d L (fX5_readRow_7 (m + 2) 27 (nI bd) (nI r) (st I v J)) (fX10_readRowOf_27 (fX10_readRowOf_15 (m' + 1)) 75 (st M v' J')) I I' := by
    intro x p M2 x0 y1 y2 y3 y4 y5
    have k : ktw A x p 27 7 = x := by unfold ktw; rw [up_at, vup_n (by decide), up_self]
    refine ⟨ktw A x p, M2, w, g, by rw [y1, rowC_end (by rw [k]; exact x0)], y2, y4, y3, FCr_t FA (FCr_ktw hf _ _), FMr_t fM y5, fun q => ?_⟩
    rw [k] at q; exact absurd q x0
  rcases m8 with ⟨hlt, h8⟩ | ⟨heq, h81, h9⟩
  · have hPE : P < E := by
      rw [← hE]
      apply en_gt hlt
      have := (sk_bl (T := T) (n := L) L pos (by omega) (by rw [hP]; exact hlt)).1
      rw [hP] at this; exact this
    have hfl := fault_c (v := v) (J := J) v3 hb hTA.1 A28.1 A28.2 hPE hEL (nI bd)
    have hnu := num_c (v := v) (J := J) v3 hb hTA.1 A28.1 A28.2 hPE hEL
    obtain ⟨x, n1, n2⟩ := num_m (v := v') (J := J') hR h8 m6 m7 hPE hEL
    have w8 : ∀ y : Int32, y ≠ 0 → ∀ p, ¬ wg M y p 75 8 = 0 := fun y hy p => by
      unfold wg; rw [if_pos h8, up_at, vup_n (by decide), up_self]; exact hy
    have hCl : ∀ fl : Int32, fl ≠ 0 → fX5_faultOfToken 27 (nI bd) (st A v J) = some (fl, st A v J) → fX5_readRow_7 (m + 2) 27 (nI bd) (nI r) (st I v J) = fX5_readRow_7 (m + 1) 27 (nI bd) (nI (r + 1)) (st (ktw A fl (nI P)) v J) := by
      intro fl f0 hfl'
      conv => lhs; unfold fX5_readRow_7
      rw [if_neg r40]
      simp only [bnd_x, gd_0, gd_1, gd_o0, gd_o1, ite_self, rf_1_0, rf_1_1, rf_1_5, rf_1_6, rf_1_7, rf_2_0, rf_4_0, rf_6_0, rf_6_1, rf_6_2, rf_7_0, rf_9_0, rf_11_0, rf_13_0, rf_13_1, rf_13_2, rf_14_0, rf_16_0, rf_18_0, rf_20_0, rf_20_1, rf_20_2, rf_21_0, rf_23_0, rf_25_0, rf_27_0, rf_29_0, rf_29_1, rf_29_2, rf_29_3, rf_29_4, rf_29_5, rf_30_0, rf_32_0, rf_34_0, rf_36_0, rf_38_0, rf_40_0, rf_42_0, rf_42_1, rf_42_2, rf_42_3, rf_43_0, rf_43_1, rf_43_2, rf_44_0, rf_46_0, rf_48_0, rf_50_0, rf_52_0, rf_52_1, rf_52_2, rf_52_3, rf_52_4, rf_52_5, rf_52_6, rf_52_7, rf_52_8, rf_52_9, rf_52_10, rf_52_11, rf_53_0, rf_55_0, rf_57_0, rf_59_0, rf_61_0, rf_63_0, rf_65_0, rf_67_0, rf_69_0, rf_71_0, rf_73_0, a_7, p_7, f_7, c_7, a_9, p_9, f_9, c_9, a_11, p_11, f_11, c_11, a_14, p_14, f_14, c_14, a_16, p_16, f_16, c_16, a_18, p_18, f_18, c_18, a_21, p_21, f_21, c_21, a_23, p_23, f_23, c_23, a_25, p_25, f_25, c_25, a_30, p_30, f_30, c_30, a_32, p_32, f_32, c_32, a_34, p_34, f_34, c_34, a_36, p_36, f_36, c_36, a_38, p_38, f_38, c_38, a_40, p_40, f_40, c_40, a_44, p_44, f_44, c_44, a_46, p_46, f_46, c_46, a_48, p_48, f_48, c_48, a_50, p_50, f_50, c_50, a_53, p_53, f_53, c_53, a_55, p_55, f_55, c_55, a_57, p_57, f_57, c_57, a_59, p_59, f_59, c_59, a_61, p_61, f_61, c_61, a_63, p_63, f_63, c_63, a_65, p_65, f_65, c_65, a_67, p_67, f_67, c_67, a_69, p_69, f_69, c_69, a_71, p_71, f_71, c_71, a_73, p_73, f_73, c_73, c_1, i_1, w_1, z0_1, z1_1, c_2, i_2, w_2, z0_2, z1_2, c_4, i_4, w_4, z0_4, z1_4, c_6, i_6, w_6, z0_6, z1_6, c_13, i_13, w_13, z0_13, z1_13, c_20, i_20, w_20, z0_20, z1_20, c_27, i_27, w_27, z0_27, z1_27, c_28, i_28, w_28, z0_28, z1_28, c_29, i_29, w_29, z0_29, z1_29, c_42, i_42, w_42, z0_42, z1_42, c_43, i_43, w_43, z0_43, z1_43, c_52, i_52, w_52, z0_52, z1_52, X1_size, X1_literal, X1_numberOfStep, X1_ofFormula, X1_inAll, X1_user, X9_codeOf, X1_firstUse, X1_endOfUses, X2_open, X2_at, X2_add, X2_drop, X2_clear, X4_fuelLeft, X4_isActive, X4_isMarked, X4_mark, X4_usedCount, X4_usedAt, X4_setActive, X4_forget, X4_truthOf, k7, if_pos, hnx, hfl', if_neg f0, start_c, A28.1, blame_ok, fX5_readRow_82, nI_1]
    by_cases hok : okN T P E = true
    · rw [if_pos hok] at hfl n1
      obtain ⟨bb, c1, c2⟩ := vN_b hok
      have hx := n2 hok
      obtain ⟨z1, z2, z3⟩ := val_facts c1 c2
      obtain ⟨⟨z4, z5, z6⟩, z7⟩ := z3 bd (by omega)
      rw [z1] at hfl
      by_cases hle : bb ≤ bd
      · rw [if_pos (z4.mpr hle)] at hfl
        by_cases h0 : vN T P E = 0
        · -- the row's 0
          refine Or.inl ⟨A, M, w, g, ?_, ?_, hROA.1, ?_, FA, fM, fun _ => ⟨E, t, hEL, A28.2, m5, hROA.2.1.2.1, hROA.2.1.2.2.1, hROA.2.2.2.2.1, hROA.2.2.2.2.2⟩⟩
          · conv => lhs; unfold fX5_readRow_7
            rw [if_neg r40]
            simp only [bnd_x, gd_0, gd_1, gd_o0, gd_o1, ite_self, rf_1_0, rf_1_1, rf_1_5, rf_1_6, rf_1_7, rf_2_0, rf_4_0, rf_6_0, rf_6_1, rf_6_2, rf_7_0, rf_9_0, rf_11_0, rf_13_0, rf_13_1, rf_13_2, rf_14_0, rf_16_0, rf_18_0, rf_20_0, rf_20_1, rf_20_2, rf_21_0, rf_23_0, rf_25_0, rf_27_0, rf_29_0, rf_29_1, rf_29_2, rf_29_3, rf_29_4, rf_29_5, rf_30_0, rf_32_0, rf_34_0, rf_36_0, rf_38_0, rf_40_0, rf_42_0, rf_42_1, rf_42_2, rf_42_3, rf_43_0, rf_43_1, rf_43_2, rf_44_0, rf_46_0, rf_48_0, rf_50_0, rf_52_0, rf_52_1, rf_52_2, rf_52_3, rf_52_4, rf_52_5, rf_52_6, rf_52_7, rf_52_8, rf_52_9, rf_52_10, rf_52_11, rf_53_0, rf_55_0, rf_57_0, rf_59_0, rf_61_0, rf_63_0, rf_65_0, rf_67_0, rf_69_0, rf_71_0, rf_73_0, a_7, p_7, f_7, c_7, a_9, p_9, f_9, c_9, a_11, p_11, f_11, c_11, a_14, p_14, f_14, c_14, a_16, p_16, f_16, c_16, a_18, p_18, f_18, c_18, a_21, p_21, f_21, c_21, a_23, p_23, f_23, c_23, a_25, p_25, f_25, c_25, a_30, p_30, f_30, c_30, a_32, p_32, f_32, c_32, a_34, p_34, f_34, c_34, a_36, p_36, f_36, c_36, a_38, p_38, f_38, c_38, a_40, p_40, f_40, c_40, a_44, p_44, f_44, c_44, a_46, p_46, f_46, c_46, a_48, p_48, f_48, c_48, a_50, p_50, f_50, c_50, a_53, p_53, f_53, c_53, a_55, p_55, f_55, c_55, a_57, p_57, f_57, c_57, a_59, p_59, f_59, c_59, a_61, p_61, f_61, c_61, a_63, p_63, f_63, c_63, a_65, p_65, f_65, c_65, a_67, p_67, f_67, c_67, a_69, p_69, f_69, c_69, a_71, p_71, f_71, c_71, a_73, p_73, f_73, c_73, c_1, i_1, w_1, z0_1, z1_1, c_2, i_2, w_2, z0_2, z1_2, c_4, i_4, w_4, z0_4, z1_4, c_6, i_6, w_6, z0_6, z1_6, c_13, i_13, w_13, z0_13, z1_13, c_20, i_20, w_20, z0_20, z1_20, c_27, i_27, w_27, z0_27, z1_27, c_28, i_28, w_28, z0_28, z1_28, c_29, i_29, w_29, z0_29, z1_29, c_42, i_42, w_42, z0_42, z1_42, c_43, i_43, w_43, z0_43, z1_43, c_52, i_52, w_52, z0_52, z1_52, X1_size, X1_literal, X1_numberOfStep, X1_ofFormula, X1_inAll, X1_user, X9_codeOf, X1_firstUse, X1_endOfUses, X2_open, X2_at, X2_add, X2_drop, X2_clear, X4_fuelLeft, X4_isActive, X4_isMarked, X4_mark, X4_usedCount, X4_usedAt, X4_setActive, X4_forget, X4_truthOf, k7, if_pos, hnx, hfl, hnu, h0]
          · unfold fX10_readRowOf_27
            simp only [bnd_x, gd_0, gd_1, gd_o0, gd_o1, ite_self, rf_75_1, rf_75_3, rf_75_12, rf_75_13, rf_75_14, rf_75_15, rf_75_16, rf_75_17, rf_75_18, rf_75_22, rf_75_23, rf_75_24, rf_75_25, rf_75_31, rf_75_32, rf_75_41, rf_75_42, rf_75_43, rf_75_44, rf_75_45, rf_75_46, rf_75_47, rf_75_48, rf_75_53, rf_75_54, rf_75_55, rf_75_57, c_75, i_75, w_75, z0_75, z1_75, n1, h8, if_pos, hx, h0, fX10_readRowOf_57, fX10_readRowOf_73, fX10_readRowOf_74, rowM_end]
          · exact ⟨by rw [hA7, h8], fun _ => hA8, fun q => absurd hA7 q⟩
        · have hL' : isL (vN T P E) := z7 hle hbd (fun q => h0 (z2.mpr q))
          have hlo : ¬ vN T P E < -nI bd := fun q => by have := (z5.mp q).2; omega
          have hhi : vN T P E ≤ nI bd := z6.mpr (Or.inl hle)
          have hC1 : fX5_readRow_7 (m + 2) 27 (nI bd) (nI r) (st I v J) = bnd (fX5_takeLiteral 27 (vN T P E) (nI P) (st A v J)) fun q => fX5_readRow_7 (m + 1) 27 (nI bd) (nI (r + 1)) q := by
            conv => lhs; unfold fX5_readRow_7
            rw [if_neg r40]
            simp only [bnd_x, gd_0, gd_1, gd_o0, gd_o1, ite_self, rf_1_0, rf_1_1, rf_1_5, rf_1_6, rf_1_7, rf_2_0, rf_4_0, rf_6_0, rf_6_1, rf_6_2, rf_7_0, rf_9_0, rf_11_0, rf_13_0, rf_13_1, rf_13_2, rf_14_0, rf_16_0, rf_18_0, rf_20_0, rf_20_1, rf_20_2, rf_21_0, rf_23_0, rf_25_0, rf_27_0, rf_29_0, rf_29_1, rf_29_2, rf_29_3, rf_29_4, rf_29_5, rf_30_0, rf_32_0, rf_34_0, rf_36_0, rf_38_0, rf_40_0, rf_42_0, rf_42_1, rf_42_2, rf_42_3, rf_43_0, rf_43_1, rf_43_2, rf_44_0, rf_46_0, rf_48_0, rf_50_0, rf_52_0, rf_52_1, rf_52_2, rf_52_3, rf_52_4, rf_52_5, rf_52_6, rf_52_7, rf_52_8, rf_52_9, rf_52_10, rf_52_11, rf_53_0, rf_55_0, rf_57_0, rf_59_0, rf_61_0, rf_63_0, rf_65_0, rf_67_0, rf_69_0, rf_71_0, rf_73_0, a_7, p_7, f_7, c_7, a_9, p_9, f_9, c_9, a_11, p_11, f_11, c_11, a_14, p_14, f_14, c_14, a_16, p_16, f_16, c_16, a_18, p_18, f_18, c_18, a_21, p_21, f_21, c_21, a_23, p_23, f_23, c_23, a_25, p_25, f_25, c_25, a_30, p_30, f_30, c_30, a_32, p_32, f_32, c_32, a_34, p_34, f_34, c_34, a_36, p_36, f_36, c_36, a_38, p_38, f_38, c_38, a_40, p_40, f_40, c_40, a_44, p_44, f_44, c_44, a_46, p_46, f_46, c_46, a_48, p_48, f_48, c_48, a_50, p_50, f_50, c_50, a_53, p_53, f_53, c_53, a_55, p_55, f_55, c_55, a_57, p_57, f_57, c_57, a_59, p_59, f_59, c_59, a_61, p_61, f_61, c_61, a_63, p_63, f_63, c_63, a_65, p_65, f_65, c_65, a_67, p_67, f_67, c_67, a_69, p_69, f_69, c_69, a_71, p_71, f_71, c_71, a_73, p_73, f_73, c_73, c_1, i_1, w_1, z0_1, z1_1, c_2, i_2, w_2, z0_2, z1_2, c_4, i_4, w_4, z0_4, z1_4, c_6, i_6, w_6, z0_6, z1_6, c_13, i_13, w_13, z0_13, z1_13, c_20, i_20, w_20, z0_20, z1_20, c_27, i_27, w_27, z0_27, z1_27, c_28, i_28, w_28, z0_28, z1_28, c_29, i_29, w_29, z0_29, z1_29, c_42, i_42, w_42, z0_42, z1_42, c_43, i_43, w_43, z0_43, z1_43, c_52, i_52, w_52, z0_52, z1_52, X1_size, X1_literal, X1_numberOfStep, X1_ofFormula, X1_inAll, X1_user, X9_codeOf, X1_firstUse, X1_endOfUses, X2_open, X2_at, X2_add, X2_drop, X2_clear, X4_fuelLeft, X4_isActive, X4_isMarked, X4_mark, X4_usedCount, X4_usedAt, X4_setActive, X4_forget, X4_truthOf, k7, if_pos, hnx, hfl, hnu, if_neg h0, start_c, A28.1, fX5_readRow_82, nI_1]
          have hM1 : fX10_readRowOf_27 (fX10_readRowOf_15 (m' + 1)) 75 (st M v' J') = bnd (fX10_literal 75 (vN T P E) (nI P) (st M v' J')) fun q => fX10_readRowOf_57 (fX10_readRowOf_15 (m' + 1)) 75 0 (vN T P E) q := by
            unfold fX10_readRowOf_27
            simp only [bnd_x, gd_0, gd_1, gd_o0, gd_o1, ite_self, rf_75_1, rf_75_3, rf_75_12, rf_75_13, rf_75_14, rf_75_15, rf_75_16, rf_75_17, rf_75_18, rf_75_22, rf_75_23, rf_75_24, rf_75_25, rf_75_31, rf_75_32, rf_75_41, rf_75_42, rf_75_43, rf_75_44, rf_75_45, rf_75_46, rf_75_47, rf_75_48, rf_75_53, rf_75_54, rf_75_55, rf_75_57, c_75, i_75, w_75, z0_75, z1_75, n1, h8, if_pos, hx, if_neg h0, m6]
          rcases take_lock (v := v) (v' := v') (J := J) (J' := J') ⟨v1, v2, v3, hb, hf⟩ hROA h8 h30 hL' hlo hhi (nI P) with ⟨I1, I2, t1, t2, t3, t4, t5, t6, t7⟩ | ⟨I1, I2, w', g', t1, t2, t3, t4, t5, t6, t7, t8, t9, t10, t11⟩
          · left
            rw [t1, bnd_x] at hC1
            rw [t2, bnd_x] at hM1
            have k7' : ¬ I1 27 7 = 0 := by rw [t5]; decide
            have k8' : ¬ I2 75 8 = 0 := by rw [← t4.1]; exact k7'
            refine ⟨I1, I2, w, g, by rw [hC1, rowC_end k7'], ?_, t3, t4, FCr_t FA t6, FMr_t fM t7, fun q => absurd q k7'⟩
            rw [hM1]
            unfold fX10_readRowOf_57
            simp only [bnd_x, gd_0, gd_1, gd_o0, gd_o1, ite_self, rf_75_1, rf_75_3, rf_75_12, rf_75_13, rf_75_14, rf_75_15, rf_75_16, rf_75_17, rf_75_18, rf_75_22, rf_75_23, rf_75_24, rf_75_25, rf_75_31, rf_75_32, rf_75_41, rf_75_42, rf_75_43, rf_75_44, rf_75_45, rf_75_46, rf_75_47, rf_75_48, rf_75_53, rf_75_54, rf_75_55, rf_75_57, c_75, i_75, w_75, z0_75, z1_75, if_neg k8', fX10_readRowOf_73, fX10_readRowOf_74, rowM_end]
          · right
            rw [t1, bnd_x] at hC1
            rw [t2, bnd_x] at hM1
            refine ⟨I1, I2, w', g', hC1, ?_, t3, by rw [t4]; exact hA7, by rw [t5]; exact hA8, t8, by rw [t10.2 30 (by omega)]; exact h30, FCr_t FA t9, FMr_t fM t10, by rw [t7]; exact A28.2, by rw [t11 5 (by omega)]; exact m5⟩
            rw [hM1]
            unfold fX10_readRowOf_57
            simp only [bnd_x, gd_0, gd_1, gd_o0, gd_o1, ite_self, rf_75_1, rf_75_3, rf_75_12, rf_75_13, rf_75_14, rf_75_15, rf_75_16, rf_75_17, rf_75_18, rf_75_22, rf_75_23, rf_75_24, rf_75_25, rf_75_31, rf_75_32, rf_75_41, rf_75_42, rf_75_43, rf_75_44, rf_75_45, rf_75_46, rf_75_47, rf_75_48, rf_75_53, rf_75_54, rf_75_55, rf_75_57, c_75, i_75, w_75, z0_75, z1_75, t8, if_pos, if_neg h0, fX10_readRowOf_74]
      · -- beyond the bound
        rw [if_neg (fun q => hle (z4.mp q))] at hfl
        left
        have h0 : ¬ vN T P E = 0 := fun q => hle (by rw [z2.mp q]; omega)
        refine blamed 2 (nI P) (wg M 2 (nI P)) (by decide) (hCl 2 (by decide) hfl) ?_ (FK_blame _ _ h8 (by decide)) (RF_blame hf hROA.1 _ _ _ _) (FMr_wg _ _)
        have hlit : fX10_literal 75 (vN T P E) (nI P) (st M v' J') = some (st (wg M 2 (nI P)) v' J') := by
          have h17 : fX10_literal_17 75 (vN T P E) (nI P) (st M v' J') = some (st (wg M 2 (nI P)) v' J') := by
            unfold fX10_literal_17 fX10_literal_51
            simp only [bnd_x, gd_0, gd_1, gd_o0, gd_o1, ite_self, rf_75_1, rf_75_3, rf_75_12, rf_75_13, rf_75_14, rf_75_15, rf_75_16, rf_75_17, rf_75_18, rf_75_22, rf_75_23, rf_75_24, rf_75_25, rf_75_31, rf_75_32, rf_75_41, rf_75_42, rf_75_43, rf_75_44, rf_75_45, rf_75_46, rf_75_47, rf_75_48, rf_75_53, rf_75_54, rf_75_55, rf_75_57, c_75, i_75, w_75, z0_75, z1_75, wrong_ok, if_neg (w8 2 (by decide) (nI P))]
          unfold fX10_literal
          simp only [bnd_x, gd_0, gd_1, gd_o0, gd_o1, ite_self, rf_75_1, rf_75_3, rf_75_12, rf_75_13, rf_75_14, rf_75_15, rf_75_16, rf_75_17, rf_75_18, rf_75_22, rf_75_23, rf_75_24, rf_75_25, rf_75_31, rf_75_32, rf_75_41, rf_75_42, rf_75_43, rf_75_44, rf_75_45, rf_75_46, rf_75_47, rf_75_48, rf_75_53, rf_75_54, rf_75_55, rf_75_57, c_75, i_75, w_75, z0_75, z1_75, h30, h17]
          split
          · rfl
          · rename_i q
            rw [if_neg]
            intro q'
            rcases z6.mp q' with y | y
            · exact hle y
            · exact q (z5.mpr ⟨y, by omega⟩)
        unfold fX10_readRowOf_27
        simp only [bnd_x, gd_0, gd_1, gd_o0, gd_o1, ite_self, rf_75_1, rf_75_3, rf_75_12, rf_75_13, rf_75_14, rf_75_15, rf_75_16, rf_75_17, rf_75_18, rf_75_22, rf_75_23, rf_75_24, rf_75_25, rf_75_31, rf_75_32, rf_75_41, rf_75_42, rf_75_43, rf_75_44, rf_75_45, rf_75_46, rf_75_47, rf_75_48, rf_75_53, rf_75_54, rf_75_55, rf_75_57, c_75, i_75, w_75, z0_75, z1_75, n1, h8, if_pos, hx, if_neg h0, m6, hlit, fX10_readRowOf_57, if_neg (w8 2 (by decide) (nI P)), fX10_readRowOf_73, fX10_readRowOf_74, rowM_end]
    · -- no number
      rw [if_neg hok] at hfl n1
      left
      refine blamed 1 (nI P) (wg M 1 (nI P)) (by decide) (hCl 1 (by decide) hfl) ?_ (FK_blame _ _ h8 (by decide)) (RF_blame hf hROA.1 _ _ _ _) (FMr_wg _ _)
      unfold fX10_readRowOf_27
      simp only [bnd_x, gd_0, gd_1, gd_o0, gd_o1, ite_self, rf_75_1, rf_75_3, rf_75_12, rf_75_13, rf_75_14, rf_75_15, rf_75_16, rf_75_17, rf_75_18, rf_75_22, rf_75_23, rf_75_24, rf_75_25, rf_75_31, rf_75_32, rf_75_41, rf_75_42, rf_75_43, rf_75_44, rf_75_45, rf_75_46, rf_75_47, rf_75_48, rf_75_53, rf_75_54, rf_75_55, rf_75_57, c_75, i_75, w_75, z0_75, z1_75, n1, if_neg (w8 1 (by decide) (nI P)), fX10_readRowOf_57, fX10_readRowOf_73, fX10_readRowOf_74, rowM_end]
  · -- the text's end
    left
    have hE' : E = L := by rw [← hE, heq, en_eq, if_neg (fun q => absurd q.1 (Nat.lt_irrefl _))]
    have hfl := fault_0 (v := v) (J := J) (I := A) v3 hb hL (by rw [A28.1, heq]) (by rw [A28.2, hE']) (nI bd)
    have m8n : ¬ M 75 8 = 0 := by rw [h81]; decide
    have hwM : wg M 1 (nI L) = M := by unfold wg; rw [if_neg m8n]
    refine blamed 1 (nI L) M (by decide) ?_ ?_ ?_ (by have := RF_blame hf hROA.1 1 (nI L) 1 (nI L); rw [hwM] at this; exact this) (FMr_r M)
    · conv => lhs; unfold fX5_readRow_7
      rw [if_neg r40]
      simp only [bnd_x, gd_0, gd_1, gd_o0, gd_o1, ite_self, rf_1_0, rf_1_1, rf_1_5, rf_1_6, rf_1_7, rf_2_0, rf_4_0, rf_6_0, rf_6_1, rf_6_2, rf_7_0, rf_9_0, rf_11_0, rf_13_0, rf_13_1, rf_13_2, rf_14_0, rf_16_0, rf_18_0, rf_20_0, rf_20_1, rf_20_2, rf_21_0, rf_23_0, rf_25_0, rf_27_0, rf_29_0, rf_29_1, rf_29_2, rf_29_3, rf_29_4, rf_29_5, rf_30_0, rf_32_0, rf_34_0, rf_36_0, rf_38_0, rf_40_0, rf_42_0, rf_42_1, rf_42_2, rf_42_3, rf_43_0, rf_43_1, rf_43_2, rf_44_0, rf_46_0, rf_48_0, rf_50_0, rf_52_0, rf_52_1, rf_52_2, rf_52_3, rf_52_4, rf_52_5, rf_52_6, rf_52_7, rf_52_8, rf_52_9, rf_52_10, rf_52_11, rf_53_0, rf_55_0, rf_57_0, rf_59_0, rf_61_0, rf_63_0, rf_65_0, rf_67_0, rf_69_0, rf_71_0, rf_73_0, a_7, p_7, f_7, c_7, a_9, p_9, f_9, c_9, a_11, p_11, f_11, c_11, a_14, p_14, f_14, c_14, a_16, p_16, f_16, c_16, a_18, p_18, f_18, c_18, a_21, p_21, f_21, c_21, a_23, p_23, f_23, c_23, a_25, p_25, f_25, c_25, a_30, p_30, f_30, c_30, a_32, p_32, f_32, c_32, a_34, p_34, f_34, c_34, a_36, p_36, f_36, c_36, a_38, p_38, f_38, c_38, a_40, p_40, f_40, c_40, a_44, p_44, f_44, c_44, a_46, p_46, f_46, c_46, a_48, p_48, f_48, c_48, a_50, p_50, f_50, c_50, a_53, p_53, f_53, c_53, a_55, p_55, f_55, c_55, a_57, p_57, f_57, c_57, a_59, p_59, f_59, c_59, a_61, p_61, f_61, c_61, a_63, p_63, f_63, c_63, a_65, p_65, f_65, c_65, a_67, p_67, f_67, c_67, a_69, p_69, f_69, c_69, a_71, p_71, f_71, c_71, a_73, p_73, f_73, c_73, c_1, i_1, w_1, z0_1, z1_1, c_2, i_2, w_2, z0_2, z1_2, c_4, i_4, w_4, z0_4, z1_4, c_6, i_6, w_6, z0_6, z1_6, c_13, i_13, w_13, z0_13, z1_13, c_20, i_20, w_20, z0_20, z1_20, c_27, i_27, w_27, z0_27, z1_27, c_28, i_28, w_28, z0_28, z1_28, c_29, i_29, w_29, z0_29, z1_29, c_42, i_42, w_42, z0_42, z1_42, c_43, i_43, w_43, z0_43, z1_43, c_52, i_52, w_52, z0_52, z1_52, X1_size, X1_literal, X1_numberOfStep, X1_ofFormula, X1_inAll, X1_user, X9_codeOf, X1_firstUse, X1_endOfUses, X2_open, X2_at, X2_add, X2_drop, X2_clear, X4_fuelLeft, X4_isActive, X4_isMarked, X4_mark, X4_usedCount, X4_usedAt, X4_setActive, X4_forget, X4_truthOf, k7, if_pos, hnx, hfl, if_neg (show ¬ (1 : Int32) = 0 by decide), start_c, A28.1, heq, blame_ok, fX5_readRow_82, nI_1]
    · unfold fX10_readRowOf_27 fX10_number
      simp only [bnd_x, gd_0, gd_1, gd_o0, gd_o1, ite_self, rf_75_1, rf_75_3, rf_75_12, rf_75_13, rf_75_14, rf_75_15, rf_75_16, rf_75_17, rf_75_18, rf_75_22, rf_75_23, rf_75_24, rf_75_25, rf_75_31, rf_75_32, rf_75_41, rf_75_42, rf_75_43, rf_75_44, rf_75_45, rf_75_46, rf_75_47, rf_75_48, rf_75_53, rf_75_54, rf_75_55, rf_75_57, c_75, i_75, w_75, z0_75, z1_75, if_neg m8n, fX10_readRowOf_57, fX10_readRowOf_73, fX10_readRowOf_74, rowM_end]
    · refine ⟨?_, ?_, ?_⟩
      · unfold ktw; rw [up_at, vup_n (by decide), up_self, h81]
      · intro q; unfold ktw at q; rw [up_at, vup_n (by decide), up_self] at q; exact absurd q (by decide)
      · intro _; unfold ktw; rw [up_self, h9]
/-- the reference wants a token -/
def ndM (I : Nat → Nat → Int32) (T : Nat → Int32) (L P : Nat) : Nat → Nat → Int32 := if P < L then tm I T L P else wg (tm I T L P) 1 (nI L)
theorem need_m {v : zV} {J : Nat → Nat → Int64} {I : Nat → Nat → Int32} {pos : Nat} (hR : RT I T L) (h8 : I 75 8 = 0) (h5 : I 75 5 = nI pos) (hp : pos ≤ L) : fX10_need 75 (st I v J) = some (st (ndM I T L (sk T L pos)) v J) := by
  unfold fX10_need ndM
  have h4 : tm I T L (sk T L pos) 75 4 = nI L := by rw [tm_75.2.2.2 4 (by decide) (by decide) (by decide)]; exact hR.2.1
  simp only [bnd_x, gd_0, gd_1, gd_o0, gd_o1, ite_self, rf_75_1, rf_75_3, rf_75_12, rf_75_13, rf_75_14, rf_75_15, rf_75_16, rf_75_17, rf_75_18, rf_75_22, rf_75_23, rf_75_24, rf_75_25, rf_75_31, rf_75_32, rf_75_41, rf_75_42, rf_75_43, rf_75_44, rf_75_45, rf_75_46, rf_75_47, rf_75_48, rf_75_53, rf_75_54, rf_75_55, rf_75_57, c_75, i_75, w_75, z0_75, z1_75, h8, if_pos, next_m hR h5 hp, h4, wrong_ok, b2_0]
  by_cases c : sk T L pos < L
  · rw [decide_eq_true c, if_neg (by decide), if_pos c]
  · rw [decide_eq_false c, if_pos rfl, if_neg c]
theorem ndM_f {I : Nat → Nat → Int32} {P : Nat} (h8 : I 75 8 = 0) (hP : P ≤ L) : FMr I (ndM I T L P) ∧ ndM I T L P 75 6 = nI P ∧ ndM I T L P 75 5 = nI (en T L P) ∧ ndM I T L P 75 7 = nI (en T L P) ∧ (∀ j, j ≠ 5 → j ≠ 6 → j ≠ 7 → j ≠ 8 → j ≠ 9 → ndM I T L P 75 j = I 75 j) ∧ (∀ q, q ≠ 75 → ndM I T L P q = I q) ∧ ((P < L ∧ ndM I T L P 75 8 = 0) ∨ (P = L ∧ ndM I T L P 75 8 = 1 ∧ ndM I T L P 75 9 = nI L)) := by
  obtain ⟨t1, t2, t3, t4⟩ := tm_75 (I := I) (T := T) (L := L) (P := P)
  have t8 : tm I T L P 75 8 = 0 := by rw [t4 8 (by decide) (by decide) (by decide)]; exact h8
  unfold ndM
  split
  · rename_i c
    exact ⟨tm_F, t1, t2, t3, fun j j1 j2 j3 _ _ => t4 j j1 j2 j3, fun q hq => tm_ne hq, Or.inl ⟨c, t8⟩⟩
  · rename_i c
    refine ⟨FMr_t tm_F (FMr_wg _ _), ?_, ?_, ?_, ?_, ?_, Or.inr ⟨by omega, ?_, ?_⟩⟩
    · unfold wg; rw [if_pos t8, up_at, vup_n (by decide), up_at, vup_n (by decide)]; exact t1
    · unfold wg; rw [if_pos t8, up_at, vup_n (by decide), up_at, vup_n (by decide)]; exact t2
    · unfold wg; rw [if_pos t8, up_at, vup_n (by decide), up_at, vup_n (by decide)]; exact t3
    · intro j j1 j2 j3 j4 j5
      unfold wg; rw [if_pos t8, up_at, vup_n j5, up_at, vup_n j4]; exact t4 j j1 j2 j3
    · intro q hq
      unfold wg; rw [if_pos t8, up_ne hq, up_ne hq]; exact tm_ne hq
    · unfold wg; rw [if_pos t8, up_at, vup_n (by decide), up_self]
    · unfold wg; rw [if_pos t8, up_self]
theorem REND_t {v v' : zV} {J J' : Nat → Nat → Int64} {A B : Option zS} {I I' I1 I2 : Nat → Nat → Int32} (h : REND v v' J J' f n e d L A B I1 I2) (a : FCr I I1 f) (b : FMr I' I2) : REND v v' J J' f n e d L A B I I' := by
  obtain ⟨X, Y, w, g, h1, h2, h3, h4, h5, h6, h7⟩ := h
  exact ⟨X, Y, w, g, h1, h2, h3, h4, FCr_t a h5, FMr_t b h6, h7⟩
theorem row_loop {v v' : zV} {J J' : Nat → Nat → Int64} {b bd : Nat} (hv : VV v b f) (hbd : bd ≤ 150) : ∀ (k r m m' t : Nat) (I I' : Nat → Nat → Int32) (w : Nat → Int32) (g pos : Nat), r + k = 40 → k < m → k < m' → CS I b T L → RT I' T L → RO I I' f n e w d g r t → I 27 7 = 0 → I 27 8 = -1 → I' 75 8 = 0 → I' 75 30 = nI bd → I 28 3 = nI pos → I' 75 5 = nI pos → pos ≤ L →
    REND v v' J J' f n e d L (fX5_readRow_7 (m + 1) 27 (nI bd) (nI r) (st I v J)) (fX10_readRowOf_15 (m' + 1) 75 0 1 (st I' v' J')) I I' := by
  have hb := hv.2.2.2.1
  have hf := hv.2.2.2.2
  obtain ⟨b1, b2, b3, b4, b5, b6, b7⟩ := B_f hb hf
  intro k
  induction k with
  | zero =>
    intro r m m' t I I' w g pos hr hm hm' hC hR hO k7 k8 h8 h30 h3 h5 hp
    obtain ⟨m, rfl⟩ : ∃ q, m = q + 1 := ⟨m - 1, by omega⟩
    obtain ⟨m', rfl⟩ : ∃ q, m' = q + 1 := ⟨m' - 1, by omega⟩
    obtain ⟨n1, n2, n3, n4, n5, n6, n7⟩ := ndM_f (T := T) (L := L) (P := sk T L pos) h8 (sk_le hp)
    have hB : fX10_readRowOf_15 (m' + 1 + 1) 75 0 1 (st I' v' J') = fX10_readRowOf_27 (fX10_readRowOf_15 (m' + 1)) 75 (st (ndM I' T L (sk T L pos)) v' J') := by
      conv => lhs; unfold fX10_readRowOf_15
      rw [if_neg (by decide), if_pos rfl]
      simp only [bnd_x, gd_0, gd_1, gd_o0, gd_o1, ite_self, rf_75_1, rf_75_3, rf_75_12, rf_75_13, rf_75_14, rf_75_15, rf_75_16, rf_75_17, rf_75_18, rf_75_22, rf_75_23, rf_75_24, rf_75_25, rf_75_31, rf_75_32, rf_75_41, rf_75_42, rf_75_43, rf_75_44, rf_75_45, rf_75_46, rf_75_47, rf_75_48, rf_75_53, rf_75_54, rf_75_55, rf_75_57, c_75, i_75, w_75, z0_75, z1_75, need_m hR h8 h5 hp]
    rw [hB]
    rcases tok_step (v := v) (v' := v') (J := J) (J' := J') (m := m) (m' := m') hv hC (RT_F hR n1) (RO_fr hO (fun _ _ => rfl) b6 (fun j j1 j2 => n5 j (by omega) (by omega) (by omega) (by omega) (by omega)) n6) k7 k8 hbd (by rw [n5 30 (by decide) (by decide) (by decide) (by decide) (by decide)]; exact h30) h3 hp n1 n2 n3 n4 n7 with q | ⟨I1, I2, w', g', q1, q2, q3, q4⟩
    · exact q
    · have := q3.2.2.2.1; omega
  | succ k ih =>
    intro r m m' t I I' w g pos hr hm hm' hC hR hO k7 k8 h8 h30 h3 h5 hp
    obtain ⟨m, rfl⟩ : ∃ q, m = q + 1 := ⟨m - 1, by omega⟩
    obtain ⟨m', rfl⟩ : ∃ q, m' = q + 1 := ⟨m' - 1, by omega⟩
    obtain ⟨n1, n2, n3, n4, n5, n6, n7⟩ := ndM_f (T := T) (L := L) (P := sk T L pos) h8 (sk_le hp)
    have hB : fX10_readRowOf_15 (m' + 1 + 1) 75 0 1 (st I' v' J') = fX10_readRowOf_27 (fX10_readRowOf_15 (m' + 1)) 75 (st (ndM I' T L (sk T L pos)) v' J') := by
      conv => lhs; unfold fX10_readRowOf_15
      rw [if_neg (by decide), if_pos rfl]
      simp only [bnd_x, gd_0, gd_1, gd_o0, gd_o1, ite_self, rf_75_1, rf_75_3, rf_75_12, rf_75_13, rf_75_14, rf_75_15, rf_75_16, rf_75_17, rf_75_18, rf_75_22, rf_75_23, rf_75_24, rf_75_25, rf_75_31, rf_75_32, rf_75_41, rf_75_42, rf_75_43, rf_75_44, rf_75_45, rf_75_46, rf_75_47, rf_75_48, rf_75_53, rf_75_54, rf_75_55, rf_75_57, c_75, i_75, w_75, z0_75, z1_75, need_m hR h8 h5 hp]
    rw [hB]
    rcases tok_step (v := v) (v' := v') (J := J) (J' := J') (m := m) (m' := m') hv hC (RT_F hR n1) (RO_fr hO (fun _ _ => rfl) b6 (fun j j1 j2 => n5 j (by omega) (by omega) (by omega) (by omega) (by omega)) n6) k7 k8 hbd (by rw [n5 30 (by decide) (by decide) (by decide) (by decide) (by decide)]; exact h30) h3 hp n1 n2 n3 n4 n7 with q | ⟨I1, I2, w', g', q1, q2, q3, q4, q5, q6, q7, q8, q9, q10, q11⟩
    · exact q
    · rw [q1, q2]
      exact REND_t (ih (r + 1) m m' (t + 1) I1 I2 w' g' _ (by omega) (by omega) (by omega) (CS_fr hb hf hC q8) (RT_F hR q9) q3 q4 q5 q6 q7 q10 q11 (en_le (sk_le hp))) q8 q9
end
