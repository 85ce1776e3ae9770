/-! The start of a weighing, and all of it. -/
section
variable {N : Nat} {sz : Nat → Nat} {lt : Nat → Nat → Int32}
theorem fill_at {I : Nat → Nat → Int32} {a n j : Nat} {x : Int32} (h : j < n) : fillN I a n x a j = x := by
  unfold fillN; rw [if_pos ⟨rfl, h⟩]
theorem fill_ne {I : Nat → Nat → Int32} {a n b : Nat} {x : Int32} (h : b ≠ a) : fillN I a n x b = I b := by
  funext j; unfold fillN; rw [if_neg (fun q => h q.1)]
def cfg (I : Nat → Nat → Int32) : Nat → Nat → Int32 := up (up (up (up (up (fillN (fillN (fillN (up (fillN (up I 52 17 0) 56 601 0) 43 3 0) 47 601 0) 49 601 0) 51 301 0) 42 6 (-1)) 42 7 (-1)) 42 8 (-1)) 42 9 0) 42 10 0
theorem forget_ok {v : zV} {J : Nat → Nat → Int64} {I : Nat → Nat → Int32} : fX3_forget 42 (st I v J) = some (st (cfg I) v J) := by
  unfold fX3_forget
  simp only [bnd_x, gd_0, gd_1, gd_o0, gd_o1, ite_self, rf_1_0, rf_1_1, rf_1_5, rf_1_6, rf_1_7, rf_2_0, rf_4_0, rf_6_0, rf_6_1, rf_6_2, rf_7_0, rf_9_0, rf_11_0, rf_13_0, rf_13_1, rf_13_2, rf_14_0, rf_16_0, rf_18_0, rf_20_0, rf_20_1, rf_20_2, rf_21_0, rf_23_0, rf_25_0, rf_27_0, rf_29_0, rf_29_1, rf_29_2, rf_29_3, rf_29_4, rf_29_5, rf_30_0, rf_32_0, rf_34_0, rf_36_0, rf_38_0, rf_40_0, rf_42_0, rf_42_1, rf_42_2, rf_42_3, rf_43_0, rf_43_1, rf_43_2, rf_44_0, rf_46_0, rf_48_0, rf_50_0, rf_52_0, rf_52_1, rf_52_2, rf_52_3, rf_52_4, rf_52_5, rf_52_6, rf_52_7, rf_52_8, rf_52_9, rf_52_10, rf_52_11, rf_53_0, rf_55_0, rf_57_0, rf_59_0, rf_61_0, rf_63_0, rf_65_0, rf_67_0, rf_69_0, rf_71_0, rf_73_0, a_7, p_7, f_7, c_7, a_9, p_9, f_9, c_9, a_11, p_11, f_11, c_11, a_14, p_14, f_14, c_14, a_16, p_16, f_16, c_16, a_18, p_18, f_18, c_18, a_21, p_21, f_21, c_21, a_23, p_23, f_23, c_23, a_25, p_25, f_25, c_25, a_30, p_30, f_30, c_30, a_32, p_32, f_32, c_32, a_34, p_34, f_34, c_34, a_36, p_36, f_36, c_36, a_38, p_38, f_38, c_38, a_40, p_40, f_40, c_40, a_44, p_44, f_44, c_44, a_46, p_46, f_46, c_46, a_48, p_48, f_48, c_48, a_50, p_50, f_50, c_50, a_53, p_53, f_53, c_53, a_55, p_55, f_55, c_55, a_57, p_57, f_57, c_57, a_59, p_59, f_59, c_59, a_61, p_61, f_61, c_61, a_63, p_63, f_63, c_63, a_65, p_65, f_65, c_65, a_67, p_67, f_67, c_67, a_69, p_69, f_69, c_69, a_71, p_71, f_71, c_71, a_73, p_73, f_73, c_73, c_1, i_1, w_1, z0_1, z1_1, c_2, i_2, w_2, z0_2, z1_2, c_4, i_4, w_4, z0_4, z1_4, c_6, i_6, w_6, z0_6, z1_6, c_13, i_13, w_13, z0_13, z1_13, c_20, i_20, w_20, z0_20, z1_20, c_27, i_27, w_27, z0_27, z1_27, c_28, i_28, w_28, z0_28, z1_28, c_29, i_29, w_29, z0_29, z1_29, c_42, i_42, w_42, z0_42, z1_42, c_43, i_43, w_43, z0_43, z1_43, c_52, i_52, w_52, z0_52, z1_52, X1_size, X1_literal, X1_numberOfStep, X1_ofFormula, X1_inAll, X1_user, X9_codeOf, X1_firstUse, X1_endOfUses, X2_open, X2_at, X2_add, X2_drop, X2_clear, X4_fuelLeft, X4_isActive, X4_isMarked, X4_mark, X4_usedCount, X4_usedAt, X4_setActive, X4_forget, X4_truthOf]
  rfl
theorem cfg_fr {I : Nat → Nat → Int32} {a : Nat} (h : a ∉ [42, 43, 47, 49, 51, 52, 56]) : cfg I a = I a := by
  have k : ∀ q, q ∈ [42, 43, 47, 49, 51, 52, 56] → a ≠ q := fun q hq e => h (e ▸ hq)
  unfold cfg
  rw [up_ne (k 42 (by decide)), up_ne (k 42 (by decide)), up_ne (k 42 (by decide)), up_ne (k 42 (by decide)), up_ne (k 42 (by decide)), fill_ne (k 51 (by decide)), fill_ne (k 49 (by decide)), fill_ne (k 47 (by decide)), up_ne (k 43 (by decide)), fill_ne (k 56 (by decide)), up_ne (k 52 (by decide))]
theorem cfg_42 {I : Nat → Nat → Int32} : cfg I 42 6 = -1 ∧ cfg I 42 7 = -1 ∧ cfg I 42 8 = -1 ∧ cfg I 42 9 = 0 ∧ cfg I 42 10 = 0 ∧ ∀ j, j < 6 → cfg I 42 j = I 42 j := by
  unfold cfg
  refine ⟨?_, ?_, ?_, ?_, ?_, fun j hj => ?_⟩
  · rw [up_at, vup_n (by decide), up_at, vup_n (by decide), up_at, vup_n (by decide), up_at, vup_n (by decide), up_self]
  · rw [up_at, vup_n (by decide), up_at, vup_n (by decide), up_at, vup_n (by decide), up_self]
  · rw [up_at, vup_n (by decide), up_at, vup_n (by decide), up_self]
  · rw [up_at, vup_n (by decide), up_self]
  · rw [up_self]
  · rw [up_at, vup_n (by omega), up_at, vup_n (by omega), up_at, vup_n (by omega), up_at, vup_n (by omega), up_at, vup_n (by omega), fill_ne (by decide), fill_ne (by decide), fill_ne (by decide), up_ne (by decide), fill_ne (by decide), up_ne (by decide)]
theorem cfg_r {I : Nat → Nat → Int32} : cfg I 52 = vup (I 52) 17 0 ∧ cfg I 43 3 = 0 ∧ (∀ j, j < 601 → cfg I 56 j = 0 ∧ cfg I 47 j = 0 ∧ cfg I 49 j = 0) ∧ (∀ j, j < 301 → cfg I 51 j = 0) := by
  unfold cfg
  refine ⟨?_, ?_, fun j hj => ⟨?_, ?_, ?_⟩, fun j hj => ?_⟩
  · rw [up_ne (by decide), up_ne (by decide), up_ne (by decide), up_ne (by decide), up_ne (by decide), fill_ne (by decide), fill_ne (by decide), fill_ne (by decide), up_ne (by decide), fill_ne (by decide), up_at]
  · rw [up_ne (by decide), up_ne (by decide), up_ne (by decide), up_ne (by decide), up_ne (by decide), fill_ne (by decide), fill_ne (by decide), fill_ne (by decide), up_self]
  · rw [up_ne (by decide), up_ne (by decide), up_ne (by decide), up_ne (by decide), up_ne (by decide), fill_ne (by decide), fill_ne (by decide), fill_ne (by decide), up_ne (by decide), fill_at hj]
  · rw [up_ne (by decide), up_ne (by decide), up_ne (by decide), up_ne (by decide), up_ne (by decide), fill_ne (by decide), fill_ne (by decide), fill_at hj]
  · rw [up_ne (by decide), up_ne (by decide), up_ne (by decide), up_ne (by decide), up_ne (by decide), fill_ne (by decide), fill_at hj]
  · rw [up_ne (by decide), up_ne (by decide), up_ne (by decide), up_ne (by decide), up_ne (by decide), fill_at hj]
def SOp (I : Nat → Nat → Int32) (m : Nat) (sz : Nat → Nat) : Prop :=
  ∃ c, c < m ∧ I 52 12 = nI c ∧ (∀ i, i < c → ∃ k, 1 ≤ k ∧ k < m ∧ sz k ≤ 1 ∧ I 60 i = nI k) ∧ (∀ k, 1 ≤ k → k < m → sz k ≤ 1 → ∃ i, i < c ∧ I 60 i = nI k)
theorem xb_loop {v : zV} {J : Nat → Nat → Int64} (hO : OKD N sz lt) {nc : Nat} (hnc : nc ≤ 300) : ∀ (d k f : Nat) (I : Nat → Nat → Int32), k + d = N + 1 → 1 ≤ k → d < f → DBC I N sz lt → I 29 8 = nI nc → SOp I k sz →
    ∃ I1, fX4_begin_29 f 52 (nI k) (st I v J) = some (st I1 v J) ∧ (∀ q, k ≤ q → q ≤ N → I1 54 q = (if q ≤ nc then 1 else 0) ∧ I1 58 q = nI (sz q)) ∧ (∀ q, q < k → I1 54 q = I 54 q ∧ I1 58 q = I 58 q) ∧ SO I1 N sz ∧ (∀ j, j ≠ 12 → I1 52 j = I 52 j) ∧ (∀ a, a ≠ 52 → a ≠ 54 → a ≠ 58 → a ≠ 60 → I1 a = I a) := by
  have hN := hO.1
  intro d
  induction d with
  | zero =>
    intro k f I hk k1 hf hD h8 hS
    obtain ⟨f, rfl⟩ : ∃ m, f = m + 1 := ⟨f - 1, by omega⟩
    refine ⟨I, ?_, fun q q1 q2 => by omega, fun _ _ => ⟨rfl, rfl⟩, ?_, fun _ _ => rfl, fun _ _ _ _ _ => rfl⟩
    · conv => lhs; unfold fX4_begin_29
      simp only [bnd_x, gd_0, gd_1, gd_o0, gd_o1, ite_self, rf_1_0, rf_1_1, rf_1_5, rf_1_6, rf_1_7, rf_2_0, rf_4_0, rf_6_0, rf_6_1, rf_6_2, rf_7_0, rf_9_0, rf_11_0, rf_13_0, rf_13_1, rf_13_2, rf_14_0, rf_16_0, rf_18_0, rf_20_0, rf_20_1, rf_20_2, rf_21_0, rf_23_0, rf_25_0, rf_27_0, rf_29_0, rf_29_1, rf_29_2, rf_29_3, rf_29_4, rf_29_5, rf_30_0, rf_32_0, rf_34_0, rf_36_0, rf_38_0, rf_40_0, rf_42_0, rf_42_1, rf_42_2, rf_42_3, rf_43_0, rf_43_1, rf_43_2, rf_44_0, rf_46_0, rf_48_0, rf_50_0, rf_52_0, rf_52_1, rf_52_2, rf_52_3, rf_52_4, rf_52_5, rf_52_6, rf_52_7, rf_52_8, rf_52_9, rf_52_10, rf_52_11, rf_53_0, rf_55_0, rf_57_0, rf_59_0, rf_61_0, rf_63_0, rf_65_0, rf_67_0, rf_69_0, rf_71_0, rf_73_0, a_7, p_7, f_7, c_7, a_9, p_9, f_9, c_9, a_11, p_11, f_11, c_11, a_14, p_14, f_14, c_14, a_16, p_16, f_16, c_16, a_18, p_18, f_18, c_18, a_21, p_21, f_21, c_21, a_23, p_23, f_23, c_23, a_25, p_25, f_25, c_25, a_30, p_30, f_30, c_30, a_32, p_32, f_32, c_32, a_34, p_34, f_34, c_34, a_36, p_36, f_36, c_36, a_38, p_38, f_38, c_38, a_40, p_40, f_40, c_40, a_44, p_44, f_44, c_44, a_46, p_46, f_46, c_46, a_48, p_48, f_48, c_48, a_50, p_50, f_50, c_50, a_53, p_53, f_53, c_53, a_55, p_55, f_55, c_55, a_57, p_57, f_57, c_57, a_59, p_59, f_59, c_59, a_61, p_61, f_61, c_61, a_63, p_63, f_63, c_63, a_65, p_65, f_65, c_65, a_67, p_67, f_67, c_67, a_69, p_69, f_69, c_69, a_71, p_71, f_71, c_71, a_73, p_73, f_73, c_73, c_1, i_1, w_1, z0_1, z1_1, c_2, i_2, w_2, z0_2, z1_2, c_4, i_4, w_4, z0_4, z1_4, c_6, i_6, w_6, z0_6, z1_6, c_13, i_13, w_13, z0_13, z1_13, c_20, i_20, w_20, z0_20, z1_20, c_27, i_27, w_27, z0_27, z1_27, c_28, i_28, w_28, z0_28, z1_28, c_29, i_29, w_29, z0_29, z1_29, c_42, i_42, w_42, z0_42, z1_42, c_43, i_43, w_43, z0_43, z1_43, c_52, i_52, w_52, z0_52, z1_52, X1_size, X1_literal, X1_numberOfStep, X1_ofFormula, X1_inAll, X1_user, X9_codeOf, X1_firstUse, X1_endOfUses, X2_open, X2_at, X2_add, X2_drop, X2_clear, X4_fuelLeft, X4_isActive, X4_isMarked, X4_mark, X4_usedCount, X4_usedAt, X4_setActive, X4_forget, X4_truthOf, hD.1, if_pos (nI_lt (show N < k by omega) (show k < 2 ^ 31 by omega))]
    · obtain ⟨c, c1, c2, c3, c4⟩ := hS
      refine ⟨c, by omega, c2, fun i hi => ?_, fun q q1 q2 q3 => c4 q q1 (by omega) q3⟩
      obtain ⟨q, q1, q2, q3⟩ := c3 i hi
      exact ⟨q, q1, by omega, q3⟩
  | succ d ih =>
    intro k f I hk k1 hf hD h8 hS
    obtain ⟨f, rfl⟩ : ∃ m, f = m + 1 := ⟨f - 1, by omega⟩
    obtain ⟨c, c1, c2, c3, c4⟩ := hS
    have k2 : k ≤ N := by omega
    obtain ⟨h40, -, -⟩ := hO.2 k k1 k2
    generalize hA : up (up I 54 k (if k ≤ nc then 1 else 0)) 58 k (nI (sz k)) = A
    have fA : ∀ a, a ≠ 54 → a ≠ 58 → A a = I a := fun a a1 a2 => by rw [← hA, up_ne a2, up_ne a1]
    have A54 : A 54 = vup (I 54) k (if k ≤ nc then 1 else 0) := by rw [← hA, up_ne (by decide), up_at]
    have A58 : A 58 = vup (I 58) k (nI (sz k)) := by rw [← hA, up_at, up_ne (by decide)]
    have hDA : DBC A N sz lt := DBC_fr hD (fA _ (by decide) (by decide)) (fA _ (by decide) (by decide)) (fA _ (by decide) (by decide))
    have hD1 : DBC (up I 54 k (if k ≤ nc then 1 else 0)) N sz lt := DBC_fr hD (up_ne (by decide)) (up_ne (by decide)) (up_ne (by decide))
    have step : fX4_begin_29 (f + 1) 52 (nI k) (st I v J) = if 1 < nI (sz k) then fX4_begin_29 f 52 (nI (k + 1)) (st A v J) else fX4_begin_29 f 52 (nI (k + 1)) (st (up (up A 60 c (nI k)) 52 12 (nI (c + 1))) v J) := by
      conv => lhs; unfold fX4_begin_29
      simp only [bnd_x, gd_0, gd_1, gd_o0, gd_o1, ite_self, rf_1_0, rf_1_1, rf_1_5, rf_1_6, rf_1_7, rf_2_0, rf_4_0, rf_6_0, rf_6_1, rf_6_2, rf_7_0, rf_9_0, rf_11_0, rf_13_0, rf_13_1, rf_13_2, rf_14_0, rf_16_0, rf_18_0, rf_20_0, rf_20_1, rf_20_2, rf_21_0, rf_23_0, rf_25_0, rf_27_0, rf_29_0, rf_29_1, rf_29_2, rf_29_3, rf_29_4, rf_29_5, rf_30_0, rf_32_0, rf_34_0, rf_36_0, rf_38_0, rf_40_0, rf_42_0, rf_42_1, rf_42_2, rf_42_3, rf_43_0, rf_43_1, rf_43_2, rf_44_0, rf_46_0, rf_48_0, rf_50_0, rf_52_0, rf_52_1, rf_52_2, rf_52_3, rf_52_4, rf_52_5, rf_52_6, rf_52_7, rf_52_8, rf_52_9, rf_52_10, rf_52_11, rf_53_0, rf_55_0, rf_57_0, rf_59_0, rf_61_0, rf_63_0, rf_65_0, rf_67_0, rf_69_0, rf_71_0, rf_73_0, a_7, p_7, f_7, c_7, a_9, p_9, f_9, c_9, a_11, p_11, f_11, c_11, a_14, p_14, f_14, c_14, a_16, p_16, f_16, c_16, a_18, p_18, f_18, c_18, a_21, p_21, f_21, c_21, a_23, p_23, f_23, c_23, a_25, p_25, f_25, c_25, a_30, p_30, f_30, c_30, a_32, p_32, f_32, c_32, a_34, p_34, f_34, c_34, a_36, p_36, f_36, c_36, a_38, p_38, f_38, c_38, a_40, p_40, f_40, c_40, a_44, p_44, f_44, c_44, a_46, p_46, f_46, c_46, a_48, p_48, f_48, c_48, a_50, p_50, f_50, c_50, a_53, p_53, f_53, c_53, a_55, p_55, f_55, c_55, a_57, p_57, f_57, c_57, a_59, p_59, f_59, c_59, a_61, p_61, f_61, c_61, a_63, p_63, f_63, c_63, a_65, p_65, f_65, c_65, a_67, p_67, f_67, c_67, a_69, p_69, f_69, c_69, a_71, p_71, f_71, c_71, a_73, p_73, f_73, c_73, c_1, i_1, w_1, z0_1, z1_1, c_2, i_2, w_2, z0_2, z1_2, c_4, i_4, w_4, z0_4, z1_4, c_6, i_6, w_6, z0_6, z1_6, c_13, i_13, w_13, z0_13, z1_13, c_20, i_20, w_20, z0_20, z1_20, c_27, i_27, w_27, z0_27, z1_27, c_28, i_28, w_28, z0_28, z1_28, c_29, i_29, w_29, z0_29, z1_29, c_42, i_42, w_42, z0_42, z1_42, c_43, i_43, w_43, z0_43, z1_43, c_52, i_52, w_52, z0_52, z1_52, X1_size, X1_literal, X1_numberOfStep, X1_ofFormula, X1_inAll, X1_user, X9_codeOf, X1_firstUse, X1_endOfUses, X2_open, X2_at, X2_add, X2_drop, X2_clear, X4_fuelLeft, X4_isActive, X4_isMarked, X4_mark, X4_usedCount, X4_usedAt, X4_setActive, X4_forget, X4_truthOf, hD.1, if_neg (nI_nlt k2 (show N < 2 ^ 31 by omega)), h8, fX4_begin_61, wr_53 (show k < 601 by omega)]
      have e : ∀ x : Int32, (fX6_put 53 (nI k) x (st I v J)) = some (st (up I 54 k x) v J) := fun x => by rw [p_53, wr_53 (show k < 601 by omega)]
      by_cases z : k ≤ nc
      · rw [if_pos z] at hA hD1
        rw [if_neg (nI_nlt z (by omega))]
        simp only [bnd_x, gd_0, gd_1, gd_o0, gd_o1, ite_self, rf_1_0, rf_1_1, rf_1_5, rf_1_6, rf_1_7, rf_2_0, rf_4_0, rf_6_0, rf_6_1, rf_6_2, rf_7_0, rf_9_0, rf_11_0, rf_13_0, rf_13_1, rf_13_2, rf_14_0, rf_16_0, rf_18_0, rf_20_0, rf_20_1, rf_20_2, rf_21_0, rf_23_0, rf_25_0, rf_27_0, rf_29_0, rf_29_1, rf_29_2, rf_29_3, rf_29_4, rf_29_5, rf_30_0, rf_32_0, rf_34_0, rf_36_0, rf_38_0, rf_40_0, rf_42_0, rf_42_1, rf_42_2, rf_42_3, rf_43_0, rf_43_1, rf_43_2, rf_44_0, rf_46_0, rf_48_0, rf_50_0, rf_52_0, rf_52_1, rf_52_2, rf_52_3, rf_52_4, rf_52_5, rf_52_6, rf_52_7, rf_52_8, rf_52_9, rf_52_10, rf_52_11, rf_53_0, rf_55_0, rf_57_0, rf_59_0, rf_61_0, rf_63_0, rf_65_0, rf_67_0, rf_69_0, rf_71_0, rf_73_0, a_7, p_7, f_7, c_7, a_9, p_9, f_9, c_9, a_11, p_11, f_11, c_11, a_14, p_14, f_14, c_14, a_16, p_16, f_16, c_16, a_18, p_18, f_18, c_18, a_21, p_21, f_21, c_21, a_23, p_23, f_23, c_23, a_25, p_25, f_25, c_25, a_30, p_30, f_30, c_30, a_32, p_32, f_32, c_32, a_34, p_34, f_34, c_34, a_36, p_36, f_36, c_36, a_38, p_38, f_38, c_38, a_40, p_40, f_40, c_40, a_44, p_44, f_44, c_44, a_46, p_46, f_46, c_46, a_48, p_48, f_48, c_48, a_50, p_50, f_50, c_50, a_53, p_53, f_53, c_53, a_55, p_55, f_55, c_55, a_57, p_57, f_57, c_57, a_59, p_59, f_59, c_59, a_61, p_61, f_61, c_61, a_63, p_63, f_63, c_63, a_65, p_65, f_65, c_65, a_67, p_67, f_67, c_67, a_69, p_69, f_69, c_69, a_71, p_71, f_71, c_71, a_73, p_73, f_73, c_73, c_1, i_1, w_1, z0_1, z1_1, c_2, i_2, w_2, z0_2, z1_2, c_4, i_4, w_4, z0_4, z1_4, c_6, i_6, w_6, z0_6, z1_6, c_13, i_13, w_13, z0_13, z1_13, c_20, i_20, w_20, z0_20, z1_20, c_27, i_27, w_27, z0_27, z1_27, c_28, i_28, w_28, z0_28, z1_28, c_29, i_29, w_29, z0_29, z1_29, c_42, i_42, w_42, z0_42, z1_42, c_43, i_43, w_43, z0_43, z1_43, c_52, i_52, w_52, z0_52, z1_52, X1_size, X1_literal, X1_numberOfStep, X1_ofFormula, X1_inAll, X1_user, X9_codeOf, X1_firstUse, X1_endOfUses, X2_open, X2_at, X2_add, X2_drop, X2_clear, X4_fuelLeft, X4_isActive, X4_isMarked, X4_mark, X4_usedCount, X4_usedAt, X4_setActive, X4_forget, X4_truthOf, hD1.2.1 k k1 k2, wr_57 (show k < 601 by omega), hA, hDA.2.1 k k1 k2, fA 52 (by decide) (by decide), c2, wr_59 (show c < 601 by omega), fX4_begin_114, nI_1, up_ne (show (52 : Nat) ≠ 60 by decide)]
      · rw [if_neg z] at hA hD1
        rw [if_pos (nI_lt (show nc < k by omega) (by omega))]
        simp only [bnd_x, gd_0, gd_1, gd_o0, gd_o1, ite_self, rf_1_0, rf_1_1, rf_1_5, rf_1_6, rf_1_7, rf_2_0, rf_4_0, rf_6_0, rf_6_1, rf_6_2, rf_7_0, rf_9_0, rf_11_0, rf_13_0, rf_13_1, rf_13_2, rf_14_0, rf_16_0, rf_18_0, rf_20_0, rf_20_1, rf_20_2, rf_21_0, rf_23_0, rf_25_0, rf_27_0, rf_29_0, rf_29_1, rf_29_2, rf_29_3, rf_29_4, rf_29_5, rf_30_0, rf_32_0, rf_34_0, rf_36_0, rf_38_0, rf_40_0, rf_42_0, rf_42_1, rf_42_2, rf_42_3, rf_43_0, rf_43_1, rf_43_2, rf_44_0, rf_46_0, rf_48_0, rf_50_0, rf_52_0, rf_52_1, rf_52_2, rf_52_3, rf_52_4, rf_52_5, rf_52_6, rf_52_7, rf_52_8, rf_52_9, rf_52_10, rf_52_11, rf_53_0, rf_55_0, rf_57_0, rf_59_0, rf_61_0, rf_63_0, rf_65_0, rf_67_0, rf_69_0, rf_71_0, rf_73_0, a_7, p_7, f_7, c_7, a_9, p_9, f_9, c_9, a_11, p_11, f_11, c_11, a_14, p_14, f_14, c_14, a_16, p_16, f_16, c_16, a_18, p_18, f_18, c_18, a_21, p_21, f_21, c_21, a_23, p_23, f_23, c_23, a_25, p_25, f_25, c_25, a_30, p_30, f_30, c_30, a_32, p_32, f_32, c_32, a_34, p_34, f_34, c_34, a_36, p_36, f_36, c_36, a_38, p_38, f_38, c_38, a_40, p_40, f_40, c_40, a_44, p_44, f_44, c_44, a_46, p_46, f_46, c_46, a_48, p_48, f_48, c_48, a_50, p_50, f_50, c_50, a_53, p_53, f_53, c_53, a_55, p_55, f_55, c_55, a_57, p_57, f_57, c_57, a_59, p_59, f_59, c_59, a_61, p_61, f_61, c_61, a_63, p_63, f_63, c_63, a_65, p_65, f_65, c_65, a_67, p_67, f_67, c_67, a_69, p_69, f_69, c_69, a_71, p_71, f_71, c_71, a_73, p_73, f_73, c_73, c_1, i_1, w_1, z0_1, z1_1, c_2, i_2, w_2, z0_2, z1_2, c_4, i_4, w_4, z0_4, z1_4, c_6, i_6, w_6, z0_6, z1_6, c_13, i_13, w_13, z0_13, z1_13, c_20, i_20, w_20, z0_20, z1_20, c_27, i_27, w_27, z0_27, z1_27, c_28, i_28, w_28, z0_28, z1_28, c_29, i_29, w_29, z0_29, z1_29, c_42, i_42, w_42, z0_42, z1_42, c_43, i_43, w_43, z0_43, z1_43, c_52, i_52, w_52, z0_52, z1_52, X1_size, X1_literal, X1_numberOfStep, X1_ofFormula, X1_inAll, X1_user, X9_codeOf, X1_firstUse, X1_endOfUses, X2_open, X2_at, X2_add, X2_drop, X2_clear, X4_fuelLeft, X4_isActive, X4_isMarked, X4_mark, X4_usedCount, X4_usedAt, X4_setActive, X4_forget, X4_truthOf, hD1.2.1 k k1 k2, wr_57 (show k < 601 by omega), hA, hDA.2.1 k k1 k2, fA 52 (by decide) (by decide), c2, wr_59 (show c < 601 by omega), fX4_begin_114, nI_1, up_ne (show (52 : Nat) ≠ 60 by decide)]
    have fin : ∀ B : Nat → Nat → Int32, (∀ a, a ≠ 52 → a ≠ 60 → B a = A a) → (∀ j, j ≠ 12 → B 52 j = A 52 j) → SOp B (k + 1) sz → fX4_begin_29 (f + 1) 52 (nI k) (st I v J) = fX4_begin_29 f 52 (nI (k + 1)) (st B v J) →
        ∃ I1, fX4_begin_29 (f + 1) 52 (nI k) (st I v J) = some (st I1 v J) ∧ (∀ q, k ≤ q → q ≤ N → I1 54 q = (if q ≤ nc then 1 else 0) ∧ I1 58 q = nI (sz q)) ∧ (∀ q, q < k → I1 54 q = I 54 q ∧ I1 58 q = I 58 q) ∧ SO I1 N sz ∧ (∀ j, j ≠ 12 → I1 52 j = I 52 j) ∧ (∀ a, a ≠ 52 → a ≠ 54 → a ≠ 58 → a ≠ 60 → I1 a = I a) := by
      intro B b1 b2 b3 b4
      obtain ⟨I1, f1, f2, f3, f4, f5, f6⟩ := ih (k + 1) f B (by omega) (by omega) (by omega) (DBC_fr hDA (b1 _ (by decide) (by decide)) (b1 _ (by decide) (by decide)) (b1 _ (by decide) (by decide))) (by rw [b1 29 (by decide) (by decide), fA 29 (by decide) (by decide)]; exact h8) b3
      refine ⟨I1, by rw [b4, f1], ?_, ?_, f4, ?_, ?_⟩
      · intro q q1 q2
        by_cases e : q = k
        · subst e
          rw [(f3 q (by omega)).1, (f3 q (by omega)).2, b1 54 (by decide) (by decide), b1 58 (by decide) (by decide), A54, A58, vup_s, vup_s]
          exact ⟨rfl, rfl⟩
        · exact f2 q (by omega) q2
      · intro q hq
        rw [(f3 q (by omega)).1, (f3 q (by omega)).2, b1 54 (by decide) (by decide), b1 58 (by decide) (by decide), A54, A58, vup_n (by omega), vup_n (by omega)]
        exact ⟨rfl, rfl⟩
      · intro j hj
        rw [f5 j hj, b2 j hj, fA 52 (by decide) (by decide)]
      · intro a a1 a2 a3 a4
        rw [f6 a a1 a2 a3 a4, b1 a a1 a4, fA a a2 a3]
    by_cases z : sz k ≤ 1
    · rw [if_neg (show ¬ (1 : Int32) < nI (sz k) from nI_nlt (a := 1) (b := sz k) z (by decide))] at step
      refine fin _ (fun a a1 a2 => by rw [up_ne a1, up_ne a2]) (fun j hj => by rw [up_at, vup_n hj, up_ne (by decide)]) ?_ step
      refine ⟨c + 1, by omega, by rw [up_self], ?_, ?_⟩
      · intro i hi
        rw [up_ne (show (60 : Nat) ≠ 52 by decide), up_at]
        by_cases e : i = c
        · subst e; exact ⟨k, k1, by omega, z, vup_s ..⟩
        · rw [vup_n e, fA 60 (by decide) (by decide)]
          obtain ⟨q, q1, q2, q3⟩ := c3 i (by omega)
          exact ⟨q, q1, by omega, q3⟩
      · intro q q1 q2 q3
        rw [up_ne (show (60 : Nat) ≠ 52 by decide), up_at]
        by_cases e : q = k
        · subst e; exact ⟨c, by omega, vup_s ..⟩
        · obtain ⟨i, i1, i2⟩ := c4 q q1 (by omega) q3
          exact ⟨i, by omega, by rw [vup_n (by omega), fA 60 (by decide) (by decide)]; exact i2⟩
    · rw [if_pos (show (1 : Int32) < nI (sz k) from nI_lt (a := 1) (b := sz k) (by omega) (by omega))] at step
      refine fin A (fun _ _ _ => rfl) (fun _ _ => rfl) ?_ step
      refine ⟨c, by omega, by rw [fA 52 (by decide) (by decide)]; exact c2, ?_, ?_⟩
      · intro i hi
        rw [fA 60 (by decide) (by decide)]
        obtain ⟨q, q1, q2, q3⟩ := c3 i hi
        exact ⟨q, q1, by omega, q3⟩
      · intro q q1 q2 q3
        rw [fA 60 (by decide) (by decide)]
        have : q ≠ k := fun e => z (e ▸ q3)
        exact c4 q q1 (by omega) q3
theorem begin_c {v : zV} {J : Nat → Nat → Int64} (hO : OKD N sz lt) {nc : Nat} (hnc : nc ≤ 300) {I : Nat → Nat → Int32} (hD : DBC I N sz lt) (h8 : I 29 8 = nI nc) {rat un : Int32} (hr : rat = 0 ∨ rat = 1) (hu : un = 0 ∨ un = 1) (fu : Nat) :
    ∃ I1, fX3_begin 42 rat un (nI fu) (st I v J) = some (st I1 v J) ∧ FrC I I1 ∧ I1 42 4 = rat ∧ I1 42 5 = un ∧ I1 42 6 = -1 ∧ I1 42 7 = -1 ∧ I1 42 8 = -1 ∧ I1 42 9 = 0 ∧ I1 42 10 = 0 ∧ I1 52 17 = nI fu ∧ I1 52 14 = 0 ∧ (∀ x, x < 151 → I1 64 x = 0) ∧ (∀ k, 1 ≤ k → k ≤ N → I1 54 k = (if k ≤ nc then 1 else 0) ∧ I1 58 k = nI (sz k)) ∧ SO I1 N sz ∧ I1 43 3 = 0 ∧ (∀ j, j < 601 → I1 56 j = 0 ∧ I1 47 j = 0 ∧ I1 49 j = 0) ∧ (∀ j, j < 301 → I1 51 j = 0) := by
  have hN := hO.1
  have hz := zfu_big
  generalize hB : fillN (up (up (up (fillN (up (up (up (cfg I) 42 4 rat) 42 5 un) 52 17 0) 56 601 0) 52 17 (nI fu)) 52 14 0) 52 12 0) 64 151 0 = B
  have B52 : B 52 = vup (vup (vup (vup (cfg I 52) 17 0) 17 (nI fu)) 14 0) 12 0 := by rw [← hB, fill_ne (by decide), up_at, up_at, up_at, fill_ne (by decide), up_at, up_ne (by decide), up_ne (by decide)]
  have Bne : ∀ a, a ≠ 42 → a ≠ 52 → a ≠ 56 → a ≠ 64 → B a = cfg I a := fun a a1 a2 a3 a4 => by rw [← hB, fill_ne a4, up_ne a2, up_ne a2, up_ne a2, fill_ne a3, up_ne a2, up_ne a1, up_ne a1]
  have B42 : B 42 = vup (vup (cfg I 42) 4 rat) 5 un := by rw [← hB, fill_ne (by decide), up_ne (by decide), up_ne (by decide), up_ne (by decide), fill_ne (by decide), up_ne (by decide), up_at, up_at]
  have B56 : ∀ j, j < 601 → B 56 j = 0 := fun j hj => by rw [← hB, fill_ne (by decide), up_ne (by decide), up_ne (by decide), up_ne (by decide), fill_at hj]
  have B64 : ∀ j, j < 151 → B 64 j = 0 := fun j hj => by rw [← hB, fill_at hj]
  have Blow : ∀ a, a < 42 ∨ 74 < a → B a = I a := fun a ha => by
    rw [Bne a (by omega) (by omega) (by omega) (by omega)]
    exact cfg_fr (by simp only [List.mem_cons, List.not_mem_nil, or_false]; omega)
  have hDB : DBC B N sz lt := DBC_fr hD (Blow 29 (by omega)) (Blow 31 (by omega)) (Blow 33 (by omega))
  obtain ⟨I1, f1, f2, f3, f4, f5, f6⟩ := xb_loop (v := v) (J := J) hO hnc N 1 zfu B (by omega) (by omega) (by omega) hDB (by rw [Blow 29 (by omega)]; exact h8) ⟨0, by omega, by rw [B52, vup_s]; rfl, fun i hi => by omega, fun k k1 k2 => by omega⟩
  rw [show nI 1 = (1 : Int32) from rfl] at f1
  obtain ⟨c6, c7, c8, c9, c10, cj⟩ := cfg_42 (I := I)
  obtain ⟨r52, r43, r56, r51⟩ := cfg_r (I := I)
  have I42 : I1 42 = vup (vup (cfg I 42) 4 rat) 5 un := by rw [f6 42 (by decide) (by decide) (by decide) (by decide), B42]
  refine ⟨I1, ?_, fun a ha => by rw [f6 a (by omega) (by omega) (by omega) (by omega), Blow a ha], ?_, ?_, ?_, ?_, ?_, ?_, ?_, ?_, ?_, ?_, fun k k1 k2 => f2 k k1 k2, f4, ?_, ?_, ?_⟩
  · unfold fX3_begin
    simp only [forget_ok, bnd_x, gd_0, gd_1, gd_o0, gd_o1, ite_self, rf_1_0, rf_1_1, rf_1_5, rf_1_6, rf_1_7, rf_2_0, rf_4_0, rf_6_0, rf_6_1, rf_6_2, rf_7_0, rf_9_0, rf_11_0, rf_13_0, rf_13_1, rf_13_2, rf_14_0, rf_16_0, rf_18_0, rf_20_0, rf_20_1, rf_20_2, rf_21_0, rf_23_0, rf_25_0, rf_27_0, rf_29_0, rf_29_1, rf_29_2, rf_29_3, rf_29_4, rf_29_5, rf_30_0, rf_32_0, rf_34_0, rf_36_0, rf_38_0, rf_40_0, rf_42_0, rf_42_1, rf_42_2, rf_42_3, rf_43_0, rf_43_1, rf_43_2, rf_44_0, rf_46_0, rf_48_0, rf_50_0, rf_52_0, rf_52_1, rf_52_2, rf_52_3, rf_52_4, rf_52_5, rf_52_6, rf_52_7, rf_52_8, rf_52_9, rf_52_10, rf_52_11, rf_53_0, rf_55_0, rf_57_0, rf_59_0, rf_61_0, rf_63_0, rf_65_0, rf_67_0, rf_69_0, rf_71_0, rf_73_0, a_7, p_7, f_7, c_7, a_9, p_9, f_9, c_9, a_11, p_11, f_11, c_11, a_14, p_14, f_14, c_14, a_16, p_16, f_16, c_16, a_18, p_18, f_18, c_18, a_21, p_21, f_21, c_21, a_23, p_23, f_23, c_23, a_25, p_25, f_25, c_25, a_30, p_30, f_30, c_30, a_32, p_32, f_32, c_32, a_34, p_34, f_34, c_34, a_36, p_36, f_36, c_36, a_38, p_38, f_38, c_38, a_40, p_40, f_40, c_40, a_44, p_44, f_44, c_44, a_46, p_46, f_46, c_46, a_48, p_48, f_48, c_48, a_50, p_50, f_50, c_50, a_53, p_53, f_53, c_53, a_55, p_55, f_55, c_55, a_57, p_57, f_57, c_57, a_59, p_59, f_59, c_59, a_61, p_61, f_61, c_61, a_63, p_63, f_63, c_63, a_65, p_65, f_65, c_65, a_67, p_67, f_67, c_67, a_69, p_69, f_69, c_69, a_71, p_71, f_71, c_71, a_73, p_73, f_73, c_73, c_1, i_1, w_1, z0_1, z1_1, c_2, i_2, w_2, z0_2, z1_2, c_4, i_4, w_4, z0_4, z1_4, c_6, i_6, w_6, z0_6, z1_6, c_13, i_13, w_13, z0_13, z1_13, c_20, i_20, w_20, z0_20, z1_20, c_27, i_27, w_27, z0_27, z1_27, c_28, i_28, w_28, z0_28, z1_28, c_29, i_29, w_29, z0_29, z1_29, c_42, i_42, w_42, z0_42, z1_42, c_43, i_43, w_43, z0_43, z1_43, c_52, i_52, w_52, z0_52, z1_52, X1_size, X1_literal, X1_numberOfStep, X1_ofFormula, X1_inAll, X1_user, X9_codeOf, X1_firstUse, X1_endOfUses, X2_open, X2_at, X2_add, X2_drop, X2_clear, X4_fuelLeft, X4_isActive, X4_isMarked, X4_mark, X4_usedCount, X4_usedAt, X4_setActive, X4_forget, X4_truthOf, z_42 4 hr, z_42 5 hu]
    unfold fX4_begin
    simp only [bnd_x, gd_0, gd_1, gd_o0, gd_o1, ite_self, rf_1_0, rf_1_1, rf_1_5, rf_1_6, rf_1_7, rf_2_0, rf_4_0, rf_6_0, rf_6_1, rf_6_2, rf_7_0, rf_9_0, rf_11_0, rf_13_0, rf_13_1, rf_13_2, rf_14_0, rf_16_0, rf_18_0, rf_20_0, rf_20_1, rf_20_2, rf_21_0, rf_23_0, rf_25_0, rf_27_0, rf_29_0, rf_29_1, rf_29_2, rf_29_3, rf_29_4, rf_29_5, rf_30_0, rf_32_0, rf_34_0, rf_36_0, rf_38_0, rf_40_0, rf_42_0, rf_42_1, rf_42_2, rf_42_3, rf_43_0, rf_43_1, rf_43_2, rf_44_0, rf_46_0, rf_48_0, rf_50_0, rf_52_0, rf_52_1, rf_52_2, rf_52_3, rf_52_4, rf_52_5, rf_52_6, rf_52_7, rf_52_8, rf_52_9, rf_52_10, rf_52_11, rf_53_0, rf_55_0, rf_57_0, rf_59_0, rf_61_0, rf_63_0, rf_65_0, rf_67_0, rf_69_0, rf_71_0, rf_73_0, a_7, p_7, f_7, c_7, a_9, p_9, f_9, c_9, a_11, p_11, f_11, c_11, a_14, p_14, f_14, c_14, a_16, p_16, f_16, c_16, a_18, p_18, f_18, c_18, a_21, p_21, f_21, c_21, a_23, p_23, f_23, c_23, a_25, p_25, f_25, c_25, a_30, p_30, f_30, c_30, a_32, p_32, f_32, c_32, a_34, p_34, f_34, c_34, a_36, p_36, f_36, c_36, a_38, p_38, f_38, c_38, a_40, p_40, f_40, c_40, a_44, p_44, f_44, c_44, a_46, p_46, f_46, c_46, a_48, p_48, f_48, c_48, a_50, p_50, f_50, c_50, a_53, p_53, f_53, c_53, a_55, p_55, f_55, c_55, a_57, p_57, f_57, c_57, a_59, p_59, f_59, c_59, a_61, p_61, f_61, c_61, a_63, p_63, f_63, c_63, a_65, p_65, f_65, c_65, a_67, p_67, f_67, c_67, a_69, p_69, f_69, c_69, a_71, p_71, f_71, c_71, a_73, p_73, f_73, c_73, c_1, i_1, w_1, z0_1, z1_1, c_2, i_2, w_2, z0_2, z1_2, c_4, i_4, w_4, z0_4, z1_4, c_6, i_6, w_6, z0_6, z1_6, c_13, i_13, w_13, z0_13, z1_13, c_20, i_20, w_20, z0_20, z1_20, c_27, i_27, w_27, z0_27, z1_27, c_28, i_28, w_28, z0_28, z1_28, c_29, i_29, w_29, z0_29, z1_29, c_42, i_42, w_42, z0_42, z1_42, c_43, i_43, w_43, z0_43, z1_43, c_52, i_52, w_52, z0_52, z1_52, X1_size, X1_literal, X1_numberOfStep, X1_ofFormula, X1_inAll, X1_user, X9_codeOf, X1_firstUse, X1_endOfUses, X2_open, X2_at, X2_add, X2_drop, X2_clear, X4_fuelLeft, X4_isActive, X4_isMarked, X4_mark, X4_usedCount, X4_usedAt, X4_setActive, X4_forget, X4_truthOf, hB, f1]
  · rw [I42, vup_n (by decide), vup_s]
  · rw [I42, vup_s]
  · rw [I42, vup_n (by decide), vup_n (by decide), c6]
  · rw [I42, vup_n (by decide), vup_n (by decide), c7]
  · rw [I42, vup_n (by decide), vup_n (by decide), c8]
  · rw [I42, vup_n (by decide), vup_n (by decide), c9]
  · rw [I42, vup_n (by decide), vup_n (by decide), c10]
  · rw [f5 17 (by decide), B52, vup_n (by decide), vup_n (by decide), vup_s]
  · rw [f5 14 (by decide), B52, vup_n (by decide), vup_s]
  · intro x hx; rw [f6 64 (by decide) (by decide) (by decide) (by decide)]; exact B64 x hx
  · rw [f6 43 (by decide) (by decide) (by decide) (by decide), Bne 43 (by decide) (by decide) (by decide) (by decide)]; exact r43
  · intro j hj
    rw [f6 56 (by decide) (by decide) (by decide) (by decide), f6 47 (by decide) (by decide) (by decide) (by decide), f6 49 (by decide) (by decide) (by decide) (by decide), Bne 47 (by decide) (by decide) (by decide) (by decide), Bne 49 (by decide) (by decide) (by decide) (by decide)]
    exact ⟨B56 j hj, (r56 j hj).2⟩
  · intro j hj
    rw [f6 51 (by decide) (by decide) (by decide) (by decide), Bne 51 (by decide) (by decide) (by decide) (by decide)]; exact r51 j hj
theorem w86_loop {v : zV} {J : Nat → Nat → Int64} {ns : Nat} (hns : ns ≤ 300) (bk rat un fuel : Int32) : ∀ (d i f : Nat) (I : Nat → Nat → Int32), i + d = ns + 1 → d < f → I 75 20 = nI ns →
    ∃ I1, fX10_weigh_86 f 75 bk rat un fuel (nI i) (st I v J) = (bnd (fX10_fromNothing 75 (st I1 v J)) fun q => fX10_weigh_152 zfu 75 bk rat un 0 q) ∧ (∀ q, i ≤ q → q ≤ ns → I1 95 q = 0) ∧ (∀ q, q < i → I1 95 q = I 95 q) ∧ I1 75 34 = 1 ∧ I1 75 38 = fuel ∧ I1 75 39 = 0 ∧ I1 75 40 = 0 ∧ I1 75 56 = 0 ∧ I1 75 52 = 0 ∧ I1 75 37 = -1 ∧ (∀ j, j < 34 ∨ 56 < j → I1 75 j = I 75 j) ∧ (∀ a, a ≠ 75 → a ≠ 95 → I1 a = I a) := by
  intro d
  induction d with
  | zero =>
    intro i f I hi hf h20
    obtain ⟨f, rfl⟩ : ∃ m, f = m + 1 := ⟨f - 1, by omega⟩
    refine ⟨up (up (up (up (up (up (up I 75 34 1) 75 38 fuel) 75 39 0) 75 40 0) 75 56 0) 75 52 0) 75 37 (-1), ?_, fun q q1 q2 => by omega, fun q _ => ?_, ?_, ?_, ?_, ?_, ?_, ?_, ?_, ?_, ?_⟩
    · conv => lhs; unfold fX10_weigh_86
      simp only [bnd_x, gd_0, gd_1, gd_o0, gd_o1, ite_self, rf_75_1, rf_75_3, rf_75_12, rf_75_13, rf_75_14, rf_75_15, rf_75_16, rf_75_17, rf_75_18, rf_75_22, rf_75_23, rf_75_24, rf_75_25, rf_75_31, rf_75_32, rf_75_41, rf_75_42, rf_75_43, rf_75_44, rf_75_45, rf_75_46, rf_75_47, rf_75_48, rf_75_53, rf_75_54, rf_75_55, rf_75_57, c_75, i_75, w_75, z0_75, z1_75, h20, if_pos (nI_lt (show ns < i by omega) (show i < 2 ^ 31 by omega))]
    · simp [up]
    · simp [up]
    · simp [up]
    · simp [up]
    · simp [up]
    · simp [up]
    · simp [up]
    · simp [up]
    · intro j hj
      rw [up_at, vup_n (by omega), up_at, vup_n (by omega), up_at, vup_n (by omega), up_at, vup_n (by omega), up_at, vup_n (by omega), up_at, vup_n (by omega), up_at, vup_n (by omega)]
    · intro a a1 a2
      rw [up_ne a1, up_ne a1, up_ne a1, up_ne a1, up_ne a1, up_ne a1, up_ne a1]
  | succ d ih =>
    intro i f I hi hf h20
    obtain ⟨f, rfl⟩ : ∃ m, f = m + 1 := ⟨f - 1, by omega⟩
    obtain ⟨I1, f1, f2, f3, f4, f5, f6, f7, f8, f9, f10, f11, f12⟩ := ih (i + 1) f (up I 95 i 0) (by omega) (by omega) (by rw [up_ne (by decide)]; exact h20)
    refine ⟨I1, ?_, ?_, ?_, f4, f5, f6, f7, f8, f9, f10, fun j hj => by rw [f11 j hj, up_ne (by decide)], fun a a1 a2 => by rw [f12 a a1 a2, up_ne a2]⟩
    · conv => lhs; unfold fX10_weigh_86
      simp only [bnd_x, gd_0, gd_1, gd_o0, gd_o1, ite_self, rf_75_1, rf_75_3, rf_75_12, rf_75_13, rf_75_14, rf_75_15, rf_75_16, rf_75_17, rf_75_18, rf_75_22, rf_75_23, rf_75_24, rf_75_25, rf_75_31, rf_75_32, rf_75_41, rf_75_42, rf_75_43, rf_75_44, rf_75_45, rf_75_46, rf_75_47, rf_75_48, rf_75_53, rf_75_54, rf_75_55, rf_75_57, c_75, i_75, w_75, z0_75, z1_75, h20, if_neg (nI_nlt (show i ≤ ns by omega) (show ns < 2 ^ 31 by omega)), ua_95 (show i < 301 by omega), nI_1]
      exact f1
    · intro q q1 q2
      by_cases e : q = i
      · subst e; rw [f3 q (by omega), up_self]
      · exact f2 q (by omega) q2
    · intro q hq
      rw [f3 q (by omega), up_at, vup_n (by omega)]
theorem w26_loop {v : zV} {J : Nat → Nat → Int64} (hN : N ≤ 600) {nc : Nat} (hnc : nc ≤ 300) (bk rat un fuel : Int32) : ∀ (d k f : Nat) (I : Nat → Nat → Int32), k + d = N + 1 → d < f → I 75 33 = nI N → I 75 19 = nI nc →
    ∃ I1, fX10_weigh_26 f 75 bk rat un fuel (nI k) (st I v J) = fX10_weigh_86 zfu 75 bk rat un fuel 0 (st I1 v J) ∧ (∀ q, k ≤ q → q ≤ N → I1 91 q = (if 1 ≤ q ∧ q ≤ nc then 1 else 0) ∧ I1 92 q = 0 ∧ I1 101 q = 0) ∧ (∀ q, q < k → I1 91 q = I 91 q ∧ I1 92 q = I 92 q ∧ I1 101 q = I 101 q) ∧ (∀ a, a ≠ 91 → a ≠ 92 → a ≠ 101 → I1 a = I a) := by
  intro d
  induction d with
  | zero =>
    intro k f I hk hf h33 h19
    obtain ⟨f, rfl⟩ : ∃ m, f = m + 1 := ⟨f - 1, by omega⟩
    refine ⟨I, ?_, fun q q1 q2 => by omega, fun _ _ => ⟨rfl, rfl, rfl⟩, fun _ _ _ _ => rfl⟩
    conv => lhs; unfold fX10_weigh_26
    simp only [bnd_x, gd_0, gd_1, gd_o0, gd_o1, ite_self, rf_75_1, rf_75_3, rf_75_12, rf_75_13, rf_75_14, rf_75_15, rf_75_16, rf_75_17, rf_75_18, rf_75_22, rf_75_23, rf_75_24, rf_75_25, rf_75_31, rf_75_32, rf_75_41, rf_75_42, rf_75_43, rf_75_44, rf_75_45, rf_75_46, rf_75_47, rf_75_48, rf_75_53, rf_75_54, rf_75_55, rf_75_57, c_75, i_75, w_75, z0_75, z1_75, h33, if_pos (nI_lt (show N < k by omega) (show k < 2 ^ 31 by omega))]
  | succ d ih =>
    intro k f I hk hf h33 h19
    obtain ⟨f, rfl⟩ : ∃ m, f = m + 1 := ⟨f - 1, by omega⟩
    generalize hx : (if 1 ≤ k ∧ k ≤ nc then (1 : Int32) else 0) = x
    have hx01 : x = 0 ∨ x = 1 := by rw [← hx]; split <;> simp
    obtain ⟨I1, f1, f2, f3, f4⟩ := ih (k + 1) f (up (up (up I 91 k x) 92 k 0) 101 k 0) (by omega) (by omega) (by rw [up_ne (by decide), up_ne (by decide), up_ne (by decide)]; exact h33) (by rw [up_ne (by decide), up_ne (by decide), up_ne (by decide)]; exact h19)
    refine ⟨I1, ?_, ?_, ?_, ?_⟩
    · have e60 : fX10_weigh_60 (fX10_weigh_26 f) 75 bk rat un fuel (nI k) x (nI k) 91 (st I v J) = fX10_weigh_26 f 75 bk rat un fuel (nI (k + 1)) (st (up (up (up I 91 k x) 92 k 0) 101 k 0) v J) := by
        unfold fX10_weigh_60
        simp only [bnd_x, gd_0, gd_1, gd_o0, gd_o1, ite_self, rf_75_1, rf_75_3, rf_75_12, rf_75_13, rf_75_14, rf_75_15, rf_75_16, rf_75_17, rf_75_18, rf_75_22, rf_75_23, rf_75_24, rf_75_25, rf_75_31, rf_75_32, rf_75_41, rf_75_42, rf_75_43, rf_75_44, rf_75_45, rf_75_46, rf_75_47, rf_75_48, rf_75_53, rf_75_54, rf_75_55, rf_75_57, c_75, i_75, w_75, z0_75, z1_75, uz_91 (show k < 601 by omega) hx01, uz_92 (show k < 601 by omega) (Or.inl rfl), ua_101 (show k < 601 by omega), nI_1]
      conv => lhs; unfold fX10_weigh_26
      simp only [bnd_x, gd_0, gd_1, gd_o0, gd_o1, ite_self, rf_75_1, rf_75_3, rf_75_12, rf_75_13, rf_75_14, rf_75_15, rf_75_16, rf_75_17, rf_75_18, rf_75_22, rf_75_23, rf_75_24, rf_75_25, rf_75_31, rf_75_32, rf_75_41, rf_75_42, rf_75_43, rf_75_44, rf_75_45, rf_75_46, rf_75_47, rf_75_48, rf_75_53, rf_75_54, rf_75_55, rf_75_57, c_75, i_75, w_75, z0_75, z1_75, h33, if_neg (nI_nlt (show k ≤ N by omega) (show N < 2 ^ 31 by omega)), h19, fX10_weigh_59]
      rw [← f1, ← e60, ← hx]
      by_cases z0 : k = 0
      · subst z0
        rw [if_pos (by decide), if_neg (by omega)]
      · rw [if_neg (nI_nle (show 0 < k by omega) (by omega))]
        by_cases z : k ≤ nc
        · rw [if_neg (nI_nlt z (by omega)), if_pos ⟨by omega, z⟩]
        · rw [if_pos (nI_lt (show nc < k by omega) (by omega)), if_neg (by omega)]
    · intro q q1 q2
      by_cases e : q = k
      · subst e
        obtain ⟨y1, y2, y3⟩ := f3 q (by omega)
        rw [y1, y2, y3, up_ne (by decide), up_ne (by decide), up_self, up_ne (by decide), up_self, up_self, hx]
        exact ⟨rfl, rfl, rfl⟩
      · exact f2 q (by omega) q2
    · intro q hq
      obtain ⟨y1, y2, y3⟩ := f3 q (by omega)
      rw [y1, y2, y3, up_ne (by decide), up_ne (by decide), up_at, vup_n (by omega), up_ne (show (92 : Nat) ≠ 101 by decide), up_at, vup_n (by omega), up_ne (show (92 : Nat) ≠ 91 by decide), up_at, vup_n (by omega), up_ne (show (101 : Nat) ≠ 92 by decide), up_ne (show (101 : Nat) ≠ 91 by decide)]
      exact ⟨rfl, rfl, rfl⟩
    · intro a a1 a2 a3
      rw [f4 a a1 a2 a3, up_ne a3, up_ne a2, up_ne a1]
/-- what stands between calls of the clauses -/
def S0 (I I' : Nat → Nat → Int32) (f N : Nat) (sz : Nat → Nat) (lt : Nat → Nat → Int32) (ns : Nat) : Prop :=
  OKD N sz lt ∧ DBC I N sz lt ∧ USC I N sz lt ∧ DBR I' N sz lt ∧ STAT I I' f N sz lt ns ∧ I' 75 19 = I 29 8
theorem weigh_lock {v v' : zV} {J J' : Nat → Nat → Int64} {I I' : Nat → Nat → Int32} {ns : Nat} (h : S0 I I' v.2.2.2.2.2.2 N sz lt ns) {bk rat un : Int32} (hb : bk = 0 ∨ bk = 1) (hr : rat = 0 ∨ rat = 1) (hu : un = 0 ∨ un = 1) {fu : Nat} (hf : fu ≤ 20000) :
    ∃ I1 I2 r, fX9_weigh 1 bk rat un (nI fu) (st I v J) = some (some r, st I1 v J) ∧ fX10_weigh 75 bk rat un (nI fu) (st I' v' J') = some (r, st I2 v' J') ∧ WF I1 I2 v.2.2.2.2.2.2 N sz lt ns ∧ FrC I I1 ∧ (∀ a, (a < 91 ∧ a ≠ 75) ∨ 101 < a → I2 a = I' a) ∧ (∀ j, (0 < j ∧ j < 34) ∨ 56 < j → I2 75 j = I' 75 j) ∧ I2 75 34 = 1 ∧ I2 75 0 = 0 ∧ (I1 42 8 = -1 ∨ ∃ c, c ≤ ns ∧ I1 42 8 = nI c) := by
  obtain ⟨hO, hD, hU, hB, hST, h19⟩ := h
  have hN := hO.1
  have hz := zfu_big
  have hns := hST.2.2.1
  obtain ⟨h33, nc, hnc, hnc3, hBk⟩ := hB
  have h8 : I 29 8 = nI nc := by rw [← h19]; exact hnc
  obtain ⟨Ia, c1, c2, c3, c4, c5, c6, c7, c8, c9, c10, c11, c12, c13, c14, c15, c16, c17⟩ := begin_c (v := v) (J := J) hO hnc3 hD h8 hr hu fu
  obtain ⟨Ma, m1, m2, m3, m4⟩ := w26_loop (v := v') (J := J') hN hnc3 bk rat un (nI fu) (N + 1) 0 zfu (up I' 75 0 0) (by omega) (by omega) (by rw [up_at, vup_n (by decide)]; exact h33) (by rw [up_at, vup_n (by decide)]; exact hnc)
  obtain ⟨Mb, e1, e2, e3, e4, e5, e6, e7, e8, e9, e10, e11, e12⟩ := w86_loop (v := v') (J := J') hns bk rat un (nI fu) (ns + 1) 0 zfu Ma (by omega) (by omega) (by rw [m4 75 (by decide) (by decide) (by decide), up_at, vup_n (by decide)]; exact hST.2.2.2.2.1)
  rw [nI_0] at m1 e1
  have Mne : ∀ a, a ≠ 75 → a ≠ 91 → a ≠ 92 → a ≠ 95 → a ≠ 101 → Mb a = I' a := fun a a1 a2 a3 a4 a5 => by rw [e12 a a1 a4, m4 a a2 a3 a5, up_ne a1]
  have M75 : ∀ j, (0 < j ∧ j < 34) ∨ 56 < j → Mb 75 j = I' 75 j := fun j hj => by rw [e11 j (by omega), m4 75 (by decide) (by decide) (by decide), up_at, vup_n (by omega)]
  have hDa : DBC Ia N sz lt := DBC_fr hD (c2 29 (by omega)) (c2 31 (by omega)) (c2 33 (by omega))
  have hRJ : RJ Ia Mb N sz lt := by
    refine ⟨hDa, USC_fr hU (c2 37 (by omega)) (c2 39 (by omega)) (c2 41 (by omega)), DBR_fr ⟨h33, nc, hnc, hnc3, hBk⟩ (M75 33 (by omega)) (M75 19 (by omega)) (Mne _ (by decide) (by decide) (by decide) (by decide) (by decide)) (Mne _ (by decide) (by decide) (by decide) (by decide) (by decide)) (Mne _ (by decide) (by decide) (by decide) (by decide) (by decide)) (Mne _ (by decide) (by decide) (by decide) (by decide) (by decide)) (Mne _ (by decide) (by decide) (by decide) (by decide) (by decide)) (Mne _ (by decide) (by decide) (by decide) (by decide) (by decide)) (Mne _ (by decide) (by decide) (by decide) (by decide) (by decide)), ?_, ⟨0, ?_⟩, ?_, c14, ⟨?_, fu, by omega, c10⟩, ?_⟩
    · intro k k1 k2
      obtain ⟨x1, x2, x3⟩ := m2 k (by omega) k2
      rw [(c13 k k1 k2).1, (c16 k (by omega)).1, e12 91 (by decide) (by decide), e12 92 (by decide) (by decide), x1, x2]
      refine ⟨?_, rfl, ?_, Or.inl rfl⟩
      · by_cases z : k ≤ nc
        · rw [if_pos ⟨k1, z⟩, if_pos z]
        · rw [if_neg (by omega), if_neg z]
      · split <;> simp
    · refine ⟨by rw [c11]; rfl, ?_, ?_, fun t ht => by omega, fun t t' _ ht => by omega, ?_⟩
      · rw [cn_all (fun i hi => by rw [c12 (i + 1) (by omega)]; rfl)]
      · intro x x1 x2; exact Or.inl (c12 x (by omega))
      · intro x x1 x2 x3; exact absurd (c12 x (by omega)) x3
    · intro k k1 k2
      rw [(c13 k k1 k2).2, (lf_zero hO (fun x x1 x2 => c12 x (by omega)) k1 k2).1]
    · rw [e5, c10]
    · refine ⟨0, by omega, by rw [c15]; rfl, by rw [e8]; rfl, fun i hi => by omega, fun k hk => ⟨0, 0, by rw [(c16 k (by omega)).2.1]; rfl, by rw [(c16 k (by omega)).2.2]; rfl, by omega, ?_, fun c => absurd rfl c⟩⟩
      rw [e12 101 (by decide) (by decide), (m2 k (by omega) hk).2.2]; rfl
  have hWR : WR Ia Mb v.2.2.2.2.2.2 N sz lt ns := by
    refine ⟨hRJ, STAT_fr hST (fun r hr => c2 r (by omega)) (fun r r1 r2 r3 => Mne r r2 (by omega) (by omega) (by omega) (by omega)) (M75 20 (by omega)), ?_, by rw [e6, c8], by rw [e7, c9], by rw [e10, c7]⟩
    intro i i1 i2
    exact ⟨0, by omega, by rw [c17 i (by omega)]; rfl, by rw [e2 i (by omega) i2]; rfl⟩
  have h101 : Mb 101 0 = 0 := by rw [e12 101 (by decide) (by decide), (m2 0 (by omega) (by omega)).2.2]
  have hbw : (bk = 0 ∧ (if bk = 0 then (1 : Int32) else 0) = 1) ∨ (bk = 1 ∧ (if bk = 0 then (1 : Int32) else 0) = 0) := by
    rcases hb with q | q
    · exact Or.inl ⟨q, by rw [if_pos q]⟩
    · exact Or.inr ⟨q, by rw [q, if_neg (by decide)]⟩
  obtain ⟨Ic, Mc, g1, g2, g3, g4, g5⟩ := fwd (v := v) (v' := v') (J := J) (J' := J') hO hbw ns 0 zfu zfu Ia Mb (by omega) (by omega) (by omega) hWR e9 h101 c5 c6 c7 c3 c4
  have hfn : ¬ nI fu < 0 := nI_pos (by omega)
  have hfl : nI fu ≤ 20000 := nI_le (b := 20000) hf (by decide)
  have hf0 : v.2.2.2.2.2.2 ≠ 0 := by rcases isSh_i hST.1 with q | q | q <;> rw [q] <;> decide
  have hgo : fX3_goForwards 42 (if bk = 0 then (1 : Int32) else 0) (st Ia v J) = some (st Ic v J) := by
    rw [← g1]
    unfold fX3_goForwards
    obtain ⟨Iq, Mq, l1, -, l3, -⟩ := look3 (v := v) (v' := v') (J := J) (J' := J') hO hWR e9 h101 0
    have hf42 : v.2.2.2.2.2.2 < 42 := by rcases isSh_i hST.1 with q | q | q <;> omega
    have hq : Iq v.2.2.2.2.2.2 3 = nI ns := by
      rw [l3 _ (Or.inl hf42), c2 _ (Or.inl hf42)]; exact hST.2.2.2.1
    rw [nI_0] at l1
    rw [nI_0]
    simp only [bnd_x, gd_0, gd_1, gd_o0, gd_o1, ite_self, rf_1_0, rf_1_1, rf_1_5, rf_1_6, rf_1_7, rf_2_0, rf_4_0, rf_6_0, rf_6_1, rf_6_2, rf_7_0, rf_9_0, rf_11_0, rf_13_0, rf_13_1, rf_13_2, rf_14_0, rf_16_0, rf_18_0, rf_20_0, rf_20_1, rf_20_2, rf_21_0, rf_23_0, rf_25_0, rf_27_0, rf_29_0, rf_29_1, rf_29_2, rf_29_3, rf_29_4, rf_29_5, rf_30_0, rf_32_0, rf_34_0, rf_36_0, rf_38_0, rf_40_0, rf_42_0, rf_42_1, rf_42_2, rf_42_3, rf_43_0, rf_43_1, rf_43_2, rf_44_0, rf_46_0, rf_48_0, rf_50_0, rf_52_0, rf_52_1, rf_52_2, rf_52_3, rf_52_4, rf_52_5, rf_52_6, rf_52_7, rf_52_8, rf_52_9, rf_52_10, rf_52_11, rf_53_0, rf_55_0, rf_57_0, rf_59_0, rf_61_0, rf_63_0, rf_65_0, rf_67_0, rf_69_0, rf_71_0, rf_73_0, a_7, p_7, f_7, c_7, a_9, p_9, f_9, c_9, a_11, p_11, f_11, c_11, a_14, p_14, f_14, c_14, a_16, p_16, f_16, c_16, a_18, p_18, f_18, c_18, a_21, p_21, f_21, c_21, a_23, p_23, f_23, c_23, a_25, p_25, f_25, c_25, a_30, p_30, f_30, c_30, a_32, p_32, f_32, c_32, a_34, p_34, f_34, c_34, a_36, p_36, f_36, c_36, a_38, p_38, f_38, c_38, a_40, p_40, f_40, c_40, a_44, p_44, f_44, c_44, a_46, p_46, f_46, c_46, a_48, p_48, f_48, c_48, a_50, p_50, f_50, c_50, a_53, p_53, f_53, c_53, a_55, p_55, f_55, c_55, a_57, p_57, f_57, c_57, a_59, p_59, f_59, c_59, a_61, p_61, f_61, c_61, a_63, p_63, f_63, c_63, a_65, p_65, f_65, c_65, a_67, p_67, f_67, c_67, a_69, p_69, f_69, c_69, a_71, p_71, f_71, c_71, a_73, p_73, f_73, c_73, c_1, i_1, w_1, z0_1, z1_1, c_2, i_2, w_2, z0_2, z1_2, c_4, i_4, w_4, z0_4, z1_4, c_6, i_6, w_6, z0_6, z1_6, c_13, i_13, w_13, z0_13, z1_13, c_20, i_20, w_20, z0_20, z1_20, c_27, i_27, w_27, z0_27, z1_27, c_28, i_28, w_28, z0_28, z1_28, c_29, i_29, w_29, z0_29, z1_29, c_42, i_42, w_42, z0_42, z1_42, c_43, i_43, w_43, z0_43, z1_43, c_52, i_52, w_52, z0_52, z1_52, X1_size, X1_literal, X1_numberOfStep, X1_ofFormula, X1_inAll, X1_user, X9_codeOf, X1_firstUse, X1_endOfUses, X2_open, X2_at, X2_add, X2_drop, X2_clear, X4_fuelLeft, X4_isActive, X4_isMarked, X4_mark, X4_usedCount, X4_usedAt, X4_setActive, X4_forget, X4_truthOf, l1, X1_steps hST.1, hq]
    rfl
  have hC : fX9_weigh 1 bk rat un (nI fu) (st I v J) = bnd (if bk = 0 then some (st Ic v J) else fX3_goBack 42 (st Ic v J)) fun q => fX9_weigh_61 1 q := by
    unfold fX9_weigh
    rw [if_neg hfn, if_pos hfl]
    simp only [bnd_x, gd_0, gd_1, gd_o0, gd_o1, ite_self, rf_1_0, rf_1_1, rf_1_5, rf_1_6, rf_1_7, rf_2_0, rf_4_0, rf_6_0, rf_6_1, rf_6_2, rf_7_0, rf_9_0, rf_11_0, rf_13_0, rf_13_1, rf_13_2, rf_14_0, rf_16_0, rf_18_0, rf_20_0, rf_20_1, rf_20_2, rf_21_0, rf_23_0, rf_25_0, rf_27_0, rf_29_0, rf_29_1, rf_29_2, rf_29_3, rf_29_4, rf_29_5, rf_30_0, rf_32_0, rf_34_0, rf_36_0, rf_38_0, rf_40_0, rf_42_0, rf_42_1, rf_42_2, rf_42_3, rf_43_0, rf_43_1, rf_43_2, rf_44_0, rf_46_0, rf_48_0, rf_50_0, rf_52_0, rf_52_1, rf_52_2, rf_52_3, rf_52_4, rf_52_5, rf_52_6, rf_52_7, rf_52_8, rf_52_9, rf_52_10, rf_52_11, rf_53_0, rf_55_0, rf_57_0, rf_59_0, rf_61_0, rf_63_0, rf_65_0, rf_67_0, rf_69_0, rf_71_0, rf_73_0, a_7, p_7, f_7, c_7, a_9, p_9, f_9, c_9, a_11, p_11, f_11, c_11, a_14, p_14, f_14, c_14, a_16, p_16, f_16, c_16, a_18, p_18, f_18, c_18, a_21, p_21, f_21, c_21, a_23, p_23, f_23, c_23, a_25, p_25, f_25, c_25, a_30, p_30, f_30, c_30, a_32, p_32, f_32, c_32, a_34, p_34, f_34, c_34, a_36, p_36, f_36, c_36, a_38, p_38, f_38, c_38, a_40, p_40, f_40, c_40, a_44, p_44, f_44, c_44, a_46, p_46, f_46, c_46, a_48, p_48, f_48, c_48, a_50, p_50, f_50, c_50, a_53, p_53, f_53, c_53, a_55, p_55, f_55, c_55, a_57, p_57, f_57, c_57, a_59, p_59, f_59, c_59, a_61, p_61, f_61, c_61, a_63, p_63, f_63, c_63, a_65, p_65, f_65, c_65, a_67, p_67, f_67, c_67, a_69, p_69, f_69, c_69, a_71, p_71, f_71, c_71, a_73, p_73, f_73, c_73, c_1, i_1, w_1, z0_1, z1_1, c_2, i_2, w_2, z0_2, z1_2, c_4, i_4, w_4, z0_4, z1_4, c_6, i_6, w_6, z0_6, z1_6, c_13, i_13, w_13, z0_13, z1_13, c_20, i_20, w_20, z0_20, z1_20, c_27, i_27, w_27, z0_27, z1_27, c_28, i_28, w_28, z0_28, z1_28, c_29, i_29, w_29, z0_29, z1_29, c_42, i_42, w_42, z0_42, z1_42, c_43, i_43, w_43, z0_43, z1_43, c_52, i_52, w_52, z0_52, z1_52, X1_size, X1_literal, X1_numberOfStep, X1_ofFormula, X1_inAll, X1_user, X9_codeOf, X1_firstUse, X1_endOfUses, X2_open, X2_at, X2_add, X2_drop, X2_clear, X4_fuelLeft, X4_isActive, X4_isMarked, X4_mark, X4_usedCount, X4_usedAt, X4_setActive, X4_forget, X4_truthOf, c1, fX9_weigh_47]
    rcases hb with q | q
    · rw [if_pos q] at hgo
      rw [if_pos q, if_pos q, hgo, bnd_x, if_pos q, bnd_x]
    · have q0 : ¬ bk = 0 := by rw [q]; decide
      rw [if_neg q0] at hgo
      rw [if_neg q0, if_neg q0, hgo, bnd_x, if_neg q0]
      simp only [bnd_x, gd_0, gd_1, gd_o0, gd_o1, ite_self, rf_1_0, rf_1_1, rf_1_5, rf_1_6, rf_1_7, rf_2_0, rf_4_0, rf_6_0, rf_6_1, rf_6_2, rf_7_0, rf_9_0, rf_11_0, rf_13_0, rf_13_1, rf_13_2, rf_14_0, rf_16_0, rf_18_0, rf_20_0, rf_20_1, rf_20_2, rf_21_0, rf_23_0, rf_25_0, rf_27_0, rf_29_0, rf_29_1, rf_29_2, rf_29_3, rf_29_4, rf_29_5, rf_30_0, rf_32_0, rf_34_0, rf_36_0, rf_38_0, rf_40_0, rf_42_0, rf_42_1, rf_42_2, rf_42_3, rf_43_0, rf_43_1, rf_43_2, rf_44_0, rf_46_0, rf_48_0, rf_50_0, rf_52_0, rf_52_1, rf_52_2, rf_52_3, rf_52_4, rf_52_5, rf_52_6, rf_52_7, rf_52_8, rf_52_9, rf_52_10, rf_52_11, rf_53_0, rf_55_0, rf_57_0, rf_59_0, rf_61_0, rf_63_0, rf_65_0, rf_67_0, rf_69_0, rf_71_0, rf_73_0, a_7, p_7, f_7, c_7, a_9, p_9, f_9, c_9, a_11, p_11, f_11, c_11, a_14, p_14, f_14, c_14, a_16, p_16, f_16, c_16, a_18, p_18, f_18, c_18, a_21, p_21, f_21, c_21, a_23, p_23, f_23, c_23, a_25, p_25, f_25, c_25, a_30, p_30, f_30, c_30, a_32, p_32, f_32, c_32, a_34, p_34, f_34, c_34, a_36, p_36, f_36, c_36, a_38, p_38, f_38, c_38, a_40, p_40, f_40, c_40, a_44, p_44, f_44, c_44, a_46, p_46, f_46, c_46, a_48, p_48, f_48, c_48, a_50, p_50, f_50, c_50, a_53, p_53, f_53, c_53, a_55, p_55, f_55, c_55, a_57, p_57, f_57, c_57, a_59, p_59, f_59, c_59, a_61, p_61, f_61, c_61, a_63, p_63, f_63, c_63, a_65, p_65, f_65, c_65, a_67, p_67, f_67, c_67, a_69, p_69, f_69, c_69, a_71, p_71, f_71, c_71, a_73, p_73, f_73, c_73, c_1, i_1, w_1, z0_1, z1_1, c_2, i_2, w_2, z0_2, z1_2, c_4, i_4, w_4, z0_4, z1_4, c_6, i_6, w_6, z0_6, z1_6, c_13, i_13, w_13, z0_13, z1_13, c_20, i_20, w_20, z0_20, z1_20, c_27, i_27, w_27, z0_27, z1_27, c_28, i_28, w_28, z0_28, z1_28, c_29, i_29, w_29, z0_29, z1_29, c_42, i_42, w_42, z0_42, z1_42, c_43, i_43, w_43, z0_43, z1_43, c_52, i_52, w_52, z0_52, z1_52, X1_size, X1_literal, X1_numberOfStep, X1_ofFormula, X1_inAll, X1_user, X9_codeOf, X1_firstUse, X1_endOfUses, X2_open, X2_at, X2_add, X2_drop, X2_clear, X4_fuelLeft, X4_isActive, X4_isMarked, X4_mark, X4_usedCount, X4_usedAt, X4_setActive, X4_forget, X4_truthOf]
  have h61 : ∀ X : Nat → Nat → Int32, fX9_weigh_61 1 (st X v J) = some (some (X 42 6), st X v J) := by
    intro X
    unfold fX9_weigh_61 fX3_verdict
    simp only [bnd_x, gd_0, gd_1, gd_o0, gd_o1, ite_self, rf_1_0, rf_1_1, rf_1_5, rf_1_6, rf_1_7, rf_2_0, rf_4_0, rf_6_0, rf_6_1, rf_6_2, rf_7_0, rf_9_0, rf_11_0, rf_13_0, rf_13_1, rf_13_2, rf_14_0, rf_16_0, rf_18_0, rf_20_0, rf_20_1, rf_20_2, rf_21_0, rf_23_0, rf_25_0, rf_27_0, rf_29_0, rf_29_1, rf_29_2, rf_29_3, rf_29_4, rf_29_5, rf_30_0, rf_32_0, rf_34_0, rf_36_0, rf_38_0, rf_40_0, rf_42_0, rf_42_1, rf_42_2, rf_42_3, rf_43_0, rf_43_1, rf_43_2, rf_44_0, rf_46_0, rf_48_0, rf_50_0, rf_52_0, rf_52_1, rf_52_2, rf_52_3, rf_52_4, rf_52_5, rf_52_6, rf_52_7, rf_52_8, rf_52_9, rf_52_10, rf_52_11, rf_53_0, rf_55_0, rf_57_0, rf_59_0, rf_61_0, rf_63_0, rf_65_0, rf_67_0, rf_69_0, rf_71_0, rf_73_0, a_7, p_7, f_7, c_7, a_9, p_9, f_9, c_9, a_11, p_11, f_11, c_11, a_14, p_14, f_14, c_14, a_16, p_16, f_16, c_16, a_18, p_18, f_18, c_18, a_21, p_21, f_21, c_21, a_23, p_23, f_23, c_23, a_25, p_25, f_25, c_25, a_30, p_30, f_30, c_30, a_32, p_32, f_32, c_32, a_34, p_34, f_34, c_34, a_36, p_36, f_36, c_36, a_38, p_38, f_38, c_38, a_40, p_40, f_40, c_40, a_44, p_44, f_44, c_44, a_46, p_46, f_46, c_46, a_48, p_48, f_48, c_48, a_50, p_50, f_50, c_50, a_53, p_53, f_53, c_53, a_55, p_55, f_55, c_55, a_57, p_57, f_57, c_57, a_59, p_59, f_59, c_59, a_61, p_61, f_61, c_61, a_63, p_63, f_63, c_63, a_65, p_65, f_65, c_65, a_67, p_67, f_67, c_67, a_69, p_69, f_69, c_69, a_71, p_71, f_71, c_71, a_73, p_73, f_73, c_73, c_1, i_1, w_1, z0_1, z1_1, c_2, i_2, w_2, z0_2, z1_2, c_4, i_4, w_4, z0_4, z1_4, c_6, i_6, w_6, z0_6, z1_6, c_13, i_13, w_13, z0_13, z1_13, c_20, i_20, w_20, z0_20, z1_20, c_27, i_27, w_27, z0_27, z1_27, c_28, i_28, w_28, z0_28, z1_28, c_29, i_29, w_29, z0_29, z1_29, c_42, i_42, w_42, z0_42, z1_42, c_43, i_43, w_43, z0_43, z1_43, c_52, i_52, w_52, z0_52, z1_52, X1_size, X1_literal, X1_numberOfStep, X1_ofFormula, X1_inAll, X1_user, X9_codeOf, X1_firstUse, X1_endOfUses, X2_open, X2_at, X2_add, X2_drop, X2_clear, X4_fuelLeft, X4_isActive, X4_isMarked, X4_mark, X4_usedCount, X4_usedAt, X4_setActive, X4_forget, X4_truthOf]
  have hM : fX10_weigh 75 bk rat un (nI fu) (st I' v' J') = bnd (fX10_fromNothing 75 (st Mb v' J')) fun q => fX10_weigh_152 zfu 75 bk rat un 0 q := by
    unfold fX10_weigh
    simp only [bnd_x, gd_0, gd_1, gd_o0, gd_o1, ite_self, rf_75_1, rf_75_3, rf_75_12, rf_75_13, rf_75_14, rf_75_15, rf_75_16, rf_75_17, rf_75_18, rf_75_22, rf_75_23, rf_75_24, rf_75_25, rf_75_31, rf_75_32, rf_75_41, rf_75_42, rf_75_43, rf_75_44, rf_75_45, rf_75_46, rf_75_47, rf_75_48, rf_75_53, rf_75_54, rf_75_55, rf_75_57, c_75, i_75, w_75, z0_75, z1_75, if_neg hfn, if_pos hfl]
    rw [m1, e1]
  rw [nI_0] at g5
  have hMr : ∀ X : Nat → Nat → Int32, FrR Mc X → (∀ a, (a < 91 ∧ a ≠ 75) ∨ 101 < a → X a = I' a) ∧ (∀ j, (0 < j ∧ j < 34) ∨ 56 < j → X 75 j = I' 75 j) ∧ X 75 0 = 0 := by
    intro X hX
    refine ⟨fun a ha => by rw [hX.1 a ha, g3.1 a ha, Mne a (by omega) (by omega) (by omega) (by omega) (by omega)], fun j hj => by rw [hX.2 j (by omega), g3.2 j (by omega), M75 j hj], ?_⟩
    rw [hX.2 0 (by omega), g3.2 0 (by omega), e11 0 (by omega), m4 75 (by decide) (by decide) (by decide), up_self]
  rcases g5 with ⟨g6, g7, g8⟩ | ⟨c, hc, g6, g7, g8, g9, g10, g11⟩
  · have hb0 : (if bk = 0 then some (st Ic v J) else fX3_goBack 42 (st Ic v J)) = some (st Ic v J) := by
      split
      · rfl
      · unfold fX3_goBack
        simp only [bnd_x, gd_0, gd_1, gd_o0, gd_o1, ite_self, rf_1_0, rf_1_1, rf_1_5, rf_1_6, rf_1_7, rf_2_0, rf_4_0, rf_6_0, rf_6_1, rf_6_2, rf_7_0, rf_9_0, rf_11_0, rf_13_0, rf_13_1, rf_13_2, rf_14_0, rf_16_0, rf_18_0, rf_20_0, rf_20_1, rf_20_2, rf_21_0, rf_23_0, rf_25_0, rf_27_0, rf_29_0, rf_29_1, rf_29_2, rf_29_3, rf_29_4, rf_29_5, rf_30_0, rf_32_0, rf_34_0, rf_36_0, rf_38_0, rf_40_0, rf_42_0, rf_42_1, rf_42_2, rf_42_3, rf_43_0, rf_43_1, rf_43_2, rf_44_0, rf_46_0, rf_48_0, rf_50_0, rf_52_0, rf_52_1, rf_52_2, rf_52_3, rf_52_4, rf_52_5, rf_52_6, rf_52_7, rf_52_8, rf_52_9, rf_52_10, rf_52_11, rf_53_0, rf_55_0, rf_57_0, rf_59_0, rf_61_0, rf_63_0, rf_65_0, rf_67_0, rf_69_0, rf_71_0, rf_73_0, a_7, p_7, f_7, c_7, a_9, p_9, f_9, c_9, a_11, p_11, f_11, c_11, a_14, p_14, f_14, c_14, a_16, p_16, f_16, c_16, a_18, p_18, f_18, c_18, a_21, p_21, f_21, c_21, a_23, p_23, f_23, c_23, a_25, p_25, f_25, c_25, a_30, p_30, f_30, c_30, a_32, p_32, f_32, c_32, a_34, p_34, f_34, c_34, a_36, p_36, f_36, c_36, a_38, p_38, f_38, c_38, a_40, p_40, f_40, c_40, a_44, p_44, f_44, c_44, a_46, p_46, f_46, c_46, a_48, p_48, f_48, c_48, a_50, p_50, f_50, c_50, a_53, p_53, f_53, c_53, a_55, p_55, f_55, c_55, a_57, p_57, f_57, c_57, a_59, p_59, f_59, c_59, a_61, p_61, f_61, c_61, a_63, p_63, f_63, c_63, a_65, p_65, f_65, c_65, a_67, p_67, f_67, c_67, a_69, p_69, f_69, c_69, a_71, p_71, f_71, c_71, a_73, p_73, f_73, c_73, c_1, i_1, w_1, z0_1, z1_1, c_2, i_2, w_2, z0_2, z1_2, c_4, i_4, w_4, z0_4, z1_4, c_6, i_6, w_6, z0_6, z1_6, c_13, i_13, w_13, z0_13, z1_13, c_20, i_20, w_20, z0_20, z1_20, c_27, i_27, w_27, z0_27, z1_27, c_28, i_28, w_28, z0_28, z1_28, c_29, i_29, w_29, z0_29, z1_29, c_42, i_42, w_42, z0_42, z1_42, c_43, i_43, w_43, z0_43, z1_43, c_52, i_52, w_52, z0_52, z1_52, X1_size, X1_literal, X1_numberOfStep, X1_ofFormula, X1_inAll, X1_user, X9_codeOf, X1_firstUse, X1_endOfUses, X2_open, X2_at, X2_add, X2_drop, X2_clear, X4_fuelLeft, X4_isActive, X4_isMarked, X4_mark, X4_usedCount, X4_usedAt, X4_setActive, X4_forget, X4_truthOf, g8]
        obtain ⟨m, hm⟩ : ∃ m, zfu = m + 1 := ⟨zfu - 1, by omega⟩
        rw [hm]
        unfold fX3_goBack_5
        rw [if_pos (by decide)]
    rw [hb0, bnd_x, h61] at hC
    rw [g6] at hM
    obtain ⟨y1, y2, y3⟩ := hMr Mc ⟨fun _ _ => rfl, fun _ _ => rfl⟩
    exact ⟨Ic, Mc, _, hC, hM, g7, FrC_t c2 g2, y1, y2, by rw [g3.2 34 (by omega)]; exact e4, y3, Or.inl g8⟩
  · rcases hb with q | q
    · rw [if_pos q, bnd_x, h61, g6] at hC
      rw [g11, if_pos q] at hM
      have g := WR_ends (I1 := Ic) g9 (fun _ _ => rfl) (fun _ _ _ => rfl)
      rw [g6, g7] at g
      obtain ⟨y1, y2, y3⟩ := hMr _ (ends_FrR (I := Mc) (x := 0) (y := -1))
      exact ⟨Ic, _, _, hC, hM, g, FrC_t c2 g2, y1, y2, by rw [ends_fr.2.1 34 (by decide) (by decide), g3.2 34 (by omega)]; exact e4, y3, Or.inr ⟨c, hc, g8⟩⟩
    · have q0 : ¬ bk = 0 := by rw [q]; decide
      obtain ⟨Id, Md, b1, b2, b3, b4, b5, b6⟩ := back_loop2 (v := v) (v' := v') (J := J) (J' := J') hO c zfu zfu Ic Mc hc (by omega) (by omega) g9 g10 g6 g7 g4
      have hgb : fX3_goBack 42 (st Ic v J) = some (st Id v J) := by
        unfold fX3_goBack
        simp only [bnd_x, gd_0, gd_1, gd_o0, gd_o1, ite_self, rf_1_0, rf_1_1, rf_1_5, rf_1_6, rf_1_7, rf_2_0, rf_4_0, rf_6_0, rf_6_1, rf_6_2, rf_7_0, rf_9_0, rf_11_0, rf_13_0, rf_13_1, rf_13_2, rf_14_0, rf_16_0, rf_18_0, rf_20_0, rf_20_1, rf_20_2, rf_21_0, rf_23_0, rf_25_0, rf_27_0, rf_29_0, rf_29_1, rf_29_2, rf_29_3, rf_29_4, rf_29_5, rf_30_0, rf_32_0, rf_34_0, rf_36_0, rf_38_0, rf_40_0, rf_42_0, rf_42_1, rf_42_2, rf_42_3, rf_43_0, rf_43_1, rf_43_2, rf_44_0, rf_46_0, rf_48_0, rf_50_0, rf_52_0, rf_52_1, rf_52_2, rf_52_3, rf_52_4, rf_52_5, rf_52_6, rf_52_7, rf_52_8, rf_52_9, rf_52_10, rf_52_11, rf_53_0, rf_55_0, rf_57_0, rf_59_0, rf_61_0, rf_63_0, rf_65_0, rf_67_0, rf_69_0, rf_71_0, rf_73_0, a_7, p_7, f_7, c_7, a_9, p_9, f_9, c_9, a_11, p_11, f_11, c_11, a_14, p_14, f_14, c_14, a_16, p_16, f_16, c_16, a_18, p_18, f_18, c_18, a_21, p_21, f_21, c_21, a_23, p_23, f_23, c_23, a_25, p_25, f_25, c_25, a_30, p_30, f_30, c_30, a_32, p_32, f_32, c_32, a_34, p_34, f_34, c_34, a_36, p_36, f_36, c_36, a_38, p_38, f_38, c_38, a_40, p_40, f_40, c_40, a_44, p_44, f_44, c_44, a_46, p_46, f_46, c_46, a_48, p_48, f_48, c_48, a_50, p_50, f_50, c_50, a_53, p_53, f_53, c_53, a_55, p_55, f_55, c_55, a_57, p_57, f_57, c_57, a_59, p_59, f_59, c_59, a_61, p_61, f_61, c_61, a_63, p_63, f_63, c_63, a_65, p_65, f_65, c_65, a_67, p_67, f_67, c_67, a_69, p_69, f_69, c_69, a_71, p_71, f_71, c_71, a_73, p_73, f_73, c_73, c_1, i_1, w_1, z0_1, z1_1, c_2, i_2, w_2, z0_2, z1_2, c_4, i_4, w_4, z0_4, z1_4, c_6, i_6, w_6, z0_6, z1_6, c_13, i_13, w_13, z0_13, z1_13, c_20, i_20, w_20, z0_20, z1_20, c_27, i_27, w_27, z0_27, z1_27, c_28, i_28, w_28, z0_28, z1_28, c_29, i_29, w_29, z0_29, z1_29, c_42, i_42, w_42, z0_42, z1_42, c_43, i_43, w_43, z0_43, z1_43, c_52, i_52, w_52, z0_52, z1_52, X1_size, X1_literal, X1_numberOfStep, X1_ofFormula, X1_inAll, X1_user, X9_codeOf, X1_firstUse, X1_endOfUses, X2_open, X2_at, X2_add, X2_drop, X2_clear, X4_fuelLeft, X4_isActive, X4_isMarked, X4_mark, X4_usedCount, X4_usedAt, X4_setActive, X4_forget, X4_truthOf, g8, b1]
      have hbk : fX10_back 75 (nI c) rat (st Mc v' J') = some (Id 42 6, st Md v' J') := by
        unfold fX10_back
        exact b2
      rw [if_neg q0, hgb, bnd_x, h61] at hC
      rw [g11, if_neg q0, hbk, bnd_x] at hM
      obtain ⟨y1, y2, y3⟩ := hMr Md b5
      exact ⟨Id, Md, _, hC, hM, b3, FrC_t (FrC_t c2 g2) b4, y1, y2, by rw [b5.2 34 (by omega), g3.2 34 (by omega)]; exact e4, y3, Or.inr ⟨c, hc, by rw [b6]; exact g8⟩⟩
end
