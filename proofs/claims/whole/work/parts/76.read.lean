/-! Readings from their start: class and reference. -/
section
variable {f : Nat}
def bgn (I : Nat → Nat → Int32) (f n : Nat) : Nat → Nat → Int32 := up (up (up (up (up (up (up (up (up (up (up I 28 1 (nI n)) 28 2 0) 28 3 0) 27 3 (nI n)) f 3 0) f 4 0) f 5 0) 27 4 0) 27 6 0) 27 7 0) 27 8 (-1)
def vB (v : zV) (b f : Nat) : zV := (v.1, v.2.1, v.2.2.1, b, f, b, v.2.2.2.2.2.2)
theorem begin_r {v : zV} {J : Nat → Nat → Int64} {I : Nat → Nat → Int32} {b n : Nat} (hb : isB b = true) (hf : isSh f = true) : fX5_begin 27 b (nI n) f (st I v J) = some (st (bgn I f n) (vB v b f) J) := by
  have hb0 : b ≠ 0 := (B_0 hb).2.2.2
  have hf0 : f ≠ 0 := by rcases isSh_i hf with q | q | q <;> rw [q] <;> decide
  unfold fX5_begin fX8_begin
  simp only [bnd_x, gd_0, gd_1, gd_o0, gd_o1, ite_self, rf_1_0, rf_1_1, rf_1_5, rf_1_6, rf_1_7, rf_2_0, rf_4_0, rf_6_0, rf_6_1, rf_6_2, rf_7_0, rf_9_0, rf_11_0, rf_13_0, rf_13_1, rf_13_2, rf_14_0, rf_16_0, rf_18_0, rf_20_0, rf_20_1, rf_20_2, rf_21_0, rf_23_0, rf_25_0, rf_27_0, rf_29_0, rf_29_1, rf_29_2, rf_29_3, rf_29_4, rf_29_5, rf_30_0, rf_32_0, rf_34_0, rf_36_0, rf_38_0, rf_40_0, rf_42_0, rf_42_1, rf_42_2, rf_42_3, rf_43_0, rf_43_1, rf_43_2, rf_44_0, rf_46_0, rf_48_0, rf_50_0, rf_52_0, rf_52_1, rf_52_2, rf_52_3, rf_52_4, rf_52_5, rf_52_6, rf_52_7, rf_52_8, rf_52_9, rf_52_10, rf_52_11, rf_53_0, rf_55_0, rf_57_0, rf_59_0, rf_61_0, rf_63_0, rf_65_0, rf_67_0, rf_69_0, rf_71_0, rf_73_0, a_7, p_7, f_7, c_7, a_9, p_9, f_9, c_9, a_11, p_11, f_11, c_11, a_14, p_14, f_14, c_14, a_16, p_16, f_16, c_16, a_18, p_18, f_18, c_18, a_21, p_21, f_21, c_21, a_23, p_23, f_23, c_23, a_25, p_25, f_25, c_25, a_30, p_30, f_30, c_30, a_32, p_32, f_32, c_32, a_34, p_34, f_34, c_34, a_36, p_36, f_36, c_36, a_38, p_38, f_38, c_38, a_40, p_40, f_40, c_40, a_44, p_44, f_44, c_44, a_46, p_46, f_46, c_46, a_48, p_48, f_48, c_48, a_50, p_50, f_50, c_50, a_53, p_53, f_53, c_53, a_55, p_55, f_55, c_55, a_57, p_57, f_57, c_57, a_59, p_59, f_59, c_59, a_61, p_61, f_61, c_61, a_63, p_63, f_63, c_63, a_65, p_65, f_65, c_65, a_67, p_67, f_67, c_67, a_69, p_69, f_69, c_69, a_71, p_71, f_71, c_71, a_73, p_73, f_73, c_73, c_1, i_1, w_1, z0_1, z1_1, c_2, i_2, w_2, z0_2, z1_2, c_4, i_4, w_4, z0_4, z1_4, c_6, i_6, w_6, z0_6, z1_6, c_13, i_13, w_13, z0_13, z1_13, c_20, i_20, w_20, z0_20, z1_20, c_27, i_27, w_27, z0_27, z1_27, c_28, i_28, w_28, z0_28, z1_28, c_29, i_29, w_29, z0_29, z1_29, c_42, i_42, w_42, z0_42, z1_42, c_43, i_43, w_43, z0_43, z1_43, c_52, i_52, w_52, z0_52, z1_52, X1_size, X1_literal, X1_numberOfStep, X1_ofFormula, X1_inAll, X1_user, X9_codeOf, X1_firstUse, X1_endOfUses, X2_open, X2_at, X2_add, X2_drop, X2_clear, X4_fuelLeft, X4_isActive, X4_isMarked, X4_mark, X4_usedCount, X4_usedAt, X4_setActive, X4_forget, X4_truthOf, wv_28_0 hb0, wv_27_1 hb0, wv_27_2 hf0, cl_st (sh_f hf).1]
  have e : ∀ X : Nat → Nat → Int32, qR (st X (v.1, v.2.1, v.2.2.1, b, f, b, v.2.2.2.2.2.2) J) 5 27 2 = some f := fun X => rv_27_2 (v := (v.1, v.2.1, v.2.2.1, b, f, b, v.2.2.2.2.2.2)) hf0
  simp only [e, bnd_x, cl_st (sh_f hf).1, X7_clear hf, bnd_x, gd_0, gd_1, gd_o0, gd_o1, ite_self, rf_1_0, rf_1_1, rf_1_5, rf_1_6, rf_1_7, rf_2_0, rf_4_0, rf_6_0, rf_6_1, rf_6_2, rf_7_0, rf_9_0, rf_11_0, rf_13_0, rf_13_1, rf_13_2, rf_14_0, rf_16_0, rf_18_0, rf_20_0, rf_20_1, rf_20_2, rf_21_0, rf_23_0, rf_25_0, rf_27_0, rf_29_0, rf_29_1, rf_29_2, rf_29_3, rf_29_4, rf_29_5, rf_30_0, rf_32_0, rf_34_0, rf_36_0, rf_38_0, rf_40_0, rf_42_0, rf_42_1, rf_42_2, rf_42_3, rf_43_0, rf_43_1, rf_43_2, rf_44_0, rf_46_0, rf_48_0, rf_50_0, rf_52_0, rf_52_1, rf_52_2, rf_52_3, rf_52_4, rf_52_5, rf_52_6, rf_52_7, rf_52_8, rf_52_9, rf_52_10, rf_52_11, rf_53_0, rf_55_0, rf_57_0, rf_59_0, rf_61_0, rf_63_0, rf_65_0, rf_67_0, rf_69_0, rf_71_0, rf_73_0, a_7, p_7, f_7, c_7, a_9, p_9, f_9, c_9, a_11, p_11, f_11, c_11, a_14, p_14, f_14, c_14, a_16, p_16, f_16, c_16, a_18, p_18, f_18, c_18, a_21, p_21, f_21, c_21, a_23, p_23, f_23, c_23, a_25, p_25, f_25, c_25, a_30, p_30, f_30, c_30, a_32, p_32, f_32, c_32, a_34, p_34, f_34, c_34, a_36, p_36, f_36, c_36, a_38, p_38, f_38, c_38, a_40, p_40, f_40, c_40, a_44, p_44, f_44, c_44, a_46, p_46, f_46, c_46, a_48, p_48, f_48, c_48, a_50, p_50, f_50, c_50, a_53, p_53, f_53, c_53, a_55, p_55, f_55, c_55, a_57, p_57, f_57, c_57, a_59, p_59, f_59, c_59, a_61, p_61, f_61, c_61, a_63, p_63, f_63, c_63, a_65, p_65, f_65, c_65, a_67, p_67, f_67, c_67, a_69, p_69, f_69, c_69, a_71, p_71, f_71, c_71, a_73, p_73, f_73, c_73, c_1, i_1, w_1, z0_1, z1_1, c_2, i_2, w_2, z0_2, z1_2, c_4, i_4, w_4, z0_4, z1_4, c_6, i_6, w_6, z0_6, z1_6, c_13, i_13, w_13, z0_13, z1_13, c_20, i_20, w_20, z0_20, z1_20, c_27, i_27, w_27, z0_27, z1_27, c_28, i_28, w_28, z0_28, z1_28, c_29, i_29, w_29, z0_29, z1_29, c_42, i_42, w_42, z0_42, z1_42, c_43, i_43, w_43, z0_43, z1_43, c_52, i_52, w_52, z0_52, z1_52, X1_size, X1_literal, X1_numberOfStep, X1_ofFormula, X1_inAll, X1_user, X9_codeOf, X1_firstUse, X1_endOfUses, X2_open, X2_at, X2_add, X2_drop, X2_clear, X4_fuelLeft, X4_isActive, X4_isMarked, X4_mark, X4_usedCount, X4_usedAt, X4_setActive, X4_forget, X4_truthOf]
  rfl
theorem bgn_f {I : Nat → Nat → Int32} {n : Nat} (hf : isSh f = true) : (∀ a, a ≠ 27 → a ≠ 28 → a ≠ f → bgn I f n a = I a) ∧ bgn I f n 28 1 = nI n ∧ bgn I f n 28 3 = 0 ∧ bgn I f n 27 3 = nI n ∧ bgn I f n 27 4 = 0 ∧ bgn I f n 27 6 = 0 ∧ bgn I f n 27 7 = 0 ∧ bgn I f n 27 8 = -1 ∧ bgn I f n f 3 = 0 ∧ bgn I f n f 4 = 0 := by
  have hf27 : f + 6 < 27 := by rcases isSh_i hf with q | q | q <;> omega
  have n27 : (27 : Nat) ≠ f := by omega
  have n28 : (28 : Nat) ≠ f := by omega
  have m27 : f ≠ 27 := by omega
  have m28 : f ≠ 28 := by omega
  unfold bgn
  refine ⟨fun a a1 a2 a3 => ?_, ?_, ?_, ?_, ?_, ?_, ?_, ?_, ?_, ?_⟩
  · rw [up_ne a1, up_ne a1, up_ne a1, up_ne a1, up_ne a3, up_ne a3, up_ne a3, up_ne a1, up_ne a2, up_ne a2, up_ne a2]
  · simp [up, n28]
  · simp [up, n28]
  · simp [up, n27]
  · simp [up, n27]
  · simp [up]
  · simp [up]
  · simp [up]
  · simp [up, m27]
  · simp [up, m27]
def tkn (I : Nat → Nat → Int32) (n : Nat) : Nat → Nat → Int32 := up (up (up (up (up (up (up (up I 75 4 (nI n)) 75 2 0) 75 26 0) 75 27 0) 75 28 0) 75 30 150) 75 8 0) 75 5 0
theorem tkn_f {I : Nat → Nat → Int32} {n : Nat} : (∀ a, a ≠ 75 → tkn I n a = I a) ∧ tkn I n 75 4 = nI n ∧ tkn I n 75 2 = 0 ∧ tkn I n 75 26 = 0 ∧ tkn I n 75 27 = 0 ∧ tkn I n 75 28 = 0 ∧ tkn I n 75 30 = 150 ∧ tkn I n 75 8 = 0 ∧ tkn I n 75 5 = 0 ∧ (∀ j, j ∉ [2, 4, 5, 8, 26, 27, 28, 30] → tkn I n 75 j = I 75 j) := by
  unfold tkn
  refine ⟨fun a ha => by rw [up_ne ha, up_ne ha, up_ne ha, up_ne ha, up_ne ha, up_ne ha, up_ne ha, up_ne ha], ?_, ?_, ?_, ?_, ?_, ?_, ?_, ?_, fun j hj => ?_⟩
  · simp [up]
  · simp [up]
  · simp [up]
  · simp [up]
  · simp [up]
  · simp [up]
  · simp [up]
  · simp [up]
  · have k : ∀ q, q ∈ [2, 4, 5, 8, 26, 27, 28, 30] → j ≠ q := fun q hq e => hj (e ▸ hq)
    rw [up_at, vup_n (k 5 (by decide)), up_at, vup_n (k 8 (by decide)), up_at, vup_n (k 30 (by decide)), up_at, vup_n (k 28 (by decide)), up_at, vup_n (k 27 (by decide)), up_at, vup_n (k 26 (by decide)), up_at, vup_n (k 2 (by decide)), up_at, vup_n (k 4 (by decide))]
theorem beginRead_ok {v : zV} {J : Nat → Nat → Int64} {I : Nat → Nat → Int32} (x : Int32) : fX10_beginRead 75 x (st I v J) = some (st (up (up (up (up (up (up I 75 26 0) 75 27 0) 75 28 0) 75 30 x) 75 8 0) 75 5 0) v J) := by
  unfold fX10_beginRead
  simp only [bnd_x, gd_0, gd_1, gd_o0, gd_o1, ite_self, rf_75_1, rf_75_3, rf_75_12, rf_75_13, rf_75_14, rf_75_15, rf_75_16, rf_75_17, rf_75_18, rf_75_22, rf_75_23, rf_75_24, rf_75_25, rf_75_31, rf_75_32, rf_75_41, rf_75_42, rf_75_43, rf_75_44, rf_75_45, rf_75_46, rf_75_47, rf_75_48, rf_75_53, rf_75_54, rf_75_55, rf_75_57, c_75, i_75, w_75, z0_75, z1_75]
/-- bytes are copied -/
theorem take_loop {v : zV} {J : Nat → Nat → Int64} {n : Nat} (hn : n ≤ 6000) : ∀ (d p m : Nat) (I : Nat → Nat → Int32), p + d = n → d < m →
    ∃ I1, fX10_take_2 m 75 (nI n) (nI p) (st I v J) = some (st (tkn I1 n) v J) ∧ (∀ q, p ≤ q → q < n → I1 77 q = I 76 q) ∧ (∀ q, q < p → I1 77 q = I 77 q) ∧ (∀ a, a ≠ 77 → I1 a = I a) := by
  intro d
  induction d with
  | zero =>
    intro p m I hp hm
    obtain ⟨m, rfl⟩ : ∃ q, m = q + 1 := ⟨m - 1, by omega⟩
    refine ⟨I, ?_, fun q q1 q2 => by omega, fun _ _ => rfl, fun _ _ => rfl⟩
    conv => lhs; unfold fX10_take_2
    rw [if_pos (nI_le (show n ≤ p by omega) (by omega))]
    simp only [bnd_x, gd_0, gd_1, gd_o0, gd_o1, ite_self, rf_75_1, rf_75_3, rf_75_12, rf_75_13, rf_75_14, rf_75_15, rf_75_16, rf_75_17, rf_75_18, rf_75_22, rf_75_23, rf_75_24, rf_75_25, rf_75_31, rf_75_32, rf_75_41, rf_75_42, rf_75_43, rf_75_44, rf_75_45, rf_75_46, rf_75_47, rf_75_48, rf_75_53, rf_75_54, rf_75_55, rf_75_57, c_75, i_75, w_75, z0_75, z1_75, beginRead_ok]
    rfl
  | succ d ih =>
    intro p m I hp hm
    obtain ⟨m, rfl⟩ : ∃ q, m = q + 1 := ⟨m - 1, by omega⟩
    obtain ⟨I1, f1, f2, f3, f4⟩ := ih (p + 1) m (up I 77 p (I 76 p)) (by omega) (by omega)
    refine ⟨I1, ?_, ?_, ?_, fun a ha => by rw [f4 a ha, up_ne ha]⟩
    · conv => lhs; unfold fX10_take_2
      rw [if_neg (nI_ge (show p < n by omega) (by omega))]
      simp only [bnd_x, gd_0, gd_1, gd_o0, gd_o1, ite_self, rf_75_1, rf_75_3, rf_75_12, rf_75_13, rf_75_14, rf_75_15, rf_75_16, rf_75_17, rf_75_18, rf_75_22, rf_75_23, rf_75_24, rf_75_25, rf_75_31, rf_75_32, rf_75_41, rf_75_42, rf_75_43, rf_75_44, rf_75_45, rf_75_46, rf_75_47, rf_75_48, rf_75_53, rf_75_54, rf_75_55, rf_75_57, c_75, i_75, w_75, z0_75, z1_75, qa_76 (show p < 6000 by omega), ua_77 (show p < 6000 by omega), nI_1]
      exact f1
    · intro q q1 q2
      by_cases c : q = p
      · subst c; rw [f3 q (by omega), up_self]
      · rw [f2 q (by omega) q2, up_ne (by decide)]
    · intro q hq
      rw [f3 q (by omega), up_at, vup_n (by omega)]
theorem take_m {v : zV} {J : Nat → Nat → Int64} {I : Nat → Nat → Int32} {n : Nat} (hn : n ≤ 6000) :
    ∃ I1, fX10_take 75 (nI n) (st I v J) = some (st (tkn I1 n) v J) ∧ (∀ q, q < n → I1 77 q = I 76 q) ∧ (∀ a, a ≠ 77 → I1 a = I a) := by
  have hz := zfu_big
  obtain ⟨I1, f1, f2, f3, f4⟩ := take_loop (v := v) (J := J) hn n 0 zfu I (by omega) (by omega)
  rw [nI_0] at f1
  exact ⟨I1, by unfold fX10_take; exact f1, fun q hq => f2 q (by omega) hq, f4⟩
/-- what stands when a reading begins -/
theorem start_lock {I M : Nat → Nat → Int32} {b n : Nat} {T : Nat → Int32} (hb : isB b = true) (hf : isSh f = true) (hT : BT I b T n) (hM : ∀ p, p < n → M 77 p = T p) (h0 : I (f + 4) 0 = 0) :
    RCl (bgn I f n) (tkn M n) f 0 (fun _ => 0) (fun _ => 0) (fun _ => false) ∧ CS (bgn I f n) b T n ∧ RT (tkn M n) T n := by
  obtain ⟨b1, b2, b3, b4, b5, b6, b7⟩ := B_f hb hf
  obtain ⟨g1, g2, g3, g4, g5, g6, g7, g8, g9, g10⟩ := bgn_f (I := I) (n := n) hf
  obtain ⟨t1, t2, t3, t4, t5, t6, t7, t8, t9, t10⟩ := tkn_f (I := M) (n := n)
  have hn : n ≤ 6000 := by obtain ⟨w, w1, w2, w3, w4, w5⟩ := hT; exact w4
  refine ⟨⟨⟨by omega, rfl, Nat.zero_le _, fun i i1 i2 => by omega⟩, ⟨g9, g10, fun i hi => ?_, fun p hp => by simp at hp, fun i i1 i2 => by omega⟩, ⟨fun i i1 i2 => by omega, fun p hp => by simp at hp⟩, t4, t5, fun i i1 i2 => by omega⟩, ⟨BT_fr hT (g1 b b1 b2 (by omega)) (g1 (b + 1) b3 b4 (by omega)), g2, g4⟩, ⟨hn, t2, fun p hp => by rw [t1 77 (by decide)]; exact hM p hp⟩⟩
  rw [show i = 0 by omega, g1 (f + 4) (by omega) (by omega) (by omega)]; exact h0
/-- a reading leaves this -/
def GEND (v v' : zV) (J J' : Nat → Nat → Int64) (f : Nat) (A B : Option zS) (I M : Nat → Nat → Int32) : Prop :=
  ∃ I1 I2 n e w d, A = some (st I1 v J) ∧ B = some (st I2 v' J') ∧ RCl I1 I2 f n e w d ∧ FK I1 I2 ∧ (∀ a, a ≠ 27 → a ≠ 28 → (a < f ∨ f + 6 < a) → I1 a = I a) ∧ FMr M I2
theorem text_lock {v v' : zV} {J J' : Nat → Nat → Int64} {I M : Nat → Nat → Int32} {b n : Nat} {T : Nat → Int32} (hb : isB b = true) (hf : isSh f = true) (hT : BT I b T n) (hM : ∀ p, p < n → M 77 p = T p) (h0 : I (f + 4) 0 = 0) :
    GEND (vB v b f) v' J J' f (fX5_readTextProof 27 b (nI n) f (st I v J)) (fX10_readText 75 (st (tkn M n) v' J')) I (tkn M n) := by
  have hz := zfu_big
  obtain ⟨s1, s2, s3⟩ := start_lock hb hf hT hM h0
  obtain ⟨g1, g2, g3, g4, g5, g6, g7, g8, g9, g10⟩ := bgn_f (I := I) (n := n) hf
  obtain ⟨t1, t2, t3, t4, t5, t6, t7, t8, t9, t10⟩ := tkn_f (I := M) (n := n)
  obtain ⟨I1, I2, n', e, w, d, h1, h2, h3, h4, h5, h6⟩ := text_loop (v := vB v b f) (v' := v') (J := J) (J' := J') (b := b) (f := f) ⟨rfl, rfl, rfl, hb, hf⟩ 300 0 zfu zfu 0 0 (bgn I f n) (tkn M n) _ _ _ (by omega) (by omega) (by omega) ⟨s1, s2, s3, g7, g8, t8, g6, t6, by omega, by omega, by omega, g3, t9⟩ t7
  refine ⟨I1, I2, n', e, w, d, ?_, h2, h3, h4, fun a a1 a2 a3 => by rw [h5.1 a a1 a2 (by omega) (by omega) (by omega) (by omega), g1 a a1 a2 (by omega)], h6⟩
  unfold fX5_readTextProof
  simp only [bnd_x, gd_0, gd_1, gd_o0, gd_o1, ite_self, rf_1_0, rf_1_1, rf_1_5, rf_1_6, rf_1_7, rf_2_0, rf_4_0, rf_6_0, rf_6_1, rf_6_2, rf_7_0, rf_9_0, rf_11_0, rf_13_0, rf_13_1, rf_13_2, rf_14_0, rf_16_0, rf_18_0, rf_20_0, rf_20_1, rf_20_2, rf_21_0, rf_23_0, rf_25_0, rf_27_0, rf_29_0, rf_29_1, rf_29_2, rf_29_3, rf_29_4, rf_29_5, rf_30_0, rf_32_0, rf_34_0, rf_36_0, rf_38_0, rf_40_0, rf_42_0, rf_42_1, rf_42_2, rf_42_3, rf_43_0, rf_43_1, rf_43_2, rf_44_0, rf_46_0, rf_48_0, rf_50_0, rf_52_0, rf_52_1, rf_52_2, rf_52_3, rf_52_4, rf_52_5, rf_52_6, rf_52_7, rf_52_8, rf_52_9, rf_52_10, rf_52_11, rf_53_0, rf_55_0, rf_57_0, rf_59_0, rf_61_0, rf_63_0, rf_65_0, rf_67_0, rf_69_0, rf_71_0, rf_73_0, a_7, p_7, f_7, c_7, a_9, p_9, f_9, c_9, a_11, p_11, f_11, c_11, a_14, p_14, f_14, c_14, a_16, p_16, f_16, c_16, a_18, p_18, f_18, c_18, a_21, p_21, f_21, c_21, a_23, p_23, f_23, c_23, a_25, p_25, f_25, c_25, a_30, p_30, f_30, c_30, a_32, p_32, f_32, c_32, a_34, p_34, f_34, c_34, a_36, p_36, f_36, c_36, a_38, p_38, f_38, c_38, a_40, p_40, f_40, c_40, a_44, p_44, f_44, c_44, a_46, p_46, f_46, c_46, a_48, p_48, f_48, c_48, a_50, p_50, f_50, c_50, a_53, p_53, f_53, c_53, a_55, p_55, f_55, c_55, a_57, p_57, f_57, c_57, a_59, p_59, f_59, c_59, a_61, p_61, f_61, c_61, a_63, p_63, f_63, c_63, a_65, p_65, f_65, c_65, a_67, p_67, f_67, c_67, a_69, p_69, f_69, c_69, a_71, p_71, f_71, c_71, a_73, p_73, f_73, c_73, c_1, i_1, w_1, z0_1, z1_1, c_2, i_2, w_2, z0_2, z1_2, c_4, i_4, w_4, z0_4, z1_4, c_6, i_6, w_6, z0_6, z1_6, c_13, i_13, w_13, z0_13, z1_13, c_20, i_20, w_20, z0_20, z1_20, c_27, i_27, w_27, z0_27, z1_27, c_28, i_28, w_28, z0_28, z1_28, c_29, i_29, w_29, z0_29, z1_29, c_42, i_42, w_42, z0_42, z1_42, c_43, i_43, w_43, z0_43, z1_43, c_52, i_52, w_52, z0_52, z1_52, X1_size, X1_literal, X1_numberOfStep, X1_ofFormula, X1_inAll, X1_user, X9_codeOf, X1_firstUse, X1_endOfUses, X2_open, X2_at, X2_add, X2_drop, X2_clear, X4_fuelLeft, X4_isActive, X4_isMarked, X4_mark, X4_usedCount, X4_usedAt, X4_setActive, X4_forget, X4_truthOf, begin_r hb hf]
  exact h1
theorem bytes_lock {v v' : zV} {J J' : Nat → Nat → Int64} {I M : Nat → Nat → Int32} {b n : Nat} {T : Nat → Int32} (hb : isB b = true) (hf : isSh f = true) (hT : BT I b T n) (hM : ∀ p, p < n → M 77 p = T p) (h0 : I (f + 4) 0 = 0) :
    GEND (vB v b f) v' J J' f (fX5_readByteProof 27 b (nI n) f (st I v J)) (fX10_readBytes 75 (st (tkn M n) v' J')) I (tkn M n) := by
  have hz := zfu_big
  obtain ⟨s1, s2, s3⟩ := start_lock hb hf hT hM h0
  obtain ⟨g1, g2, g3, g4, g5, g6, g7, g8, g9, g10⟩ := bgn_f (I := I) (n := n) hf
  obtain ⟨t1, t2, t3, t4, t5, t6, t7, t8, t9, t10⟩ := tkn_f (I := M) (n := n)
  obtain ⟨I1, I2, n', e, w, d, h1, h2, h3, h4, h5, h6⟩ := bytes_loop (v := vB v b f) (v' := v') (J := J) (J' := J') (b := b) (f := f) ⟨rfl, rfl, rfl, hb, hf⟩ 300 0 zfu zfu 0 0 (bgn I f n) (tkn M n) _ _ _ (by omega) (by omega) (by omega) ⟨s1, s2, s3, g7, g8, t8, g6, t6, by omega, by omega, by omega, g5, t9⟩ t7
  refine ⟨I1, I2, n', e, w, d, ?_, h2, h3, h4, fun a a1 a2 a3 => by rw [h5.1 a a1 a2 (by omega) (by omega) (by omega) (by omega), g1 a a1 a2 (by omega)], h6⟩
  unfold fX5_readByteProof
  simp only [bnd_x, gd_0, gd_1, gd_o0, gd_o1, ite_self, rf_1_0, rf_1_1, rf_1_5, rf_1_6, rf_1_7, rf_2_0, rf_4_0, rf_6_0, rf_6_1, rf_6_2, rf_7_0, rf_9_0, rf_11_0, rf_13_0, rf_13_1, rf_13_2, rf_14_0, rf_16_0, rf_18_0, rf_20_0, rf_20_1, rf_20_2, rf_21_0, rf_23_0, rf_25_0, rf_27_0, rf_29_0, rf_29_1, rf_29_2, rf_29_3, rf_29_4, rf_29_5, rf_30_0, rf_32_0, rf_34_0, rf_36_0, rf_38_0, rf_40_0, rf_42_0, rf_42_1, rf_42_2, rf_42_3, rf_43_0, rf_43_1, rf_43_2, rf_44_0, rf_46_0, rf_48_0, rf_50_0, rf_52_0, rf_52_1, rf_52_2, rf_52_3, rf_52_4, rf_52_5, rf_52_6, rf_52_7, rf_52_8, rf_52_9, rf_52_10, rf_52_11, rf_53_0, rf_55_0, rf_57_0, rf_59_0, rf_61_0, rf_63_0, rf_65_0, rf_67_0, rf_69_0, rf_71_0, rf_73_0, a_7, p_7, f_7, c_7, a_9, p_9, f_9, c_9, a_11, p_11, f_11, c_11, a_14, p_14, f_14, c_14, a_16, p_16, f_16, c_16, a_18, p_18, f_18, c_18, a_21, p_21, f_21, c_21, a_23, p_23, f_23, c_23, a_25, p_25, f_25, c_25, a_30, p_30, f_30, c_30, a_32, p_32, f_32, c_32, a_34, p_34, f_34, c_34, a_36, p_36, f_36, c_36, a_38, p_38, f_38, c_38, a_40, p_40, f_40, c_40, a_44, p_44, f_44, c_44, a_46, p_46, f_46, c_46, a_48, p_48, f_48, c_48, a_50, p_50, f_50, c_50, a_53, p_53, f_53, c_53, a_55, p_55, f_55, c_55, a_57, p_57, f_57, c_57, a_59, p_59, f_59, c_59, a_61, p_61, f_61, c_61, a_63, p_63, f_63, c_63, a_65, p_65, f_65, c_65, a_67, p_67, f_67, c_67, a_69, p_69, f_69, c_69, a_71, p_71, f_71, c_71, a_73, p_73, f_73, c_73, c_1, i_1, w_1, z0_1, z1_1, c_2, i_2, w_2, z0_2, z1_2, c_4, i_4, w_4, z0_4, z1_4, c_6, i_6, w_6, z0_6, z1_6, c_13, i_13, w_13, z0_13, z1_13, c_20, i_20, w_20, z0_20, z1_20, c_27, i_27, w_27, z0_27, z1_27, c_28, i_28, w_28, z0_28, z1_28, c_29, i_29, w_29, z0_29, z1_29, c_42, i_42, w_42, z0_42, z1_42, c_43, i_43, w_43, z0_43, z1_43, c_52, i_52, w_52, z0_52, z1_52, X1_size, X1_literal, X1_numberOfStep, X1_ofFormula, X1_inAll, X1_user, X9_codeOf, X1_firstUse, X1_endOfUses, X2_open, X2_at, X2_add, X2_drop, X2_clear, X4_fuelLeft, X4_isActive, X4_isMarked, X4_mark, X4_usedCount, X4_usedAt, X4_setActive, X4_forget, X4_truthOf, begin_r hb hf]
  exact h1
theorem HS_RST {I I' : Nat → Nat → Int32} {b L : Nat} {T : Nat → Int32} (h : HS I I' b T L f) (z : I 27 7 = 0) : ∃ e w d pos, RST I I' b T L f 0 e w d 0 pos := by
  obtain ⟨h1, h2, h3, ⟨e, w, d, h4⟩, h5, h6, h7⟩ := h
  obtain ⟨pos, p1, p2, p3⟩ := h7 z
  exact ⟨e, w, d, pos, h4, h1, h2, z, h3.2.1 z, by rw [← h3.1]; exact z, h5, h6, by rw [h4.1.2.1]; exact Nat.le_refl _, by omega, p1, p2, p3⟩
/-- the reference's reading of a formula, behind its start -/
def rfm (s : zS) : Option (Int32 × zS) :=
  bnd (cl s 10 75 (fX10_need 75 s)) fun q10 => bnd (qI q10 10 75 8) fun x13 => if x13 = 0 then bnd (cl q10 10 75 (fX10_isWord 75 1 112 0 0 q10)) fun q16 => if q16.1 = 0 then bnd (qI q16.2 10 75 6) fun x19 => bnd (cl q16.2 10 75 (fX10_wrong 75 1 x19 q16.2)) fun q22 => fX10_formula_59 75 q22 else fX10_formula_59 75 q16.2 else fX10_formula_59 75 q10
theorem formula_lock {v v' : zV} {J J' : Nat → Nat → Int64} {I M : Nat → Nat → Int32} {b n : Nat} {T : Nat → Int32} (hb : isB b = true) (hf : isSh f = true) (hT : BT I b T n) (hM : ∀ p, p < n → M 77 p = T p) (h0 : I (f + 4) 0 = 0) :
    ∃ I1 I2 n' e w d va, fX5_readFormula 27 b (nI n) f (st I v J) = some (st I1 (vB v b f) J) ∧ rfm (st (tkn M n) v' J') = fX10_formula_168 75 va (st I2 v' J') ∧ RCl I1 I2 f n' e w d ∧ FK I1 I2 ∧ (∀ a, a ≠ 27 → a ≠ 28 → (a < f ∨ f + 6 < a) → I1 a = I a) ∧ (∀ a, a ≠ 75 → a ≠ 85 → a ≠ 86 → a ≠ 87 → a ≠ 88 → I2 a = tkn M n a) ∧ (∀ j, j < 5 ∨ (9 < j ∧ j < 26) ∨ 30 < j → I2 75 j = tkn M n 75 j) ∧ (I1 27 7 = 0 → I1 f 5 = va) := by
  have hz := zfu_big
  have hf27 : f + 6 < 27 := by rcases isSh_i hf with q | q | q <;> omega
  have hf0 : f ≠ 0 := by rcases isSh_i hf with q | q | q <;> rw [q] <;> decide
  obtain ⟨s1, s2, s3⟩ := start_lock hb hf hT hM h0
  obtain ⟨g1, g2, g3, g4, g5, g6, g7, g8, g9, g10⟩ := bgn_f (I := I) (n := n) hf
  obtain ⟨t1, t2, t3, t4, t5, t6, t7, t8, t9, t10⟩ := tkn_f (I := M) (n := n)
  have hv : VV (vB v b f) b f := ⟨rfl, rfl, rfl, hb, hf⟩
  have hH : HS (bgn I f n) (tkn M n) b T n f := ⟨s2, s3, ⟨by rw [g7, t8], fun _ => g8, fun q => absurd g7 q⟩, ⟨_, _, _, s1⟩, g6, t6, fun _ => ⟨0, by omega, g3, t9⟩⟩
  obtain ⟨Ia, Ma, a1, a2, a3, a4, a5⟩ := word_lock (v := vB v b f) (v' := v') (J := J) (J' := J') (k := 0) (by decide) hv hH (fun s => fX10_isWord 75 1 112 0 0 s) (fun X P E q1 q2 q3 q4 q5 => by rw [wd_0]; exact word1_m q1 q2 q3 q4 q5 112) (fX10_formula_59 75)
  obtain ⟨Ib, Mb, b1, b2, b3, b4, b5⟩ := word_lock (v := vB v b f) (v' := v') (J := J) (J' := J') (k := 1) (by decide) hv a3 (fun s => fX10_isWord 75 3 99 110 102 s) (fun X P E q1 q2 q3 q4 q5 => by rw [wd_1]; exact word3_m q1 q2 q3 q4 q5 99 110 102) (fX10_formula_93 75)
  obtain ⟨Ic, Mc, xc, yc, c1, c2, c3, c4, c5, c6⟩ := number_lock (v := vB v b f) (v' := v') (J := J) (J' := J') (bd := 150) hv (by omega) b3
  obtain ⟨Id, Md, xd, yd, d1, d2, d3, d4, d5, d6⟩ := number_lock (v := vB v b f) (v' := v') (J := J) (J' := J') (bd := 300) hv (by omega) c3
  rw [show nI 150 = (150 : Int32) from rfl] at c1 c2
  rw [show nI 300 = (300 : Int32) from rfl] at d1 d2
  have FT : FCr (bgn I f n) Id f := FCr_t (FCr_t (FCr_t a4 b4) c4) d4
  have FM : FMr (tkn M n) Md := FMr_t (FMr_t (FMr_t a5 b5) c5) d5
  generalize hX : up Id f 5 xc = X
  generalize hY : up Md 75 30 yc = Y
  have eC : fX5_readFormula 27 b (nI n) f (st I v J) = fX5_readFormula_49 zfu 27 xc xd 1 (st X (vB v b f) J) := by
    have e : ∀ X : Nat → Nat → Int32, qR (st X (vB v b f) J) 5 27 2 = some f := fun X => rv_27_2 (v := vB v b f) hf0
    unfold fX5_readFormula
    simp only [bnd_x, gd_0, gd_1, gd_o0, gd_o1, ite_self, rf_1_0, rf_1_1, rf_1_5, rf_1_6, rf_1_7, rf_2_0, rf_4_0, rf_6_0, rf_6_1, rf_6_2, rf_7_0, rf_9_0, rf_11_0, rf_13_0, rf_13_1, rf_13_2, rf_14_0, rf_16_0, rf_18_0, rf_20_0, rf_20_1, rf_20_2, rf_21_0, rf_23_0, rf_25_0, rf_27_0, rf_29_0, rf_29_1, rf_29_2, rf_29_3, rf_29_4, rf_29_5, rf_30_0, rf_32_0, rf_34_0, rf_36_0, rf_38_0, rf_40_0, rf_42_0, rf_42_1, rf_42_2, rf_42_3, rf_43_0, rf_43_1, rf_43_2, rf_44_0, rf_46_0, rf_48_0, rf_50_0, rf_52_0, rf_52_1, rf_52_2, rf_52_3, rf_52_4, rf_52_5, rf_52_6, rf_52_7, rf_52_8, rf_52_9, rf_52_10, rf_52_11, rf_53_0, rf_55_0, rf_57_0, rf_59_0, rf_61_0, rf_63_0, rf_65_0, rf_67_0, rf_69_0, rf_71_0, rf_73_0, a_7, p_7, f_7, c_7, a_9, p_9, f_9, c_9, a_11, p_11, f_11, c_11, a_14, p_14, f_14, c_14, a_16, p_16, f_16, c_16, a_18, p_18, f_18, c_18, a_21, p_21, f_21, c_21, a_23, p_23, f_23, c_23, a_25, p_25, f_25, c_25, a_30, p_30, f_30, c_30, a_32, p_32, f_32, c_32, a_34, p_34, f_34, c_34, a_36, p_36, f_36, c_36, a_38, p_38, f_38, c_38, a_40, p_40, f_40, c_40, a_44, p_44, f_44, c_44, a_46, p_46, f_46, c_46, a_48, p_48, f_48, c_48, a_50, p_50, f_50, c_50, a_53, p_53, f_53, c_53, a_55, p_55, f_55, c_55, a_57, p_57, f_57, c_57, a_59, p_59, f_59, c_59, a_61, p_61, f_61, c_61, a_63, p_63, f_63, c_63, a_65, p_65, f_65, c_65, a_67, p_67, f_67, c_67, a_69, p_69, f_69, c_69, a_71, p_71, f_71, c_71, a_73, p_73, f_73, c_73, c_1, i_1, w_1, z0_1, z1_1, c_2, i_2, w_2, z0_2, z1_2, c_4, i_4, w_4, z0_4, z1_4, c_6, i_6, w_6, z0_6, z1_6, c_13, i_13, w_13, z0_13, z1_13, c_20, i_20, w_20, z0_20, z1_20, c_27, i_27, w_27, z0_27, z1_27, c_28, i_28, w_28, z0_28, z1_28, c_29, i_29, w_29, z0_29, z1_29, c_42, i_42, w_42, z0_42, z1_42, c_43, i_43, w_43, z0_43, z1_43, c_52, i_52, w_52, z0_52, z1_52, X1_size, X1_literal, X1_numberOfStep, X1_ofFormula, X1_inAll, X1_user, X9_codeOf, X1_firstUse, X1_endOfUses, X2_open, X2_at, X2_add, X2_drop, X2_clear, X4_fuelLeft, X4_isActive, X4_isMarked, X4_mark, X4_usedCount, X4_usedAt, X4_setActive, X4_forget, X4_truthOf, begin_r hb hf, a1, b1, c1, d1, e, cl_st (sh_f hf).1, X7_setVariables hf, hX]
  have eM : rfm (st (tkn M n) v' J') = fX10_formula_117 zfu 75 yc yd 0 (st Y v' J') := by
    have h59 : fX10_formula_59 75 (st Ma v' J') = fX10_formula_93 75 (st Mb v' J') := b2
    have h93 : fX10_formula_93 75 (st Mb v' J') = fX10_formula_117 zfu 75 yc yd 0 (st Y v' J') := by
      unfold fX10_formula_93
      simp only [bnd_x, gd_0, gd_1, gd_o0, gd_o1, ite_self, rf_75_1, rf_75_3, rf_75_12, rf_75_13, rf_75_14, rf_75_15, rf_75_16, rf_75_17, rf_75_18, rf_75_22, rf_75_23, rf_75_24, rf_75_25, rf_75_31, rf_75_32, rf_75_41, rf_75_42, rf_75_43, rf_75_44, rf_75_45, rf_75_46, rf_75_47, rf_75_48, rf_75_53, rf_75_54, rf_75_55, rf_75_57, c_75, i_75, w_75, z0_75, z1_75, c2, d2, hY]
    have : rfm (st (tkn M n) v' J') = fX10_formula_59 75 (st Ma v' J') := a2
    rw [this, h59, h93]
  rw [eC, eM]
  have Xne : ∀ a, a ≠ f → X a = Id a := fun a ha => by rw [← hX, up_ne ha]
  have Yne : ∀ a, a ≠ 75 → Y a = Md a := fun a ha => by rw [← hY, up_ne ha]
  have Xf : ∀ j, j ≠ 5 → X f j = Id f j := fun j hj => by rw [← hX, up_at, vup_n hj]
  have Y75 : ∀ j, j ≠ 30 → Y 75 j = Md 75 j := fun j hj => by rw [← hY, up_at, vup_n hj]
  have Xf5 : X f 5 = xc := by rw [← hX, up_self]
  have frC : ∀ a, a ≠ 27 → a ≠ 28 → (a < f ∨ f + 6 < a) → X a = I a := fun a e1 e2 e3 => by rw [Xne a (by omega), FT.1 a e1 e2 (by omega) (by omega) (by omega) (by omega), g1 a e1 e2 (by omega)]
  have frM : ∀ a, a ≠ 75 → a ≠ 85 → a ≠ 86 → a ≠ 87 → a ≠ 88 → Y a = tkn M n a := fun a e1 e2 e3 e4 e5 => by rw [Yne a e1, FM.1 a e1 e2 e3 e4 e5]
  have fr75 : ∀ j, j < 5 ∨ (9 < j ∧ j < 26) ∨ 30 < j → Y 75 j = tkn M n 75 j := fun j hj => by rw [Y75 j (by omega), FM.2 j (by omega)]
  have hRX : ∀ {e w d}, RCl Id Md f 0 e w d → RCl X Y f 0 e w d := by
    intro e w d h
    obtain ⟨o1, ⟨p1, p2, p3, p4, p5⟩, o3, o4, o5, o6⟩ := h
    exact ⟨o1, ⟨by rw [Xf 3 (by decide)]; exact p1, by rw [Xf 4 (by decide)]; exact p2, by rw [Xne (f + 4) (by omega)]; exact p3, by rw [Xne (f + 2) (by omega)]; exact p4, by rw [Xne (f + 6) (by omega)]; exact p5⟩, SHR_fr o3 (Yne _ (by decide)) (Yne _ (by decide)) (Yne _ (by decide)), by rw [Y75 26 (by decide)]; exact o4, by rw [Y75 27 (by decide)]; exact o5, by rw [Yne 88 (by decide)]; exact o6⟩
  have hFK : FK X Y := by unfold FK; rw [Xne 27 (by omega), Y75 8 (by decide), Y75 9 (by decide)]; exact d3.2.2.1
  obtain ⟨mz, hmz⟩ : ∃ m, zfu = m + 1 := ⟨zfu - 1, by omega⟩
  by_cases z : Id 27 7 = 0
  · obtain ⟨z1, ro, r1, r2, r3⟩ := d6 z
    obtain ⟨z2, va, w1, w2, w3⟩ := c6 z1
    obtain ⟨e, w, d, pos, hR⟩ := HS_RST d3 z
    obtain ⟨q1, q2, q3, q4, q5, q6, q7, q8, q9, q10, q11, q12, q13⟩ := hR
    have hRS : RST X Y b T n f 0 e w d 0 pos := by
      refine ⟨hRX q1, ?_, ?_, by rw [Xne 27 (by omega)]; exact q4, by rw [Xne 27 (by omega)]; exact q5, by rw [Y75 8 (by decide)]; exact q6, by rw [Xne 27 (by omega)]; exact q7, by rw [Y75 28 (by decide)]; exact q8, q9, q10, q11, by rw [Xne 28 (by omega)]; exact q12, by rw [Y75 5 (by decide)]; exact q13⟩
      · have hbb := B_f hb hf
        exact ⟨BT_fr q2.1 (Xne b (by omega)) (Xne (b + 1) (by omega)), by rw [Xne 28 (by omega)]; exact q2.2.1, by rw [Xne 27 (by omega)]; exact q2.2.2⟩
      · exact RT_fr q3 (Y75 4 (by decide)) (Yne 77 (by decide))
    obtain ⟨I1, I2, n', e', w', d', h1, h2, h3, h4, h5, h6⟩ := form_loop (v := vB v b f) (v' := v') (J := J) (J' := J') (va := va) (ro := ro) hv w1 r1 ro 0 zfu zfu 0 pos X Y e w d (by omega) (by omega) (by omega) hRS (by rw [← hY, up_self]; exact w3)
    rw [show nI (0 + 1) = (1 : Int32) from rfl, ← w2, ← r2] at h1
    rw [nI_0, ← w3, ← r3] at h2
    refine ⟨I1, I2, n', e', w', d', yc, h1, h2, h3, h4, fun a e1 e2 e3 => by rw [h5.1 a e1 e2 (by omega) (by omega) (by omega) (by omega), frC a e1 e2 e3], fun a e1 e2 e3 e4 e5 => by rw [h6.1 a e1 e2 e3 e4 e5, frM a e1 e2 e3 e4 e5], fun j hj => by rw [h6.2 j (by omega), fr75 j hj], fun _ => ?_⟩
    rw [h5.2.2.2 5 (by omega), Xf5, w2, w3]
  · obtain ⟨e, w, d, hR⟩ := d3.2.2.2.1
    have z' : X 27 7 ≠ 0 := by rw [Xne 27 (by omega)]; exact z
    refine ⟨X, Y, 0, e, w, d, yc, by rw [hmz, formC_end z'], by rw [hmz, formM_end (by rw [← hFK.1]; exact z')], hRX hR, hFK, frC, frM, fr75, fun q => absurd q z'⟩
end
