/-! Bytes and tokens. -/
section
variable {v : zV} {J : Nat → Nat → Int64} {I : Nat → Nat → Int32}
def isB (b : Nat) : Bool := b == 2 || b == 4
theorem isB_i {b : Nat} (h : isB b = true) : b = 2 ∨ b = 4 := by
  simpa [isB] using h
theorem B_0 {b : Nat} (h : isB b = true) : ok0 0 b = true ∧ ok0 11 (b + 1) = true ∧ (K0 (b + 1)).2 = 6000 ∧ b ≠ 0 := by
  rcases isB_i h with rfl | rfl <;> decide
theorem B_q {b : Nat} (h : isB b = true) : qR (st I v J) 0 b 0 = some (b + 1) := by
  rcases isB_i h with rfl | rfl <;> rfl
def atv (I : Nat → Nat → Int32) (b : Nat) (p : Int32) : Int32 := if p < 0 then 0 else if I b 1 ≤ p then 0 else if 6000 ≤ p then 0 else I (b + 1) p.toNatClampNeg &&& 255
theorem at_all {b : Nat} (h : isB b = true) (p : Int32) : fX0_at b p (st I v J) = some (atv I b p, st I v J) := by
  obtain ⟨h1, h2, h3, -⟩ := B_0 h
  unfold fX0_at atv
  by_cases c : p < 0
  · rw [if_pos c, if_pos c]
  · rw [if_neg c, if_neg c]
    obtain ⟨k, hk, rfl⟩ := nI_of c
    simp only [qI_st h1, bnd_x, B_q h, qL_st h2, h3]
    split
    · rfl
    · split
      · rename_i q
        rw [if_pos (show (6000 : Int32) ≤ nI k from q)]
      · rename_i q
        have q' : ¬ (6000 : Int32) ≤ nI k := q
        have hk6 : k < 6000 := by
          apply Classical.byContradiction
          intro x
          exact q' (nI_le (a := 6000) (by omega) hk)
        rw [if_neg q', qA_st h2 (by rw [h3]; exact hk6), bnd_x, nI_clamp hk]
/-- a text: n bytes T of role b -/
def BT (I : Nat → Nat → Int32) (b : Nat) (T : Nat → Int32) (n : Nat) : Prop := ∃ wr, wr < 2 ^ 31 ∧ I b 1 = nI wr ∧ n ≤ wr ∧ n ≤ 6000 ∧ ∀ p, p < n → I (b + 1) p &&& 255 = T p
theorem BT_fr {I1 : Nat → Nat → Int32} {b n : Nat} {T : Nat → Int32} (h : BT I b T n) (a : I1 b = I b) (c : I1 (b + 1) = I (b + 1)) : BT I1 b T n := by
  unfold BT; rw [a, c]; exact h
theorem atv_ok {b n p : Nat} {T : Nat → Int32} (h : BT I b T n) (hp : p < n) : atv I b (nI p) = T p := by
  obtain ⟨w, w1, w2, w3, w4, w5⟩ := h
  unfold atv
  rw [if_neg (nI_pos (by omega)), w2, if_neg (nI_ge (by omega) w1), if_neg (show ¬ (6000 : Int32) ≤ nI p from nI_ge (b := 6000) (by omega) (by decide)), nI_clamp (by omega)]
  exact w5 p hp
theorem gap_ok (x : Int32) (s : zS) : fX8_isGap x s = some (b2 (isBl x), s) := by
  unfold fX8_isGap isBl
  simp only [gd_0, gd_1]
  by_cases a : x = 32
  · simp [a, b2, gd]
  · by_cases b : x = 9
    · simp [b, b2, gd]
    · by_cases c : x = 13
      · simp [c, b2, gd]
      · by_cases d : x = 10
        · simp [d, b2, gd]
        · simp [a, b, c, d, b2, gd]
theorem blank_ok (x : Int32) (s : zS) : fX10_isBlank x s = some (b2 (isBl x), s) := gap_ok x s
theorem b2_0 (b : Bool) : b2 b = 0 ↔ b = false := by cases b <;> simp [b2]
variable {T : Nat → Int32} {n : Nat}
theorem endTok {b : Nat} (hv : v.2.2.2.2.2.1 = b) (hb : isB b = true) (hT : BT I b T n) (h1 : I 28 1 = nI n) : ∀ (d p m : Nat), p + d = n → d < m → fX8_endOfToken_2 m 28 (nI p) (st I v J) = some (nI (en T n p), st I v J) := by
  have hb0 : v.2.2.2.2.2.1 ≠ 0 := by rw [hv]; exact (B_0 hb).2.2.2
  have hn : n ≤ 6000 := by obtain ⟨w, w1, w2, w3, w4, w5⟩ := hT; exact w4
  intro d
  induction d with
  | zero =>
    intro p m hp hm
    obtain ⟨m, rfl⟩ : ∃ q, m = q + 1 := ⟨m - 1, by omega⟩
    have : p = n := by omega
    subst this
    conv => lhs; unfold fX8_endOfToken_2
    simp only [bnd_x, gd_0, gd_1, gd_o0, gd_o1, ite_self, rf_1_0, rf_1_1, rf_1_5, rf_1_6, rf_1_7, rf_2_0, rf_4_0, rf_6_0, rf_6_1, rf_6_2, rf_7_0, rf_9_0, rf_11_0, rf_13_0, rf_13_1, rf_13_2, rf_14_0, rf_16_0, rf_18_0, rf_20_0, rf_20_1, rf_20_2, rf_21_0, rf_23_0, rf_25_0, rf_27_0, rf_29_0, rf_29_1, rf_29_2, rf_29_3, rf_29_4, rf_29_5, rf_30_0, rf_32_0, rf_34_0, rf_36_0, rf_38_0, rf_40_0, rf_42_0, rf_42_1, rf_42_2, rf_42_3, rf_43_0, rf_43_1, rf_43_2, rf_44_0, rf_46_0, rf_48_0, rf_50_0, rf_52_0, rf_52_1, rf_52_2, rf_52_3, rf_52_4, rf_52_5, rf_52_6, rf_52_7, rf_52_8, rf_52_9, rf_52_10, rf_52_11, rf_53_0, rf_55_0, rf_57_0, rf_59_0, rf_61_0, rf_63_0, rf_65_0, rf_67_0, rf_69_0, rf_71_0, rf_73_0, a_7, p_7, f_7, c_7, a_9, p_9, f_9, c_9, a_11, p_11, f_11, c_11, a_14, p_14, f_14, c_14, a_16, p_16, f_16, c_16, a_18, p_18, f_18, c_18, a_21, p_21, f_21, c_21, a_23, p_23, f_23, c_23, a_25, p_25, f_25, c_25, a_30, p_30, f_30, c_30, a_32, p_32, f_32, c_32, a_34, p_34, f_34, c_34, a_36, p_36, f_36, c_36, a_38, p_38, f_38, c_38, a_40, p_40, f_40, c_40, a_44, p_44, f_44, c_44, a_46, p_46, f_46, c_46, a_48, p_48, f_48, c_48, a_50, p_50, f_50, c_50, a_53, p_53, f_53, c_53, a_55, p_55, f_55, c_55, a_57, p_57, f_57, c_57, a_59, p_59, f_59, c_59, a_61, p_61, f_61, c_61, a_63, p_63, f_63, c_63, a_65, p_65, f_65, c_65, a_67, p_67, f_67, c_67, a_69, p_69, f_69, c_69, a_71, p_71, f_71, c_71, a_73, p_73, f_73, c_73, c_1, i_1, w_1, z0_1, z1_1, c_2, i_2, w_2, z0_2, z1_2, c_4, i_4, w_4, z0_4, z1_4, c_6, i_6, w_6, z0_6, z1_6, c_13, i_13, w_13, z0_13, z1_13, c_20, i_20, w_20, z0_20, z1_20, c_27, i_27, w_27, z0_27, z1_27, c_28, i_28, w_28, z0_28, z1_28, c_29, i_29, w_29, z0_29, z1_29, c_42, i_42, w_42, z0_42, z1_42, c_43, i_43, w_43, z0_43, z1_43, c_52, i_52, w_52, z0_52, z1_52, X1_size, X1_literal, X1_numberOfStep, X1_ofFormula, X1_inAll, X1_user, X9_codeOf, X1_firstUse, X1_endOfUses, X2_open, X2_at, X2_add, X2_drop, X2_clear, X4_fuelLeft, X4_isActive, X4_isMarked, X4_mark, X4_usedCount, X4_usedAt, X4_setActive, X4_forget, X4_truthOf, h1, if_pos (nI_le (Nat.le_refl p) (show p < 2 ^ 31 by omega))]
    rw [en_eq, if_neg (by omega)]
  | succ d ih =>
    intro p m hp hm
    obtain ⟨m, rfl⟩ : ∃ q, m = q + 1 := ⟨m - 1, by omega⟩
    conv => lhs; unfold fX8_endOfToken_2
    simp only [bnd_x, gd_0, gd_1, gd_o0, gd_o1, ite_self, rf_1_0, rf_1_1, rf_1_5, rf_1_6, rf_1_7, rf_2_0, rf_4_0, rf_6_0, rf_6_1, rf_6_2, rf_7_0, rf_9_0, rf_11_0, rf_13_0, rf_13_1, rf_13_2, rf_14_0, rf_16_0, rf_18_0, rf_20_0, rf_20_1, rf_20_2, rf_21_0, rf_23_0, rf_25_0, rf_27_0, rf_29_0, rf_29_1, rf_29_2, rf_29_3, rf_29_4, rf_29_5, rf_30_0, rf_32_0, rf_34_0, rf_36_0, rf_38_0, rf_40_0, rf_42_0, rf_42_1, rf_42_2, rf_42_3, rf_43_0, rf_43_1, rf_43_2, rf_44_0, rf_46_0, rf_48_0, rf_50_0, rf_52_0, rf_52_1, rf_52_2, rf_52_3, rf_52_4, rf_52_5, rf_52_6, rf_52_7, rf_52_8, rf_52_9, rf_52_10, rf_52_11, rf_53_0, rf_55_0, rf_57_0, rf_59_0, rf_61_0, rf_63_0, rf_65_0, rf_67_0, rf_69_0, rf_71_0, rf_73_0, a_7, p_7, f_7, c_7, a_9, p_9, f_9, c_9, a_11, p_11, f_11, c_11, a_14, p_14, f_14, c_14, a_16, p_16, f_16, c_16, a_18, p_18, f_18, c_18, a_21, p_21, f_21, c_21, a_23, p_23, f_23, c_23, a_25, p_25, f_25, c_25, a_30, p_30, f_30, c_30, a_32, p_32, f_32, c_32, a_34, p_34, f_34, c_34, a_36, p_36, f_36, c_36, a_38, p_38, f_38, c_38, a_40, p_40, f_40, c_40, a_44, p_44, f_44, c_44, a_46, p_46, f_46, c_46, a_48, p_48, f_48, c_48, a_50, p_50, f_50, c_50, a_53, p_53, f_53, c_53, a_55, p_55, f_55, c_55, a_57, p_57, f_57, c_57, a_59, p_59, f_59, c_59, a_61, p_61, f_61, c_61, a_63, p_63, f_63, c_63, a_65, p_65, f_65, c_65, a_67, p_67, f_67, c_67, a_69, p_69, f_69, c_69, a_71, p_71, f_71, c_71, a_73, p_73, f_73, c_73, c_1, i_1, w_1, z0_1, z1_1, c_2, i_2, w_2, z0_2, z1_2, c_4, i_4, w_4, z0_4, z1_4, c_6, i_6, w_6, z0_6, z1_6, c_13, i_13, w_13, z0_13, z1_13, c_20, i_20, w_20, z0_20, z1_20, c_27, i_27, w_27, z0_27, z1_27, c_28, i_28, w_28, z0_28, z1_28, c_29, i_29, w_29, z0_29, z1_29, c_42, i_42, w_42, z0_42, z1_42, c_43, i_43, w_43, z0_43, z1_43, c_52, i_52, w_52, z0_52, z1_52, X1_size, X1_literal, X1_numberOfStep, X1_ofFormula, X1_inAll, X1_user, X9_codeOf, X1_firstUse, X1_endOfUses, X2_open, X2_at, X2_add, X2_drop, X2_clear, X4_fuelLeft, X4_isActive, X4_isMarked, X4_mark, X4_usedCount, X4_usedAt, X4_setActive, X4_forget, X4_truthOf, h1, if_neg (nI_ge (show p < n by omega) (show n < 2 ^ 31 by omega)), rv_28_0 hb0, hv, cl_st (B_0 hb).1, at_all hb, atv_ok hT (show p < n by omega), gap_ok, nI_1, b2_0]
    rw [en_eq, ih (p + 1) m (by omega) (by omega)]
    cases hB : isBl (T p) with
    | false => rw [if_pos rfl, if_pos ⟨by omega, rfl⟩]
    | true => rw [if_neg (by decide), if_neg (by rintro ⟨-, q⟩; exact absurd q (by decide))]
/-- where the class's loop comes to -/
def skf (T : Nat → Int32) (n : Nat) (f : Bool) (p : Nat) : Nat := if f = true ∧ ¬ (p = 0 ∨ T (p - 1) = 10) then sk T n (cmt T n (n + 1) p) else sk T n p
def tk (I : Nat → Nat → Int32) (T : Nat → Int32) (n P : Nat) : Nat → Nat → Int32 := up (up I 28 2 (nI P)) 28 3 (nI (en T n P))
theorem nextC {b : Nat} (hv : v.2.2.2.2.2.1 = b) (hb : isB b = true) (hT : BT I b T n) (h1 : I 28 1 = nI n) : ∀ (d p m : Nat) (f : Bool), p + d = n → d < m → fX8_next_7 m 28 (b2 f) (nI p) (st I v J) = some (b2 (decide (skf T n f p < n)), st (tk I T n (skf T n f p)) v J) := by
  have hb0 : v.2.2.2.2.2.1 ≠ 0 := by rw [hv]; exact (B_0 hb).2.2.2
  have hn : n ≤ 6000 := by obtain ⟨w, w1, w2, w3, w4, w5⟩ := hT; exact w4
  have hz := zfu_big
  intro d
  induction d with
  | zero =>
    intro p m f hp hm
    obtain ⟨m, rfl⟩ : ∃ q, m = q + 1 := ⟨m - 1, by omega⟩
    have : p = n := by omega
    subst this
    have e : skf T p f p = p := by
      have s : sk T p p = p := by rw [sk_eq, if_neg (Nat.lt_irrefl _)]
      unfold skf
      rw [cmt_stop (fun q => absurd q.1 (Nat.lt_irrefl _)), s]
      split <;> rfl
    have e2 : en T p p = p := by rw [en_eq, if_neg (by omega)]
    conv => lhs; unfold fX8_next_7
    simp only [bnd_x, gd_0, gd_1, gd_o0, gd_o1, ite_self, rf_1_0, rf_1_1, rf_1_5, rf_1_6, rf_1_7, rf_2_0, rf_4_0, rf_6_0, rf_6_1, rf_6_2, rf_7_0, rf_9_0, rf_11_0, rf_13_0, rf_13_1, rf_13_2, rf_14_0, rf_16_0, rf_18_0, rf_20_0, rf_20_1, rf_20_2, rf_21_0, rf_23_0, rf_25_0, rf_27_0, rf_29_0, rf_29_1, rf_29_2, rf_29_3, rf_29_4, rf_29_5, rf_30_0, rf_32_0, rf_34_0, rf_36_0, rf_38_0, rf_40_0, rf_42_0, rf_42_1, rf_42_2, rf_42_3, rf_43_0, rf_43_1, rf_43_2, rf_44_0, rf_46_0, rf_48_0, rf_50_0, rf_52_0, rf_52_1, rf_52_2, rf_52_3, rf_52_4, rf_52_5, rf_52_6, rf_52_7, rf_52_8, rf_52_9, rf_52_10, rf_52_11, rf_53_0, rf_55_0, rf_57_0, rf_59_0, rf_61_0, rf_63_0, rf_65_0, rf_67_0, rf_69_0, rf_71_0, rf_73_0, a_7, p_7, f_7, c_7, a_9, p_9, f_9, c_9, a_11, p_11, f_11, c_11, a_14, p_14, f_14, c_14, a_16, p_16, f_16, c_16, a_18, p_18, f_18, c_18, a_21, p_21, f_21, c_21, a_23, p_23, f_23, c_23, a_25, p_25, f_25, c_25, a_30, p_30, f_30, c_30, a_32, p_32, f_32, c_32, a_34, p_34, f_34, c_34, a_36, p_36, f_36, c_36, a_38, p_38, f_38, c_38, a_40, p_40, f_40, c_40, a_44, p_44, f_44, c_44, a_46, p_46, f_46, c_46, a_48, p_48, f_48, c_48, a_50, p_50, f_50, c_50, a_53, p_53, f_53, c_53, a_55, p_55, f_55, c_55, a_57, p_57, f_57, c_57, a_59, p_59, f_59, c_59, a_61, p_61, f_61, c_61, a_63, p_63, f_63, c_63, a_65, p_65, f_65, c_65, a_67, p_67, f_67, c_67, a_69, p_69, f_69, c_69, a_71, p_71, f_71, c_71, a_73, p_73, f_73, c_73, c_1, i_1, w_1, z0_1, z1_1, c_2, i_2, w_2, z0_2, z1_2, c_4, i_4, w_4, z0_4, z1_4, c_6, i_6, w_6, z0_6, z1_6, c_13, i_13, w_13, z0_13, z1_13, c_20, i_20, w_20, z0_20, z1_20, c_27, i_27, w_27, z0_27, z1_27, c_28, i_28, w_28, z0_28, z1_28, c_29, i_29, w_29, z0_29, z1_29, c_42, i_42, w_42, z0_42, z1_42, c_43, i_43, w_43, z0_43, z1_43, c_52, i_52, w_52, z0_52, z1_52, X1_size, X1_literal, X1_numberOfStep, X1_ofFormula, X1_inAll, X1_user, X9_codeOf, X1_firstUse, X1_endOfUses, X2_open, X2_at, X2_add, X2_drop, X2_clear, X4_fuelLeft, X4_isActive, X4_isMarked, X4_mark, X4_usedCount, X4_usedAt, X4_setActive, X4_forget, X4_truthOf, h1, if_pos (nI_le (Nat.le_refl p) (show p < 2 ^ 31 by omega)), up_at, vup_n (show (1 : Nat) ≠ 2 by decide)]
    rw [e, decide_eq_false (by omega)]
    unfold tk
    rw [e2]
    rfl
  | succ d ih =>
    intro p m f hp hm
    obtain ⟨m, rfl⟩ : ∃ q, m = q + 1 := ⟨m - 1, by omega⟩
    have i1 := ih (p + 1) m true (by omega) (by omega)
    have i0 := ih (p + 1) m false (by omega) (by omega)
    have hlt : p < n := by omega
    -- the rest, by the flag
    have h55 : ∀ g : Bool, fX8_next_55 (fX8_next_7 m) 28 (b2 g) (nI p) (T p) (st I v J) = if g = false ∧ isBl (T p) = false then some (1, st (tk I T n p) v J) else fX8_next_7 m 28 (b2 g) (nI (p + 1)) (st I v J) := by
      intro g
      have he := endTok (v := v) (J := J) (I := up I 28 2 (nI p)) hv hb (BT_fr hT (up_ne (by rcases isB_i hb with q | q <;> omega)) (up_ne (by rcases isB_i hb with q | q <;> omega))) (by rw [up_at, vup_n (by decide)]; exact h1) (n - p) p zfu (by omega) (by omega)
      unfold fX8_next_55
      simp only [gap_ok, bnd_x, gd_0, gd_1, gd_o0, gd_o1, ite_self, rf_1_0, rf_1_1, rf_1_5, rf_1_6, rf_1_7, rf_2_0, rf_4_0, rf_6_0, rf_6_1, rf_6_2, rf_7_0, rf_9_0, rf_11_0, rf_13_0, rf_13_1, rf_13_2, rf_14_0, rf_16_0, rf_18_0, rf_20_0, rf_20_1, rf_20_2, rf_21_0, rf_23_0, rf_25_0, rf_27_0, rf_29_0, rf_29_1, rf_29_2, rf_29_3, rf_29_4, rf_29_5, rf_30_0, rf_32_0, rf_34_0, rf_36_0, rf_38_0, rf_40_0, rf_42_0, rf_42_1, rf_42_2, rf_42_3, rf_43_0, rf_43_1, rf_43_2, rf_44_0, rf_46_0, rf_48_0, rf_50_0, rf_52_0, rf_52_1, rf_52_2, rf_52_3, rf_52_4, rf_52_5, rf_52_6, rf_52_7, rf_52_8, rf_52_9, rf_52_10, rf_52_11, rf_53_0, rf_55_0, rf_57_0, rf_59_0, rf_61_0, rf_63_0, rf_65_0, rf_67_0, rf_69_0, rf_71_0, rf_73_0, a_7, p_7, f_7, c_7, a_9, p_9, f_9, c_9, a_11, p_11, f_11, c_11, a_14, p_14, f_14, c_14, a_16, p_16, f_16, c_16, a_18, p_18, f_18, c_18, a_21, p_21, f_21, c_21, a_23, p_23, f_23, c_23, a_25, p_25, f_25, c_25, a_30, p_30, f_30, c_30, a_32, p_32, f_32, c_32, a_34, p_34, f_34, c_34, a_36, p_36, f_36, c_36, a_38, p_38, f_38, c_38, a_40, p_40, f_40, c_40, a_44, p_44, f_44, c_44, a_46, p_46, f_46, c_46, a_48, p_48, f_48, c_48, a_50, p_50, f_50, c_50, a_53, p_53, f_53, c_53, a_55, p_55, f_55, c_55, a_57, p_57, f_57, c_57, a_59, p_59, f_59, c_59, a_61, p_61, f_61, c_61, a_63, p_63, f_63, c_63, a_65, p_65, f_65, c_65, a_67, p_67, f_67, c_67, a_69, p_69, f_69, c_69, a_71, p_71, f_71, c_71, a_73, p_73, f_73, c_73, c_1, i_1, w_1, z0_1, z1_1, c_2, i_2, w_2, z0_2, z1_2, c_4, i_4, w_4, z0_4, z1_4, c_6, i_6, w_6, z0_6, z1_6, c_13, i_13, w_13, z0_13, z1_13, c_20, i_20, w_20, z0_20, z1_20, c_27, i_27, w_27, z0_27, z1_27, c_28, i_28, w_28, z0_28, z1_28, c_29, i_29, w_29, z0_29, z1_29, c_42, i_42, w_42, z0_42, z1_42, c_43, i_43, w_43, z0_43, z1_43, c_52, i_52, w_52, z0_52, z1_52, X1_size, X1_literal, X1_numberOfStep, X1_ofFormula, X1_inAll, X1_user, X9_codeOf, X1_firstUse, X1_endOfUses, X2_open, X2_at, X2_add, X2_drop, X2_clear, X4_fuelLeft, X4_isActive, X4_isMarked, X4_mark, X4_usedCount, X4_usedAt, X4_setActive, X4_forget, X4_truthOf, fX8_next_82, fX8_endOfToken, he, nI_1]
      cases g with
      | false =>
        rw [show b2 false = 0 from rfl, if_pos rfl]
        cases isBl (T p) with
        | false => rw [show b2 false = 0 from rfl, if_pos rfl, if_pos ⟨rfl, rfl⟩]; rfl
        | true => rw [show b2 true = 1 from rfl, if_neg (by decide), if_neg (by rintro ⟨-, q⟩; exact absurd q (by decide))]
      | true =>
        rw [show b2 true = 1 from rfl, if_neg (by decide), if_neg (by rintro ⟨q, -⟩; exact absurd q (by decide))]
    have h43 : fX8_next_43 (fX8_next_7 m) 28 (nI p) (T p) (st I v J) = fX8_next_55 (fX8_next_7 m) 28 (b2 (decide (T p = 99))) (nI p) (T p) (st I v J) := by
      unfold fX8_next_43 fX8_next_54
      by_cases c : T p = 99
      · rw [if_pos c, decide_eq_true c]; rfl
      · rw [if_neg c, decide_eq_false c]; rfl
    have hstep : fX8_next_7 (m + 1) 28 (b2 f) (nI p) (st I v J) = fX8_next_55 (fX8_next_7 m) 28 (b2 (if p = 0 ∨ T (p - 1) = 10 then decide (T p = 99) else f)) (nI p) (T p) (st I v J) := by
      conv => lhs; unfold fX8_next_7
      simp only [bnd_x, gd_0, gd_1, gd_o0, gd_o1, ite_self, rf_1_0, rf_1_1, rf_1_5, rf_1_6, rf_1_7, rf_2_0, rf_4_0, rf_6_0, rf_6_1, rf_6_2, rf_7_0, rf_9_0, rf_11_0, rf_13_0, rf_13_1, rf_13_2, rf_14_0, rf_16_0, rf_18_0, rf_20_0, rf_20_1, rf_20_2, rf_21_0, rf_23_0, rf_25_0, rf_27_0, rf_29_0, rf_29_1, rf_29_2, rf_29_3, rf_29_4, rf_29_5, rf_30_0, rf_32_0, rf_34_0, rf_36_0, rf_38_0, rf_40_0, rf_42_0, rf_42_1, rf_42_2, rf_42_3, rf_43_0, rf_43_1, rf_43_2, rf_44_0, rf_46_0, rf_48_0, rf_50_0, rf_52_0, rf_52_1, rf_52_2, rf_52_3, rf_52_4, rf_52_5, rf_52_6, rf_52_7, rf_52_8, rf_52_9, rf_52_10, rf_52_11, rf_53_0, rf_55_0, rf_57_0, rf_59_0, rf_61_0, rf_63_0, rf_65_0, rf_67_0, rf_69_0, rf_71_0, rf_73_0, a_7, p_7, f_7, c_7, a_9, p_9, f_9, c_9, a_11, p_11, f_11, c_11, a_14, p_14, f_14, c_14, a_16, p_16, f_16, c_16, a_18, p_18, f_18, c_18, a_21, p_21, f_21, c_21, a_23, p_23, f_23, c_23, a_25, p_25, f_25, c_25, a_30, p_30, f_30, c_30, a_32, p_32, f_32, c_32, a_34, p_34, f_34, c_34, a_36, p_36, f_36, c_36, a_38, p_38, f_38, c_38, a_40, p_40, f_40, c_40, a_44, p_44, f_44, c_44, a_46, p_46, f_46, c_46, a_48, p_48, f_48, c_48, a_50, p_50, f_50, c_50, a_53, p_53, f_53, c_53, a_55, p_55, f_55, c_55, a_57, p_57, f_57, c_57, a_59, p_59, f_59, c_59, a_61, p_61, f_61, c_61, a_63, p_63, f_63, c_63, a_65, p_65, f_65, c_65, a_67, p_67, f_67, c_67, a_69, p_69, f_69, c_69, a_71, p_71, f_71, c_71, a_73, p_73, f_73, c_73, c_1, i_1, w_1, z0_1, z1_1, c_2, i_2, w_2, z0_2, z1_2, c_4, i_4, w_4, z0_4, z1_4, c_6, i_6, w_6, z0_6, z1_6, c_13, i_13, w_13, z0_13, z1_13, c_20, i_20, w_20, z0_20, z1_20, c_27, i_27, w_27, z0_27, z1_27, c_28, i_28, w_28, z0_28, z1_28, c_29, i_29, w_29, z0_29, z1_29, c_42, i_42, w_42, z0_42, z1_42, c_43, i_43, w_43, z0_43, z1_43, c_52, i_52, w_52, z0_52, z1_52, X1_size, X1_literal, X1_numberOfStep, X1_ofFormula, X1_inAll, X1_user, X9_codeOf, X1_firstUse, X1_endOfUses, X2_open, X2_at, X2_add, X2_drop, X2_clear, X4_fuelLeft, X4_isActive, X4_isMarked, X4_mark, X4_usedCount, X4_usedAt, X4_setActive, X4_forget, X4_truthOf, h1, if_neg (nI_ge hlt (show n < 2 ^ 31 by omega)), rv_28_0 hb0, hv, cl_st (B_0 hb).1, at_all hb, atv_ok hT hlt]
      by_cases p0 : p = 0
      · rw [if_pos (by rw [p0]; rfl), if_pos (Or.inl p0), h43]
      · rw [if_neg (nI_ne0 (show 0 < p by omega) (by omega)), zz_p (show 1 ≤ p by omega), atv_ok hT (show p - 1 < n by omega)]
        by_cases c : T (p - 1) = 10
        · rw [if_pos c, if_pos (Or.inr c), h43]
        · rw [if_neg c, if_neg (by rintro (q | q); exact p0 q; exact c q)]
    rw [hstep, h55]
    by_cases ls : p = 0 ∨ T (p - 1) = 10
    · rw [if_pos ls]
      have es : skf T n f p = sk T n p := by unfold skf; rw [if_neg (fun q => q.2 ls)]
      rw [es]
      by_cases c : T p = 99
      · rw [decide_eq_true c, if_neg (by rintro ⟨q, -⟩; exact absurd q (by decide)), i1]
        have : skf T n true (p + 1) = sk T n p := by
          unfold skf
          rw [if_pos ⟨rfl, by rintro (q | q); omega; rw [Nat.add_sub_cancel, c] at q; exact absurd q (by decide)⟩]
          conv => rhs; rw [sk_eq, if_pos hlt, if_pos ⟨c, ls⟩]
          rw [cmt_step hlt (by rw [c]; decide)]
        rw [this]
      · rw [decide_eq_false c]
        have hk : sk T n p = if isBl (T p) = true then sk T n (p + 1) else p := by
          rw [sk_eq, if_pos hlt, if_neg (fun q => c q.1)]
        have e0 : skf T n false (p + 1) = sk T n (p + 1) := by unfold skf; rw [if_neg (fun q => absurd q.1 (by decide))]
        cases hB : isBl (T p) with
        | false =>
          rw [if_pos ⟨rfl, rfl⟩, hk, hB, if_neg (by decide), decide_eq_true hlt]; rfl
        | true =>
          rw [if_neg (by rintro ⟨-, q⟩; exact absurd q (by decide)), i0, e0, hk, hB, if_pos rfl]
    · rw [if_neg ls]
      cases f with
      | true =>
        rw [if_neg (by rintro ⟨q, -⟩; exact absurd q (by decide)), i1]
        have : skf T n true (p + 1) = skf T n true p := by
          unfold skf
          conv => rhs; rw [if_pos ⟨rfl, ls⟩]
          rw [Nat.add_sub_cancel]
          by_cases c : T p = 10
          · rw [if_neg (fun q => q.2 (Or.inr c)), cmt_stop (fun q => q.2 c)]
            conv => rhs; rw [sk_eq, if_pos hlt, if_neg (fun q => absurd (q.1.symm.trans c) (by decide)), if_pos (by rw [c]; decide)]
          · rw [if_pos ⟨rfl, by rintro (q | q); omega; exact c q⟩, cmt_step hlt c]
        rw [this]
      | false =>
        have es : skf T n false p = sk T n p := by unfold skf; rw [if_neg (fun q => absurd q.1 (by decide))]
        have hk : sk T n p = if isBl (T p) = true then sk T n (p + 1) else p := by
          rw [sk_eq, if_pos hlt, if_neg (fun q => ls q.2)]
        have e0 : skf T n false (p + 1) = sk T n (p + 1) := by unfold skf; rw [if_neg (fun q => absurd q.1 (by decide))]
        rw [es]
        cases hB : isBl (T p) with
        | false =>
          rw [if_pos ⟨rfl, rfl⟩, hk, hB, if_neg (by decide), decide_eq_true hlt]; rfl
        | true =>
          rw [if_neg (by rintro ⟨-, q⟩; exact absurd q (by decide)), i0, e0, hk, hB, if_pos rfl]
theorem next_c {b : Nat} (hv : v.2.2.2.2.2.1 = b) (hb : isB b = true) (hT : BT I b T n) (h1 : I 28 1 = nI n) {p : Nat} (h3 : I 28 3 = nI p) (hp : p ≤ n) : fX8_next 28 (st I v J) = some (b2 (decide (sk T n p < n)), st (tk I T n (sk T n p)) v J) := by
  have hn : n ≤ 6000 := by obtain ⟨w, w1, w2, w3, w4, w5⟩ := hT; exact w4
  have hz := zfu_big
  have q := nextC (v := v) (J := J) hv hb hT h1 (n - p) p zfu false (by omega) (by omega)
  have e0 : skf T n false p = sk T n p := by unfold skf; rw [if_neg (fun q => absurd q.1 (by decide))]
  rw [e0] at q
  unfold fX8_next
  simp only [bnd_x, gd_0, gd_1, gd_o0, gd_o1, ite_self, rf_1_0, rf_1_1, rf_1_5, rf_1_6, rf_1_7, rf_2_0, rf_4_0, rf_6_0, rf_6_1, rf_6_2, rf_7_0, rf_9_0, rf_11_0, rf_13_0, rf_13_1, rf_13_2, rf_14_0, rf_16_0, rf_18_0, rf_20_0, rf_20_1, rf_20_2, rf_21_0, rf_23_0, rf_25_0, rf_27_0, rf_29_0, rf_29_1, rf_29_2, rf_29_3, rf_29_4, rf_29_5, rf_30_0, rf_32_0, rf_34_0, rf_36_0, rf_38_0, rf_40_0, rf_42_0, rf_42_1, rf_42_2, rf_42_3, rf_43_0, rf_43_1, rf_43_2, rf_44_0, rf_46_0, rf_48_0, rf_50_0, rf_52_0, rf_52_1, rf_52_2, rf_52_3, rf_52_4, rf_52_5, rf_52_6, rf_52_7, rf_52_8, rf_52_9, rf_52_10, rf_52_11, rf_53_0, rf_55_0, rf_57_0, rf_59_0, rf_61_0, rf_63_0, rf_65_0, rf_67_0, rf_69_0, rf_71_0, rf_73_0, a_7, p_7, f_7, c_7, a_9, p_9, f_9, c_9, a_11, p_11, f_11, c_11, a_14, p_14, f_14, c_14, a_16, p_16, f_16, c_16, a_18, p_18, f_18, c_18, a_21, p_21, f_21, c_21, a_23, p_23, f_23, c_23, a_25, p_25, f_25, c_25, a_30, p_30, f_30, c_30, a_32, p_32, f_32, c_32, a_34, p_34, f_34, c_34, a_36, p_36, f_36, c_36, a_38, p_38, f_38, c_38, a_40, p_40, f_40, c_40, a_44, p_44, f_44, c_44, a_46, p_46, f_46, c_46, a_48, p_48, f_48, c_48, a_50, p_50, f_50, c_50, a_53, p_53, f_53, c_53, a_55, p_55, f_55, c_55, a_57, p_57, f_57, c_57, a_59, p_59, f_59, c_59, a_61, p_61, f_61, c_61, a_63, p_63, f_63, c_63, a_65, p_65, f_65, c_65, a_67, p_67, f_67, c_67, a_69, p_69, f_69, c_69, a_71, p_71, f_71, c_71, a_73, p_73, f_73, c_73, c_1, i_1, w_1, z0_1, z1_1, c_2, i_2, w_2, z0_2, z1_2, c_4, i_4, w_4, z0_4, z1_4, c_6, i_6, w_6, z0_6, z1_6, c_13, i_13, w_13, z0_13, z1_13, c_20, i_20, w_20, z0_20, z1_20, c_27, i_27, w_27, z0_27, z1_27, c_28, i_28, w_28, z0_28, z1_28, c_29, i_29, w_29, z0_29, z1_29, c_42, i_42, w_42, z0_42, z1_42, c_43, i_43, w_43, z0_43, z1_43, c_52, i_52, w_52, z0_52, z1_52, X1_size, X1_literal, X1_numberOfStep, X1_ofFormula, X1_inAll, X1_user, X9_codeOf, X1_firstUse, X1_endOfUses, X2_open, X2_at, X2_add, X2_drop, X2_clear, X4_fuelLeft, X4_isActive, X4_isMarked, X4_mark, X4_usedCount, X4_usedAt, X4_setActive, X4_forget, X4_truthOf, h3]
  exact q
/-! the reference's -/
def RT (I : Nat → Nat → Int32) (T : Nat → Int32) (n : Nat) : Prop := n ≤ 6000 ∧ I 75 4 = nI n ∧ ∀ p, p < n → I 77 p = T p
theorem RT_fr {I1 : Nat → Nat → Int32} (h : RT I T n) (a : I1 75 4 = I 75 4) (c : I1 77 = I 77) : RT I1 T n := by
  unfold RT; rw [a, c]; exact h
def tm (I : Nat → Nat → Int32) (T : Nat → Int32) (n P : Nat) : Nat → Nat → Int32 := up (up (up I 75 6 (nI P)) 75 5 (nI (en T n P))) 75 7 (nI (en T n P))
theorem up_up {I : Nat → Nat → Int32} {r k : Nat} {x y : Int32} : up (up I r k x) r k y = up I r k y := by
  funext a j
  unfold up
  split <;> rfl
theorem entM : ∀ (d p m : Nat) (I : Nat → Nat → Int32), p + d = n → d < m → RT I T n → I 75 5 = nI p → fX10_next_148 m 75 (st I v J) = fX10_next_187 75 (st (up I 75 5 (nI (en T n p))) v J) := by
  intro d
  induction d with
  | zero =>
    intro p m I hp hm hR h5
    obtain ⟨hn, r4, r77⟩ := hR
    obtain ⟨m, rfl⟩ : ∃ q, m = q + 1 := ⟨m - 1, by omega⟩
    have : p = n := by omega
    subst this
    conv => lhs; unfold fX10_next_148
    simp only [bnd_x, gd_0, gd_1, gd_o0, gd_o1, ite_self, rf_75_1, rf_75_3, rf_75_12, rf_75_13, rf_75_14, rf_75_15, rf_75_16, rf_75_17, rf_75_18, rf_75_22, rf_75_23, rf_75_24, rf_75_25, rf_75_31, rf_75_32, rf_75_41, rf_75_42, rf_75_43, rf_75_44, rf_75_45, rf_75_46, rf_75_47, rf_75_48, rf_75_53, rf_75_54, rf_75_55, rf_75_57, c_75, i_75, w_75, z0_75, z1_75, h5, r4, if_pos (nI_le (Nat.le_refl p) (show p < 2 ^ 31 by omega))]
    rw [en_eq, if_neg (by omega), up_id h5]
  | succ d ih =>
    intro p m I hp hm hR h5
    have hR' := hR
    obtain ⟨hn, r4, r77⟩ := hR
    obtain ⟨m, rfl⟩ : ∃ q, m = q + 1 := ⟨m - 1, by omega⟩
    have i1 := ih (p + 1) m (up I 75 5 (nI (p + 1))) (by omega) (by omega) (RT_fr hR' (by rw [up_at, vup_n (by decide)]) (up_ne (by decide))) (up_self ..)
    rw [up_up] at i1
    conv => lhs; unfold fX10_next_148
    simp only [bnd_x, gd_0, gd_1, gd_o0, gd_o1, ite_self, rf_75_1, rf_75_3, rf_75_12, rf_75_13, rf_75_14, rf_75_15, rf_75_16, rf_75_17, rf_75_18, rf_75_22, rf_75_23, rf_75_24, rf_75_25, rf_75_31, rf_75_32, rf_75_41, rf_75_42, rf_75_43, rf_75_44, rf_75_45, rf_75_46, rf_75_47, rf_75_48, rf_75_53, rf_75_54, rf_75_55, rf_75_57, c_75, i_75, w_75, z0_75, z1_75, h5, r4, if_neg (nI_ge (show p < n by omega) (show n < 2 ^ 31 by omega)), qa_77 (show p < 6000 by omega), r77 p (by omega), blank_ok, nI_1, b2_0, i1]
    conv => rhs; rw [en_eq]
    cases hB : isBl (T p) with
    | false => rw [if_pos rfl, if_pos ⟨by omega, rfl⟩]
    | true => rw [if_neg (by decide), if_neg (by rintro ⟨-, q⟩; exact absurd q (by decide)), up_id h5]
theorem cmtM (K : Nat → Int32 → zS → Option (Int32 × zS)) : ∀ (d p m : Nat) (I : Nat → Nat → Int32), p + d = n → d < m → RT I T n → I 75 5 = nI p → fX10_next_56 K m 75 (st I v J) = K 75 1 (st (up I 75 5 (nI (cmt T n (n + 1) p))) v J) := by
  intro d
  induction d with
  | zero =>
    intro p m I hp hm hR h5
    obtain ⟨hn, r4, r77⟩ := hR
    obtain ⟨m, rfl⟩ : ∃ q, m = q + 1 := ⟨m - 1, by omega⟩
    have : p = n := by omega
    subst this
    conv => lhs; unfold fX10_next_56
    simp only [bnd_x, gd_0, gd_1, gd_o0, gd_o1, ite_self, rf_75_1, rf_75_3, rf_75_12, rf_75_13, rf_75_14, rf_75_15, rf_75_16, rf_75_17, rf_75_18, rf_75_22, rf_75_23, rf_75_24, rf_75_25, rf_75_31, rf_75_32, rf_75_41, rf_75_42, rf_75_43, rf_75_44, rf_75_45, rf_75_46, rf_75_47, rf_75_48, rf_75_53, rf_75_54, rf_75_55, rf_75_57, c_75, i_75, w_75, z0_75, z1_75, h5, r4, if_pos (nI_le (Nat.le_refl p) (show p < 2 ^ 31 by omega)), fX10_next_94]
    rw [cmt_stop (by omega), up_id h5]
  | succ d ih =>
    intro p m I hp hm hR h5
    have hR' := hR
    obtain ⟨hn, r4, r77⟩ := hR
    obtain ⟨m, rfl⟩ : ∃ q, m = q + 1 := ⟨m - 1, by omega⟩
    have i1 := ih (p + 1) m (up I 75 5 (nI (p + 1))) (by omega) (by omega) (RT_fr hR' (by rw [up_at, vup_n (by decide)]) (up_ne (by decide))) (up_self ..)
    rw [up_up] at i1
    conv => lhs; unfold fX10_next_56
    simp only [bnd_x, gd_0, gd_1, gd_o0, gd_o1, ite_self, rf_75_1, rf_75_3, rf_75_12, rf_75_13, rf_75_14, rf_75_15, rf_75_16, rf_75_17, rf_75_18, rf_75_22, rf_75_23, rf_75_24, rf_75_25, rf_75_31, rf_75_32, rf_75_41, rf_75_42, rf_75_43, rf_75_44, rf_75_45, rf_75_46, rf_75_47, rf_75_48, rf_75_53, rf_75_54, rf_75_55, rf_75_57, c_75, i_75, w_75, z0_75, z1_75, h5, r4, if_neg (nI_ge (show p < n by omega) (show n < 2 ^ 31 by omega)), qa_77 (show p < 6000 by omega), r77 p (by omega), nI_1, i1, fX10_next_94]
    by_cases c : T p = 10
    · rw [if_pos c, cmt_stop (fun q => q.2 c), up_id h5]
    · rw [if_neg c, cmt_step (by omega) c]
theorem nextM : ∀ (d p m : Nat) (I : Nat → Nat → Int32), n ≤ p + d → p ≤ n → d + 2 ≤ m → RT I T n → I 75 5 = nI p → fX10_next_2 m 75 1 (st I v J) = some (b2 (decide (sk T n p < n)), st (tm I T n (sk T n p)) v J) := by
  have hz := zfu_big
  intro d
  -- at a token's start or at the end
  have fin : ∀ (p m : Nat) (I : Nat → Nat → Int32), p ≤ n → RT I T n → I 75 5 = nI p → (p < n → isBl (T p) = false) → fX10_next_2 (m + 1) 75 0 (st I v J) = some (b2 (decide (p < n)), st (tm I T n p) v J) := by
    intro p m I hp hR h5 hbl
    have hn := hR.1
    have he := entM (v := v) (J := J) (n - p) p zfu (up I 75 6 (nI p)) (by omega) (by omega) (RT_fr hR (by rw [up_at, vup_n (by decide)]) (up_ne (by decide))) (by rw [up_at, vup_n (by decide)]; exact h5)
    conv => lhs; unfold fX10_next_2
    rw [if_pos rfl]
    simp only [bnd_x, gd_0, gd_1, gd_o0, gd_o1, ite_self, rf_75_1, rf_75_3, rf_75_12, rf_75_13, rf_75_14, rf_75_15, rf_75_16, rf_75_17, rf_75_18, rf_75_22, rf_75_23, rf_75_24, rf_75_25, rf_75_31, rf_75_32, rf_75_41, rf_75_42, rf_75_43, rf_75_44, rf_75_45, rf_75_46, rf_75_47, rf_75_48, rf_75_53, rf_75_54, rf_75_55, rf_75_57, c_75, i_75, w_75, z0_75, z1_75, h5, he]
    unfold fX10_next_187
    have hel := en_le (T := T) hp
    simp only [bnd_x, gd_0, gd_1, gd_o0, gd_o1, ite_self, rf_75_1, rf_75_3, rf_75_12, rf_75_13, rf_75_14, rf_75_15, rf_75_16, rf_75_17, rf_75_18, rf_75_22, rf_75_23, rf_75_24, rf_75_25, rf_75_31, rf_75_32, rf_75_41, rf_75_42, rf_75_43, rf_75_44, rf_75_45, rf_75_46, rf_75_47, rf_75_48, rf_75_53, rf_75_54, rf_75_55, rf_75_57, c_75, i_75, w_75, z0_75, z1_75, up_self, up_at, vup_n (show (6 : Nat) ≠ 7 by decide), vup_n (show (6 : Nat) ≠ 5 by decide), vup_s]
    by_cases c : p < n
    · have := en_gt c (hbl c)
      rw [if_neg (nI_ge this (by omega)), decide_eq_true c]; rfl
    · have e2 : en T n p = p := by rw [en_eq, if_neg (by omega)]
      rw [e2, if_pos (nI_le (Nat.le_refl p) (by omega)), decide_eq_false c]
      unfold tm; rw [e2]; rfl
  induction d with
  | zero =>
    intro p m I hd hp hm hR h5
    have hn := hR.1
    obtain ⟨m, rfl⟩ : ∃ q, m = q + 2 := ⟨m - 2, by omega⟩
    have : p = n := by omega
    subst this
    have es : sk T p p = p := by rw [sk_eq, if_neg (by omega)]
    rw [es]
    conv => lhs; unfold fX10_next_2
    rw [if_neg (by decide)]
    simp only [bnd_x, gd_0, gd_1, gd_o0, gd_o1, ite_self, rf_75_1, rf_75_3, rf_75_12, rf_75_13, rf_75_14, rf_75_15, rf_75_16, rf_75_17, rf_75_18, rf_75_22, rf_75_23, rf_75_24, rf_75_25, rf_75_31, rf_75_32, rf_75_41, rf_75_42, rf_75_43, rf_75_44, rf_75_45, rf_75_46, rf_75_47, rf_75_48, rf_75_53, rf_75_54, rf_75_55, rf_75_57, c_75, i_75, w_75, z0_75, z1_75, h5, hR.2.1, if_pos (nI_le (Nat.le_refl p) (show p < 2 ^ 31 by omega)), fX10_next_99]
    exact fin p m I hp hR h5 (fun q => by omega)
  | succ d ih =>
    intro p m I hd hp hm hR h5
    have hn := hR.1
    obtain ⟨m, rfl⟩ : ∃ q, m = q + 2 := ⟨m - 2, by omega⟩
    by_cases hlt : p < n
    · have h99 : fX10_next_99 (fX10_next_2 (m + 1)) 75 0 (st I v J) = if isBl (T p) = true then fX10_next_2 (m + 1) 75 1 (st (up I 75 5 (nI (p + 1))) v J) else fX10_next_2 (m + 1) 75 0 (st I v J) := by
        unfold fX10_next_99
        simp only [bnd_x, gd_0, gd_1, gd_o0, gd_o1, ite_self, rf_75_1, rf_75_3, rf_75_12, rf_75_13, rf_75_14, rf_75_15, rf_75_16, rf_75_17, rf_75_18, rf_75_22, rf_75_23, rf_75_24, rf_75_25, rf_75_31, rf_75_32, rf_75_41, rf_75_42, rf_75_43, rf_75_44, rf_75_45, rf_75_46, rf_75_47, rf_75_48, rf_75_53, rf_75_54, rf_75_55, rf_75_57, c_75, i_75, w_75, z0_75, z1_75, h5, hR.2.1, if_neg (nI_ge hlt (show n < 2 ^ 31 by omega)), qa_77 (show p < 6000 by omega), hR.2.2 p hlt, blank_ok, nI_1, b2_0]
        cases isBl (T p) with
        | false => rw [if_pos rfl, if_neg (by decide)]
        | true => rw [if_neg (by decide), if_pos rfl]
      have hstep : fX10_next_2 (m + 2) 75 1 (st I v J) = if T p = 99 ∧ (p = 0 ∨ T (p - 1) = 10) then fX10_next_2 (m + 1) 75 1 (st (up I 75 5 (nI (cmt T n (n + 1) p))) v J) else fX10_next_99 (fX10_next_2 (m + 1)) 75 0 (st I v J) := by
        have hc := cmtM (v := v) (J := J) (fX10_next_2 (m + 1)) (n - p) p zfu I (by omega) (by omega) hR h5
        conv => lhs; unfold fX10_next_2
        rw [if_neg (by decide)]
        simp only [bnd_x, gd_0, gd_1, gd_o0, gd_o1, ite_self, rf_75_1, rf_75_3, rf_75_12, rf_75_13, rf_75_14, rf_75_15, rf_75_16, rf_75_17, rf_75_18, rf_75_22, rf_75_23, rf_75_24, rf_75_25, rf_75_31, rf_75_32, rf_75_41, rf_75_42, rf_75_43, rf_75_44, rf_75_45, rf_75_46, rf_75_47, rf_75_48, rf_75_53, rf_75_54, rf_75_55, rf_75_57, c_75, i_75, w_75, z0_75, z1_75, h5, hR.2.1, if_neg (nI_ge hlt (show n < 2 ^ 31 by omega)), qa_77 (show p < 6000 by omega), hR.2.2 p hlt, hc]
        by_cases c : T p = 99
        · rw [if_pos c]
          by_cases p0 : p = 0
          · rw [if_pos (by rw [p0]; rfl), if_pos ⟨c, Or.inl p0⟩]
          · rw [if_neg (nI_ne0 (show 0 < p by omega) (by omega)), zz_p (show 1 ≤ p by omega), qa_77 (show p - 1 < 6000 by omega), hR.2.2 (p - 1) (by omega), bnd_x]
            by_cases c' : T (p - 1) = 10
            · rw [if_pos c', if_pos ⟨c, Or.inr c'⟩]
            · rw [if_neg c', if_neg (by rintro ⟨-, q | q⟩; exact p0 q; exact c' q)]
        · rw [if_neg c, if_neg (fun q => c q.1)]
      rw [hstep]
      have hR1 : ∀ x, RT (up I 75 5 x) T n := fun x => RT_fr hR (by rw [up_at, vup_n (by decide)]) (up_ne (by decide))
      have htm : ∀ x P, tm (up I 75 5 x) T n P = tm I T n P := by
        intro x P
        funext a j
        unfold tm up
        by_cases a75 : a = 75
        · by_cases j5 : j = 5
          · simp [a75, j5]
          · simp [a75, j5]
        · simp [a75]
      by_cases cc : T p = 99 ∧ (p = 0 ∨ T (p - 1) = 10)
      · rw [if_pos cc]
        have g1 : p + 1 ≤ cmt T n (n + 1) p := by
          rw [cmt_step hlt (by rw [cc.1]; decide)]
          exact cmt_ge _ _
        have g2 : cmt T n (n + 1) p ≤ n := cmt_le _ _ hp
        rw [ih (cmt T n (n + 1) p) (m + 1) _ (by omega) g2 (by omega) (hR1 _) (up_self ..), htm]
        conv => rhs; rw [sk_eq, if_pos hlt, if_pos cc]
      · rw [if_neg cc, h99]
        have hk : sk T n p = if isBl (T p) = true then sk T n (p + 1) else p := by
          rw [sk_eq, if_pos hlt, if_neg cc]
        rw [hk]
        cases hB : isBl (T p) with
        | false =>
          rw [if_neg (by decide), if_neg (by decide)]
          exact fin p m I hp hR h5 (fun _ => hB)
        | true =>
          rw [if_pos rfl, if_pos rfl, ih (p + 1) (m + 1) _ (by omega) (by omega) (by omega) (hR1 _) (up_self ..), htm]
    · have : p = n := by omega
      subst this
      have es : sk T p p = p := by rw [sk_eq, if_neg (by omega)]
      rw [es]
      conv => lhs; unfold fX10_next_2
      rw [if_neg (by decide)]
      simp only [bnd_x, gd_0, gd_1, gd_o0, gd_o1, ite_self, rf_75_1, rf_75_3, rf_75_12, rf_75_13, rf_75_14, rf_75_15, rf_75_16, rf_75_17, rf_75_18, rf_75_22, rf_75_23, rf_75_24, rf_75_25, rf_75_31, rf_75_32, rf_75_41, rf_75_42, rf_75_43, rf_75_44, rf_75_45, rf_75_46, rf_75_47, rf_75_48, rf_75_53, rf_75_54, rf_75_55, rf_75_57, c_75, i_75, w_75, z0_75, z1_75, h5, hR.2.1, if_pos (nI_le (Nat.le_refl p) (show p < 2 ^ 31 by omega)), fX10_next_99]
      exact fin p m I hp hR h5 (fun q => by omega)
theorem next_m (hR : RT I T n) {p : Nat} (h5 : I 75 5 = nI p) (hp : p ≤ n) : fX10_next 75 (st I v J) = some (b2 (decide (sk T n p < n)), st (tm I T n (sk T n p)) v J) := by
  have hz := zfu_big
  have hn := hR.1
  unfold fX10_next
  exact nextM (n - p) p zfu I (by omega) hp (by omega) hR h5
end
