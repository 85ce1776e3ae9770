/-! Numbers and words of tokens. -/
section
def fd (T : Nat → Int32) (P : Nat) : Nat := if T P = 45 then P + 1 else P
def dg (T : Nat → Int32) (p d : Nat) : Bool := (List.range' p d).all (fun q => !(decide (T q < 48)) && decide (T q ≤ 57))
def okN (T : Nat → Int32) (P E : Nat) : Bool := decide (fd T P + 1 ≤ E ∧ E ≤ fd T P + 6) && dg T (fd T P) (E - fd T P)
def nv (T : Nat → Int32) : Nat → Nat → Int32 → Int32
  | 0, _, a => a
  | d + 1, p, a => nv T d (p + 1) (10 * a + T p - 48)
def vN (T : Nat → Int32) (P E : Nat) : Int32 := if fd T P = P then nv T (E - fd T P) (fd T P) 0 else -(nv T (E - fd T P) (fd T P) 0)
theorem dg_s {T : Nat → Int32} {p d : Nat} : dg T p (d + 1) = ((!(decide (T p < 48)) && decide (T p ≤ 57)) && dg T (p + 1) d) := by
  unfold dg
  have hr : List.range' p (d + 1) = p :: List.range' (p + 1) d := by simp [List.range'_succ]
  rw [hr, List.all_cons]
theorem neg_toInt {b : Nat} (h : b < 1000000) : (-nI b).toInt = -(b : Int) := by
  rw [Int32.toInt_neg, nI_toInt (by omega)]
  rw [Int.bmod_eq_of_le] <;> omega
theorem digit_i {x : Int32} (h : (!(decide (x < 48)) && decide (x ≤ 57)) = true) : ∃ t, t < 10 ∧ x = nI (48 + t) := by
  simp only [Bool.and_eq_true, Bool.not_eq_true', decide_eq_false_iff_not, decide_eq_true_eq] at h
  obtain ⟨h1, h2⟩ := h
  rw [Int32.lt_iff_toInt_lt] at h1
  rw [Int32.le_iff_toInt_le] at h2
  have e1 : (48 : Int32).toInt = 48 := rfl
  have e2 : (57 : Int32).toInt = 57 := rfl
  rw [e1] at h1; rw [e2] at h2
  refine ⟨(x.toInt - 48).toNat, by omega, ?_⟩
  apply Int32.toInt_inj.mp
  rw [nI_toInt (by omega)]
  omega
theorem nv_nat {T : Nat → Int32} : ∀ (d p a k : Nat), dg T p d = true → a < 10 ^ k → k + d ≤ 6 → ∃ b, nv T d p (nI a) = nI b ∧ b < 1000000 := by
  intro d
  induction d with
  | zero =>
    intro p a k hd ha hk
    refine ⟨a, rfl, Nat.lt_of_lt_of_le ha ?_⟩
    calc 10 ^ k ≤ 10 ^ 6 := Nat.pow_le_pow_right (by decide) (by omega)
      _ = 1000000 := by decide
  | succ d ih =>
    intro p a k hd ha hk
    rw [dg_s, Bool.and_eq_true] at hd
    obtain ⟨t, t1, t2⟩ := digit_i hd.1
    have e : (10 : Int32) * nI a + T p - 48 = nI (10 * a + t) := by
      rw [t2, show (10 : Int32) = nI 10 from rfl, show (48 : Int32) = nI 48 from rfl, show nI 10 * nI a = nI (10 * a) from (Int32.ofNat_mul 10 a).symm, nI_add, nI_sub (by omega)]
      congr 1; omega
    unfold nv
    rw [e]
    exact ih (p + 1) (10 * a + t) (k + 1) hd.2 (by rw [Nat.pow_succ]; omega) (by omega)
/-- a number of a token: b with a sign -/
theorem vN_b {T : Nat → Int32} {P E : Nat} (h : okN T P E = true) : ∃ b, b < 1000000 ∧ (vN T P E = nI b ∨ vN T P E = -nI b) := by
  unfold okN at h
  rw [Bool.and_eq_true, decide_eq_true_eq] at h
  obtain ⟨b, b1, b2⟩ := nv_nat (E - fd T P) (fd T P) 0 0 h.2 (by decide) (by omega)
  rw [nI_0] at b1
  refine ⟨b, b2, ?_⟩
  unfold vN
  split
  · exact Or.inl b1
  · exact Or.inr (by rw [b1])
/-- what the bounds say of it -/
theorem val_facts {x : Int32} {b : Nat} (hb : b < 1000000) (hx : x = nI b ∨ x = -nI b) : zab x = nI b ∧ (x = 0 ↔ b = 0) ∧ ∀ d : Nat, d ≤ 300 → ((nI b ≤ nI d ↔ b ≤ d) ∧ (x < -nI d ↔ (x = -nI b ∧ d < b)) ∧ (x ≤ nI d ↔ (b ≤ d ∨ x = -nI b))) ∧ (b ≤ d → d ≤ 150 → b ≠ 0 → isL x) := by
  have e0 : (0 : Int32).toInt = 0 := rfl
  have tb : (nI b).toInt = (b : Int) := nI_toInt (by omega)
  have tn := neg_toInt hb
  refine ⟨?_, ?_, ?_⟩
  · unfold zab
    rcases hx with rfl | rfl
    · rw [if_pos]
      rw [Int32.le_iff_toInt_le, e0, tb]; omega
    · by_cases c : b = 0
      · subst c; rfl
      · rw [if_neg]
        · rw [Int32.zero_sub, Int32.neg_neg]
        · rw [Int32.le_iff_toInt_le, e0, tn]; omega
  · rcases hx with rfl | rfl
    · constructor
      · intro q
        have := congrArg Int32.toInt q
        rw [tb, e0] at this; omega
      · rintro rfl; rfl
    · constructor
      · intro q
        have := congrArg Int32.toInt q
        rw [tn, e0] at this; omega
      · rintro rfl; rfl
  · intro d hd
    have td : (nI d).toInt = (d : Int) := nI_toInt (by omega)
    have tnd := neg_toInt (show d < 1000000 by omega)
    have hneg : nI b = -nI b → b = 0 := by
      intro q
      have := congrArg Int32.toInt q
      rw [tb, tn] at this; omega
    refine ⟨⟨?_, ?_, ?_⟩, ?_⟩
    · rw [Int32.le_iff_toInt_le, tb, td]; omega
    · rw [Int32.lt_iff_toInt_lt, tnd]
      rcases hx with rfl | rfl
      · rw [tb]
        constructor
        · intro q; omega
        · rintro ⟨q1, q2⟩; have := hneg q1; omega
      · rw [tn]
        exact ⟨fun q => ⟨rfl, by omega⟩, fun q => by omega⟩
    · rw [Int32.le_iff_toInt_le, td]
      rcases hx with rfl | rfl
      · rw [tb]
        constructor
        · intro q; exact Or.inl (by omega)
        · rintro (q | q)
          · omega
          · have := hneg q; omega
      · rw [tn]
        exact ⟨fun _ => Or.inr rfl, fun _ => by omega⟩
    · intro b1 d1 b0
      have c1 : (-150 : Int32).toInt = -150 := rfl
      have c2 : (150 : Int32).toInt = 150 := rfl
      refine ⟨?_, ?_, ?_⟩
      · intro q
        have := congrArg Int32.toInt q
        rcases hx with rfl | rfl
        · rw [tb, e0] at this; omega
        · rw [tn, e0] at this; omega
      · rw [Int32.le_iff_toInt_le, c1]
        rcases hx with rfl | rfl
        · rw [tb]; omega
        · rw [tn]; omega
      · rw [Int32.le_iff_toInt_le, c2]
        rcases hx with rfl | rfl
        · rw [tb]; omega
        · rw [tn]; omega
variable {v : zV} {J : Nat → Nat → Int64} {T : Nat → Int32} {n : Nat}
theorem fd_i (T : Nat → Int32) (P : Nat) : P ≤ fd T P ∧ fd T P ≤ P + 1 := by
  unfold fd; split <;> omega
/-! the class's -/
section
variable {I : Nat → Nat → Int32} {b P E : Nat}
theorem first_c (hv : v.2.2.2.2.2.1 = b) (hb : isB b = true) (hT : BT I b T n) (h2 : I 28 2 = nI P) (hP : P < n) : fX8_firstDigit 28 (st I v J) = some (nI (fd T P), st I v J) := by
  have hb0 : v.2.2.2.2.2.1 ≠ 0 := by rw [hv]; exact (B_0 hb).2.2.2
  unfold fX8_firstDigit
  simp only [bnd_x, gd_0, gd_1, gd_o0, gd_o1, ite_self, rf_1_0, rf_1_1, rf_1_5, rf_1_6, rf_1_7, rf_2_0, rf_4_0, rf_6_0, rf_6_1, rf_6_2, rf_7_0, rf_9_0, rf_11_0, rf_13_0, rf_13_1, rf_13_2, rf_14_0, rf_16_0, rf_18_0, rf_20_0, rf_20_1, rf_20_2, rf_21_0, rf_23_0, rf_25_0, rf_27_0, rf_29_0, rf_29_1, rf_29_2, rf_29_3, rf_29_4, rf_29_5, rf_30_0, rf_32_0, rf_34_0, rf_36_0, rf_38_0, rf_40_0, rf_42_0, rf_42_1, rf_42_2, rf_42_3, rf_43_0, rf_43_1, rf_43_2, rf_44_0, rf_46_0, rf_48_0, rf_50_0, rf_52_0, rf_52_1, rf_52_2, rf_52_3, rf_52_4, rf_52_5, rf_52_6, rf_52_7, rf_52_8, rf_52_9, rf_52_10, rf_52_11, rf_53_0, rf_55_0, rf_57_0, rf_59_0, rf_61_0, rf_63_0, rf_65_0, rf_67_0, rf_69_0, rf_71_0, rf_73_0, a_7, p_7, f_7, c_7, a_9, p_9, f_9, c_9, a_11, p_11, f_11, c_11, a_14, p_14, f_14, c_14, a_16, p_16, f_16, c_16, a_18, p_18, f_18, c_18, a_21, p_21, f_21, c_21, a_23, p_23, f_23, c_23, a_25, p_25, f_25, c_25, a_30, p_30, f_30, c_30, a_32, p_32, f_32, c_32, a_34, p_34, f_34, c_34, a_36, p_36, f_36, c_36, a_38, p_38, f_38, c_38, a_40, p_40, f_40, c_40, a_44, p_44, f_44, c_44, a_46, p_46, f_46, c_46, a_48, p_48, f_48, c_48, a_50, p_50, f_50, c_50, a_53, p_53, f_53, c_53, a_55, p_55, f_55, c_55, a_57, p_57, f_57, c_57, a_59, p_59, f_59, c_59, a_61, p_61, f_61, c_61, a_63, p_63, f_63, c_63, a_65, p_65, f_65, c_65, a_67, p_67, f_67, c_67, a_69, p_69, f_69, c_69, a_71, p_71, f_71, c_71, a_73, p_73, f_73, c_73, c_1, i_1, w_1, z0_1, z1_1, c_2, i_2, w_2, z0_2, z1_2, c_4, i_4, w_4, z0_4, z1_4, c_6, i_6, w_6, z0_6, z1_6, c_13, i_13, w_13, z0_13, z1_13, c_20, i_20, w_20, z0_20, z1_20, c_27, i_27, w_27, z0_27, z1_27, c_28, i_28, w_28, z0_28, z1_28, c_29, i_29, w_29, z0_29, z1_29, c_42, i_42, w_42, z0_42, z1_42, c_43, i_43, w_43, z0_43, z1_43, c_52, i_52, w_52, z0_52, z1_52, X1_size, X1_literal, X1_numberOfStep, X1_ofFormula, X1_inAll, X1_user, X9_codeOf, X1_firstUse, X1_endOfUses, X2_open, X2_at, X2_add, X2_drop, X2_clear, X4_fuelLeft, X4_isActive, X4_isMarked, X4_mark, X4_usedCount, X4_usedAt, X4_setActive, X4_forget, X4_truthOf, rv_28_0 hb0, hv, cl_st (B_0 hb).1, at_all hb, h2, atv_ok hT hP, nI_1]
  unfold fd
  split <;> rfl
theorem isNum_loop (hv : v.2.2.2.2.2.1 = b) (hb : isB b = true) (hT : BT I b T n) (h3 : I 28 3 = nI E) (hE : E ≤ n) : ∀ (d p m : Nat), p + d = E → d < m → fX8_isNumber_27 m 28 (nI p) (st I v J) = some (b2 (dg T p d), st I v J) := by
  have hb0 : v.2.2.2.2.2.1 ≠ 0 := by rw [hv]; exact (B_0 hb).2.2.2
  have hn : n ≤ 6000 := by obtain ⟨w, w1, w2, w3, w4, w5⟩ := hT; exact w4
  intro d
  induction d with
  | zero =>
    intro p m hp hm
    obtain ⟨m, rfl⟩ : ∃ q, m = q + 1 := ⟨m - 1, by omega⟩
    conv => lhs; unfold fX8_isNumber_27
    simp only [bnd_x, gd_0, gd_1, gd_o0, gd_o1, ite_self, rf_1_0, rf_1_1, rf_1_5, rf_1_6, rf_1_7, rf_2_0, rf_4_0, rf_6_0, rf_6_1, rf_6_2, rf_7_0, rf_9_0, rf_11_0, rf_13_0, rf_13_1, rf_13_2, rf_14_0, rf_16_0, rf_18_0, rf_20_0, rf_20_1, rf_20_2, rf_21_0, rf_23_0, rf_25_0, rf_27_0, rf_29_0, rf_29_1, rf_29_2, rf_29_3, rf_29_4, rf_29_5, rf_30_0, rf_32_0, rf_34_0, rf_36_0, rf_38_0, rf_40_0, rf_42_0, rf_42_1, rf_42_2, rf_42_3, rf_43_0, rf_43_1, rf_43_2, rf_44_0, rf_46_0, rf_48_0, rf_50_0, rf_52_0, rf_52_1, rf_52_2, rf_52_3, rf_52_4, rf_52_5, rf_52_6, rf_52_7, rf_52_8, rf_52_9, rf_52_10, rf_52_11, rf_53_0, rf_55_0, rf_57_0, rf_59_0, rf_61_0, rf_63_0, rf_65_0, rf_67_0, rf_69_0, rf_71_0, rf_73_0, a_7, p_7, f_7, c_7, a_9, p_9, f_9, c_9, a_11, p_11, f_11, c_11, a_14, p_14, f_14, c_14, a_16, p_16, f_16, c_16, a_18, p_18, f_18, c_18, a_21, p_21, f_21, c_21, a_23, p_23, f_23, c_23, a_25, p_25, f_25, c_25, a_30, p_30, f_30, c_30, a_32, p_32, f_32, c_32, a_34, p_34, f_34, c_34, a_36, p_36, f_36, c_36, a_38, p_38, f_38, c_38, a_40, p_40, f_40, c_40, a_44, p_44, f_44, c_44, a_46, p_46, f_46, c_46, a_48, p_48, f_48, c_48, a_50, p_50, f_50, c_50, a_53, p_53, f_53, c_53, a_55, p_55, f_55, c_55, a_57, p_57, f_57, c_57, a_59, p_59, f_59, c_59, a_61, p_61, f_61, c_61, a_63, p_63, f_63, c_63, a_65, p_65, f_65, c_65, a_67, p_67, f_67, c_67, a_69, p_69, f_69, c_69, a_71, p_71, f_71, c_71, a_73, p_73, f_73, c_73, c_1, i_1, w_1, z0_1, z1_1, c_2, i_2, w_2, z0_2, z1_2, c_4, i_4, w_4, z0_4, z1_4, c_6, i_6, w_6, z0_6, z1_6, c_13, i_13, w_13, z0_13, z1_13, c_20, i_20, w_20, z0_20, z1_20, c_27, i_27, w_27, z0_27, z1_27, c_28, i_28, w_28, z0_28, z1_28, c_29, i_29, w_29, z0_29, z1_29, c_42, i_42, w_42, z0_42, z1_42, c_43, i_43, w_43, z0_43, z1_43, c_52, i_52, w_52, z0_52, z1_52, X1_size, X1_literal, X1_numberOfStep, X1_ofFormula, X1_inAll, X1_user, X9_codeOf, X1_firstUse, X1_endOfUses, X2_open, X2_at, X2_add, X2_drop, X2_clear, X4_fuelLeft, X4_isActive, X4_isMarked, X4_mark, X4_usedCount, X4_usedAt, X4_setActive, X4_forget, X4_truthOf, h3, if_pos (nI_le (show E ≤ p by omega) (show p < 2 ^ 31 by omega))]
    rfl
  | succ d ih =>
    intro p m hp hm
    obtain ⟨m, rfl⟩ : ∃ q, m = q + 1 := ⟨m - 1, by omega⟩
    conv => lhs; unfold fX8_isNumber_27
    simp only [bnd_x, gd_0, gd_1, gd_o0, gd_o1, ite_self, rf_1_0, rf_1_1, rf_1_5, rf_1_6, rf_1_7, rf_2_0, rf_4_0, rf_6_0, rf_6_1, rf_6_2, rf_7_0, rf_9_0, rf_11_0, rf_13_0, rf_13_1, rf_13_2, rf_14_0, rf_16_0, rf_18_0, rf_20_0, rf_20_1, rf_20_2, rf_21_0, rf_23_0, rf_25_0, rf_27_0, rf_29_0, rf_29_1, rf_29_2, rf_29_3, rf_29_4, rf_29_5, rf_30_0, rf_32_0, rf_34_0, rf_36_0, rf_38_0, rf_40_0, rf_42_0, rf_42_1, rf_42_2, rf_42_3, rf_43_0, rf_43_1, rf_43_2, rf_44_0, rf_46_0, rf_48_0, rf_50_0, rf_52_0, rf_52_1, rf_52_2, rf_52_3, rf_52_4, rf_52_5, rf_52_6, rf_52_7, rf_52_8, rf_52_9, rf_52_10, rf_52_11, rf_53_0, rf_55_0, rf_57_0, rf_59_0, rf_61_0, rf_63_0, rf_65_0, rf_67_0, rf_69_0, rf_71_0, rf_73_0, a_7, p_7, f_7, c_7, a_9, p_9, f_9, c_9, a_11, p_11, f_11, c_11, a_14, p_14, f_14, c_14, a_16, p_16, f_16, c_16, a_18, p_18, f_18, c_18, a_21, p_21, f_21, c_21, a_23, p_23, f_23, c_23, a_25, p_25, f_25, c_25, a_30, p_30, f_30, c_30, a_32, p_32, f_32, c_32, a_34, p_34, f_34, c_34, a_36, p_36, f_36, c_36, a_38, p_38, f_38, c_38, a_40, p_40, f_40, c_40, a_44, p_44, f_44, c_44, a_46, p_46, f_46, c_46, a_48, p_48, f_48, c_48, a_50, p_50, f_50, c_50, a_53, p_53, f_53, c_53, a_55, p_55, f_55, c_55, a_57, p_57, f_57, c_57, a_59, p_59, f_59, c_59, a_61, p_61, f_61, c_61, a_63, p_63, f_63, c_63, a_65, p_65, f_65, c_65, a_67, p_67, f_67, c_67, a_69, p_69, f_69, c_69, a_71, p_71, f_71, c_71, a_73, p_73, f_73, c_73, c_1, i_1, w_1, z0_1, z1_1, c_2, i_2, w_2, z0_2, z1_2, c_4, i_4, w_4, z0_4, z1_4, c_6, i_6, w_6, z0_6, z1_6, c_13, i_13, w_13, z0_13, z1_13, c_20, i_20, w_20, z0_20, z1_20, c_27, i_27, w_27, z0_27, z1_27, c_28, i_28, w_28, z0_28, z1_28, c_29, i_29, w_29, z0_29, z1_29, c_42, i_42, w_42, z0_42, z1_42, c_43, i_43, w_43, z0_43, z1_43, c_52, i_52, w_52, z0_52, z1_52, X1_size, X1_literal, X1_numberOfStep, X1_ofFormula, X1_inAll, X1_user, X9_codeOf, X1_firstUse, X1_endOfUses, X2_open, X2_at, X2_add, X2_drop, X2_clear, X4_fuelLeft, X4_isActive, X4_isMarked, X4_mark, X4_usedCount, X4_usedAt, X4_setActive, X4_forget, X4_truthOf, h3, if_neg (nI_ge (show p < E by omega) (show E < 2 ^ 31 by omega)), rv_28_0 hb0, hv, cl_st (B_0 hb).1, at_all hb, atv_ok hT (show p < n by omega), nI_1]
    rw [ih (p + 1) m (by omega) (by omega), dg_s]
    by_cases c1 : T p < 48
    · rw [if_pos c1, decide_eq_true c1]; rfl
    · rw [if_neg c1, decide_eq_false c1]
      by_cases c2 : T p ≤ 57
      · rw [if_pos c2, decide_eq_true c2]; rfl
      · rw [if_neg c2, decide_eq_false c2]; rfl
theorem isNum_c (hv : v.2.2.2.2.2.1 = b) (hb : isB b = true) (hT : BT I b T n) (h2 : I 28 2 = nI P) (h3 : I 28 3 = nI E) (hPE : P < E) (hE : E ≤ n) : fX8_isNumber 28 (st I v J) = some (b2 (okN T P E), st I v J) := by
  have hn : n ≤ 6000 := by obtain ⟨w, w1, w2, w3, w4, w5⟩ := hT; exact w4
  have hz := zfu_big
  obtain ⟨f1, f2⟩ := fd_i T P
  have q := isNum_loop (v := v) (J := J) hv hb hT h3 hE (E - fd T P) (fd T P) zfu (by omega) (by omega)
  unfold fX8_isNumber
  simp only [first_c hv hb hT h2 (show P < n by omega), bnd_x, gd_0, gd_1, gd_o0, gd_o1, ite_self, rf_1_0, rf_1_1, rf_1_5, rf_1_6, rf_1_7, rf_2_0, rf_4_0, rf_6_0, rf_6_1, rf_6_2, rf_7_0, rf_9_0, rf_11_0, rf_13_0, rf_13_1, rf_13_2, rf_14_0, rf_16_0, rf_18_0, rf_20_0, rf_20_1, rf_20_2, rf_21_0, rf_23_0, rf_25_0, rf_27_0, rf_29_0, rf_29_1, rf_29_2, rf_29_3, rf_29_4, rf_29_5, rf_30_0, rf_32_0, rf_34_0, rf_36_0, rf_38_0, rf_40_0, rf_42_0, rf_42_1, rf_42_2, rf_42_3, rf_43_0, rf_43_1, rf_43_2, rf_44_0, rf_46_0, rf_48_0, rf_50_0, rf_52_0, rf_52_1, rf_52_2, rf_52_3, rf_52_4, rf_52_5, rf_52_6, rf_52_7, rf_52_8, rf_52_9, rf_52_10, rf_52_11, rf_53_0, rf_55_0, rf_57_0, rf_59_0, rf_61_0, rf_63_0, rf_65_0, rf_67_0, rf_69_0, rf_71_0, rf_73_0, a_7, p_7, f_7, c_7, a_9, p_9, f_9, c_9, a_11, p_11, f_11, c_11, a_14, p_14, f_14, c_14, a_16, p_16, f_16, c_16, a_18, p_18, f_18, c_18, a_21, p_21, f_21, c_21, a_23, p_23, f_23, c_23, a_25, p_25, f_25, c_25, a_30, p_30, f_30, c_30, a_32, p_32, f_32, c_32, a_34, p_34, f_34, c_34, a_36, p_36, f_36, c_36, a_38, p_38, f_38, c_38, a_40, p_40, f_40, c_40, a_44, p_44, f_44, c_44, a_46, p_46, f_46, c_46, a_48, p_48, f_48, c_48, a_50, p_50, f_50, c_50, a_53, p_53, f_53, c_53, a_55, p_55, f_55, c_55, a_57, p_57, f_57, c_57, a_59, p_59, f_59, c_59, a_61, p_61, f_61, c_61, a_63, p_63, f_63, c_63, a_65, p_65, f_65, c_65, a_67, p_67, f_67, c_67, a_69, p_69, f_69, c_69, a_71, p_71, f_71, c_71, a_73, p_73, f_73, c_73, c_1, i_1, w_1, z0_1, z1_1, c_2, i_2, w_2, z0_2, z1_2, c_4, i_4, w_4, z0_4, z1_4, c_6, i_6, w_6, z0_6, z1_6, c_13, i_13, w_13, z0_13, z1_13, c_20, i_20, w_20, z0_20, z1_20, c_27, i_27, w_27, z0_27, z1_27, c_28, i_28, w_28, z0_28, z1_28, c_29, i_29, w_29, z0_29, z1_29, c_42, i_42, w_42, z0_42, z1_42, c_43, i_43, w_43, z0_43, z1_43, c_52, i_52, w_52, z0_52, z1_52, X1_size, X1_literal, X1_numberOfStep, X1_ofFormula, X1_inAll, X1_user, X9_codeOf, X1_firstUse, X1_endOfUses, X2_open, X2_at, X2_add, X2_drop, X2_clear, X4_fuelLeft, X4_isActive, X4_isMarked, X4_mark, X4_usedCount, X4_usedAt, X4_setActive, X4_forget, X4_truthOf, h3, nI_sub (show fd T P ≤ E by omega)]
  unfold okN
  by_cases c1 : fd T P + 1 ≤ E
  · have a1 : ¬ nI (E - fd T P) < 1 := nI_nlt (b := 1) (a := E - fd T P) (by omega) (by omega)
    rw [if_neg a1]
    by_cases c2 : E ≤ fd T P + 6
    · have a2 : nI (E - fd T P) ≤ 6 := nI_le (b := 6) (by omega) (by decide)
      rw [if_pos a2, q, decide_eq_true ⟨c1, c2⟩, Bool.true_and]
    · have a2 : ¬ nI (E - fd T P) ≤ 6 := nI_ge (a := 6) (by omega) (by omega)
      rw [if_neg a2, decide_eq_false (fun q => c2 q.2)]; rfl
  · have a1 : nI (E - fd T P) < 1 := nI_lt (b := 1) (by omega) (by decide)
    rw [if_pos a1, decide_eq_false (fun q => c1 q.1)]; rfl
theorem isNum_0 (hv : v.2.2.2.2.2.1 = b) (hb : isB b = true) (hn : n ≤ 6000) (h2 : I 28 2 = nI n) (h3 : I 28 3 = nI n) : fX8_isNumber 28 (st I v J) = some (0, st I v J) := by
  have hb0 : v.2.2.2.2.2.1 ≠ 0 := by rw [hv]; exact (B_0 hb).2.2.2
  unfold fX8_isNumber fX8_firstDigit
  simp only [bnd_x, gd_0, gd_1, gd_o0, gd_o1, ite_self, rf_1_0, rf_1_1, rf_1_5, rf_1_6, rf_1_7, rf_2_0, rf_4_0, rf_6_0, rf_6_1, rf_6_2, rf_7_0, rf_9_0, rf_11_0, rf_13_0, rf_13_1, rf_13_2, rf_14_0, rf_16_0, rf_18_0, rf_20_0, rf_20_1, rf_20_2, rf_21_0, rf_23_0, rf_25_0, rf_27_0, rf_29_0, rf_29_1, rf_29_2, rf_29_3, rf_29_4, rf_29_5, rf_30_0, rf_32_0, rf_34_0, rf_36_0, rf_38_0, rf_40_0, rf_42_0, rf_42_1, rf_42_2, rf_42_3, rf_43_0, rf_43_1, rf_43_2, rf_44_0, rf_46_0, rf_48_0, rf_50_0, rf_52_0, rf_52_1, rf_52_2, rf_52_3, rf_52_4, rf_52_5, rf_52_6, rf_52_7, rf_52_8, rf_52_9, rf_52_10, rf_52_11, rf_53_0, rf_55_0, rf_57_0, rf_59_0, rf_61_0, rf_63_0, rf_65_0, rf_67_0, rf_69_0, rf_71_0, rf_73_0, a_7, p_7, f_7, c_7, a_9, p_9, f_9, c_9, a_11, p_11, f_11, c_11, a_14, p_14, f_14, c_14, a_16, p_16, f_16, c_16, a_18, p_18, f_18, c_18, a_21, p_21, f_21, c_21, a_23, p_23, f_23, c_23, a_25, p_25, f_25, c_25, a_30, p_30, f_30, c_30, a_32, p_32, f_32, c_32, a_34, p_34, f_34, c_34, a_36, p_36, f_36, c_36, a_38, p_38, f_38, c_38, a_40, p_40, f_40, c_40, a_44, p_44, f_44, c_44, a_46, p_46, f_46, c_46, a_48, p_48, f_48, c_48, a_50, p_50, f_50, c_50, a_53, p_53, f_53, c_53, a_55, p_55, f_55, c_55, a_57, p_57, f_57, c_57, a_59, p_59, f_59, c_59, a_61, p_61, f_61, c_61, a_63, p_63, f_63, c_63, a_65, p_65, f_65, c_65, a_67, p_67, f_67, c_67, a_69, p_69, f_69, c_69, a_71, p_71, f_71, c_71, a_73, p_73, f_73, c_73, c_1, i_1, w_1, z0_1, z1_1, c_2, i_2, w_2, z0_2, z1_2, c_4, i_4, w_4, z0_4, z1_4, c_6, i_6, w_6, z0_6, z1_6, c_13, i_13, w_13, z0_13, z1_13, c_20, i_20, w_20, z0_20, z1_20, c_27, i_27, w_27, z0_27, z1_27, c_28, i_28, w_28, z0_28, z1_28, c_29, i_29, w_29, z0_29, z1_29, c_42, i_42, w_42, z0_42, z1_42, c_43, i_43, w_43, z0_43, z1_43, c_52, i_52, w_52, z0_52, z1_52, X1_size, X1_literal, X1_numberOfStep, X1_ofFormula, X1_inAll, X1_user, X9_codeOf, X1_firstUse, X1_endOfUses, X2_open, X2_at, X2_add, X2_drop, X2_clear, X4_fuelLeft, X4_isActive, X4_isMarked, X4_mark, X4_usedCount, X4_usedAt, X4_setActive, X4_forget, X4_truthOf, rv_28_0 hb0, hv, cl_st (B_0 hb).1, at_all hb, h2]
  have a1 : nI n - nI n < 1 := by rw [Int32.sub_self]; decide
  have a2 : nI n - (nI n + 1) < 1 := by
    rw [show nI n - (nI n + 1) = -1 from by rw [← Int32.sub_sub, Int32.sub_self]; rfl]; decide
  split
  · simp only [bnd_x, gd_0, gd_1, gd_o0, gd_o1, ite_self, rf_1_0, rf_1_1, rf_1_5, rf_1_6, rf_1_7, rf_2_0, rf_4_0, rf_6_0, rf_6_1, rf_6_2, rf_7_0, rf_9_0, rf_11_0, rf_13_0, rf_13_1, rf_13_2, rf_14_0, rf_16_0, rf_18_0, rf_20_0, rf_20_1, rf_20_2, rf_21_0, rf_23_0, rf_25_0, rf_27_0, rf_29_0, rf_29_1, rf_29_2, rf_29_3, rf_29_4, rf_29_5, rf_30_0, rf_32_0, rf_34_0, rf_36_0, rf_38_0, rf_40_0, rf_42_0, rf_42_1, rf_42_2, rf_42_3, rf_43_0, rf_43_1, rf_43_2, rf_44_0, rf_46_0, rf_48_0, rf_50_0, rf_52_0, rf_52_1, rf_52_2, rf_52_3, rf_52_4, rf_52_5, rf_52_6, rf_52_7, rf_52_8, rf_52_9, rf_52_10, rf_52_11, rf_53_0, rf_55_0, rf_57_0, rf_59_0, rf_61_0, rf_63_0, rf_65_0, rf_67_0, rf_69_0, rf_71_0, rf_73_0, a_7, p_7, f_7, c_7, a_9, p_9, f_9, c_9, a_11, p_11, f_11, c_11, a_14, p_14, f_14, c_14, a_16, p_16, f_16, c_16, a_18, p_18, f_18, c_18, a_21, p_21, f_21, c_21, a_23, p_23, f_23, c_23, a_25, p_25, f_25, c_25, a_30, p_30, f_30, c_30, a_32, p_32, f_32, c_32, a_34, p_34, f_34, c_34, a_36, p_36, f_36, c_36, a_38, p_38, f_38, c_38, a_40, p_40, f_40, c_40, a_44, p_44, f_44, c_44, a_46, p_46, f_46, c_46, a_48, p_48, f_48, c_48, a_50, p_50, f_50, c_50, a_53, p_53, f_53, c_53, a_55, p_55, f_55, c_55, a_57, p_57, f_57, c_57, a_59, p_59, f_59, c_59, a_61, p_61, f_61, c_61, a_63, p_63, f_63, c_63, a_65, p_65, f_65, c_65, a_67, p_67, f_67, c_67, a_69, p_69, f_69, c_69, a_71, p_71, f_71, c_71, a_73, p_73, f_73, c_73, c_1, i_1, w_1, z0_1, z1_1, c_2, i_2, w_2, z0_2, z1_2, c_4, i_4, w_4, z0_4, z1_4, c_6, i_6, w_6, z0_6, z1_6, c_13, i_13, w_13, z0_13, z1_13, c_20, i_20, w_20, z0_20, z1_20, c_27, i_27, w_27, z0_27, z1_27, c_28, i_28, w_28, z0_28, z1_28, c_29, i_29, w_29, z0_29, z1_29, c_42, i_42, w_42, z0_42, z1_42, c_43, i_43, w_43, z0_43, z1_43, c_52, i_52, w_52, z0_52, z1_52, X1_size, X1_literal, X1_numberOfStep, X1_ofFormula, X1_inAll, X1_user, X9_codeOf, X1_firstUse, X1_endOfUses, X2_open, X2_at, X2_add, X2_drop, X2_clear, X4_fuelLeft, X4_isActive, X4_isMarked, X4_mark, X4_usedCount, X4_usedAt, X4_setActive, X4_forget, X4_truthOf, h3, if_pos a2]
  · simp only [bnd_x, gd_0, gd_1, gd_o0, gd_o1, ite_self, rf_1_0, rf_1_1, rf_1_5, rf_1_6, rf_1_7, rf_2_0, rf_4_0, rf_6_0, rf_6_1, rf_6_2, rf_7_0, rf_9_0, rf_11_0, rf_13_0, rf_13_1, rf_13_2, rf_14_0, rf_16_0, rf_18_0, rf_20_0, rf_20_1, rf_20_2, rf_21_0, rf_23_0, rf_25_0, rf_27_0, rf_29_0, rf_29_1, rf_29_2, rf_29_3, rf_29_4, rf_29_5, rf_30_0, rf_32_0, rf_34_0, rf_36_0, rf_38_0, rf_40_0, rf_42_0, rf_42_1, rf_42_2, rf_42_3, rf_43_0, rf_43_1, rf_43_2, rf_44_0, rf_46_0, rf_48_0, rf_50_0, rf_52_0, rf_52_1, rf_52_2, rf_52_3, rf_52_4, rf_52_5, rf_52_6, rf_52_7, rf_52_8, rf_52_9, rf_52_10, rf_52_11, rf_53_0, rf_55_0, rf_57_0, rf_59_0, rf_61_0, rf_63_0, rf_65_0, rf_67_0, rf_69_0, rf_71_0, rf_73_0, a_7, p_7, f_7, c_7, a_9, p_9, f_9, c_9, a_11, p_11, f_11, c_11, a_14, p_14, f_14, c_14, a_16, p_16, f_16, c_16, a_18, p_18, f_18, c_18, a_21, p_21, f_21, c_21, a_23, p_23, f_23, c_23, a_25, p_25, f_25, c_25, a_30, p_30, f_30, c_30, a_32, p_32, f_32, c_32, a_34, p_34, f_34, c_34, a_36, p_36, f_36, c_36, a_38, p_38, f_38, c_38, a_40, p_40, f_40, c_40, a_44, p_44, f_44, c_44, a_46, p_46, f_46, c_46, a_48, p_48, f_48, c_48, a_50, p_50, f_50, c_50, a_53, p_53, f_53, c_53, a_55, p_55, f_55, c_55, a_57, p_57, f_57, c_57, a_59, p_59, f_59, c_59, a_61, p_61, f_61, c_61, a_63, p_63, f_63, c_63, a_65, p_65, f_65, c_65, a_67, p_67, f_67, c_67, a_69, p_69, f_69, c_69, a_71, p_71, f_71, c_71, a_73, p_73, f_73, c_73, c_1, i_1, w_1, z0_1, z1_1, c_2, i_2, w_2, z0_2, z1_2, c_4, i_4, w_4, z0_4, z1_4, c_6, i_6, w_6, z0_6, z1_6, c_13, i_13, w_13, z0_13, z1_13, c_20, i_20, w_20, z0_20, z1_20, c_27, i_27, w_27, z0_27, z1_27, c_28, i_28, w_28, z0_28, z1_28, c_29, i_29, w_29, z0_29, z1_29, c_42, i_42, w_42, z0_42, z1_42, c_43, i_43, w_43, z0_43, z1_43, c_52, i_52, w_52, z0_52, z1_52, X1_size, X1_literal, X1_numberOfStep, X1_ofFormula, X1_inAll, X1_user, X9_codeOf, X1_firstUse, X1_endOfUses, X2_open, X2_at, X2_add, X2_drop, X2_clear, X4_fuelLeft, X4_isActive, X4_isMarked, X4_mark, X4_usedCount, X4_usedAt, X4_setActive, X4_forget, X4_truthOf, h3, if_pos a1]
theorem num_loop (hv : v.2.2.2.2.2.1 = b) (hb : isB b = true) (hT : BT I b T n) (h2 : I 28 2 = nI P) (h3 : I 28 3 = nI E) (hE : E ≤ n) (l1 : Int32) : ∀ (d p m : Nat) (a : Int32), p + d = E → d < m → fX8_number_9 m 28 l1 a (nI p) (st I v J) = some (if l1 ≤ nI P then nv T d p a else -(nv T d p a), st I v J) := by
  have hb0 : v.2.2.2.2.2.1 ≠ 0 := by rw [hv]; exact (B_0 hb).2.2.2
  have hn : n ≤ 6000 := by obtain ⟨w, w1, w2, w3, w4, w5⟩ := hT; exact w4
  intro d
  induction d with
  | zero =>
    intro p m a hp hm
    obtain ⟨m, rfl⟩ : ∃ q, m = q + 1 := ⟨m - 1, by omega⟩
    conv => lhs; unfold fX8_number_9
    simp only [bnd_x, gd_0, gd_1, gd_o0, gd_o1, ite_self, rf_1_0, rf_1_1, rf_1_5, rf_1_6, rf_1_7, rf_2_0, rf_4_0, rf_6_0, rf_6_1, rf_6_2, rf_7_0, rf_9_0, rf_11_0, rf_13_0, rf_13_1, rf_13_2, rf_14_0, rf_16_0, rf_18_0, rf_20_0, rf_20_1, rf_20_2, rf_21_0, rf_23_0, rf_25_0, rf_27_0, rf_29_0, rf_29_1, rf_29_2, rf_29_3, rf_29_4, rf_29_5, rf_30_0, rf_32_0, rf_34_0, rf_36_0, rf_38_0, rf_40_0, rf_42_0, rf_42_1, rf_42_2, rf_42_3, rf_43_0, rf_43_1, rf_43_2, rf_44_0, rf_46_0, rf_48_0, rf_50_0, rf_52_0, rf_52_1, rf_52_2, rf_52_3, rf_52_4, rf_52_5, rf_52_6, rf_52_7, rf_52_8, rf_52_9, rf_52_10, rf_52_11, rf_53_0, rf_55_0, rf_57_0, rf_59_0, rf_61_0, rf_63_0, rf_65_0, rf_67_0, rf_69_0, rf_71_0, rf_73_0, a_7, p_7, f_7, c_7, a_9, p_9, f_9, c_9, a_11, p_11, f_11, c_11, a_14, p_14, f_14, c_14, a_16, p_16, f_16, c_16, a_18, p_18, f_18, c_18, a_21, p_21, f_21, c_21, a_23, p_23, f_23, c_23, a_25, p_25, f_25, c_25, a_30, p_30, f_30, c_30, a_32, p_32, f_32, c_32, a_34, p_34, f_34, c_34, a_36, p_36, f_36, c_36, a_38, p_38, f_38, c_38, a_40, p_40, f_40, c_40, a_44, p_44, f_44, c_44, a_46, p_46, f_46, c_46, a_48, p_48, f_48, c_48, a_50, p_50, f_50, c_50, a_53, p_53, f_53, c_53, a_55, p_55, f_55, c_55, a_57, p_57, f_57, c_57, a_59, p_59, f_59, c_59, a_61, p_61, f_61, c_61, a_63, p_63, f_63, c_63, a_65, p_65, f_65, c_65, a_67, p_67, f_67, c_67, a_69, p_69, f_69, c_69, a_71, p_71, f_71, c_71, a_73, p_73, f_73, c_73, c_1, i_1, w_1, z0_1, z1_1, c_2, i_2, w_2, z0_2, z1_2, c_4, i_4, w_4, z0_4, z1_4, c_6, i_6, w_6, z0_6, z1_6, c_13, i_13, w_13, z0_13, z1_13, c_20, i_20, w_20, z0_20, z1_20, c_27, i_27, w_27, z0_27, z1_27, c_28, i_28, w_28, z0_28, z1_28, c_29, i_29, w_29, z0_29, z1_29, c_42, i_42, w_42, z0_42, z1_42, c_43, i_43, w_43, z0_43, z1_43, c_52, i_52, w_52, z0_52, z1_52, X1_size, X1_literal, X1_numberOfStep, X1_ofFormula, X1_inAll, X1_user, X9_codeOf, X1_firstUse, X1_endOfUses, X2_open, X2_at, X2_add, X2_drop, X2_clear, X4_fuelLeft, X4_isActive, X4_isMarked, X4_mark, X4_usedCount, X4_usedAt, X4_setActive, X4_forget, X4_truthOf, h2, h3, if_pos (nI_le (show E ≤ p by omega) (show p < 2 ^ 31 by omega))]
    split <;> rfl
  | succ d ih =>
    intro p m a hp hm
    obtain ⟨m, rfl⟩ : ∃ q, m = q + 1 := ⟨m - 1, by omega⟩
    conv => lhs; unfold fX8_number_9
    simp only [bnd_x, gd_0, gd_1, gd_o0, gd_o1, ite_self, rf_1_0, rf_1_1, rf_1_5, rf_1_6, rf_1_7, rf_2_0, rf_4_0, rf_6_0, rf_6_1, rf_6_2, rf_7_0, rf_9_0, rf_11_0, rf_13_0, rf_13_1, rf_13_2, rf_14_0, rf_16_0, rf_18_0, rf_20_0, rf_20_1, rf_20_2, rf_21_0, rf_23_0, rf_25_0, rf_27_0, rf_29_0, rf_29_1, rf_29_2, rf_29_3, rf_29_4, rf_29_5, rf_30_0, rf_32_0, rf_34_0, rf_36_0, rf_38_0, rf_40_0, rf_42_0, rf_42_1, rf_42_2, rf_42_3, rf_43_0, rf_43_1, rf_43_2, rf_44_0, rf_46_0, rf_48_0, rf_50_0, rf_52_0, rf_52_1, rf_52_2, rf_52_3, rf_52_4, rf_52_5, rf_52_6, rf_52_7, rf_52_8, rf_52_9, rf_52_10, rf_52_11, rf_53_0, rf_55_0, rf_57_0, rf_59_0, rf_61_0, rf_63_0, rf_65_0, rf_67_0, rf_69_0, rf_71_0, rf_73_0, a_7, p_7, f_7, c_7, a_9, p_9, f_9, c_9, a_11, p_11, f_11, c_11, a_14, p_14, f_14, c_14, a_16, p_16, f_16, c_16, a_18, p_18, f_18, c_18, a_21, p_21, f_21, c_21, a_23, p_23, f_23, c_23, a_25, p_25, f_25, c_25, a_30, p_30, f_30, c_30, a_32, p_32, f_32, c_32, a_34, p_34, f_34, c_34, a_36, p_36, f_36, c_36, a_38, p_38, f_38, c_38, a_40, p_40, f_40, c_40, a_44, p_44, f_44, c_44, a_46, p_46, f_46, c_46, a_48, p_48, f_48, c_48, a_50, p_50, f_50, c_50, a_53, p_53, f_53, c_53, a_55, p_55, f_55, c_55, a_57, p_57, f_57, c_57, a_59, p_59, f_59, c_59, a_61, p_61, f_61, c_61, a_63, p_63, f_63, c_63, a_65, p_65, f_65, c_65, a_67, p_67, f_67, c_67, a_69, p_69, f_69, c_69, a_71, p_71, f_71, c_71, a_73, p_73, f_73, c_73, c_1, i_1, w_1, z0_1, z1_1, c_2, i_2, w_2, z0_2, z1_2, c_4, i_4, w_4, z0_4, z1_4, c_6, i_6, w_6, z0_6, z1_6, c_13, i_13, w_13, z0_13, z1_13, c_20, i_20, w_20, z0_20, z1_20, c_27, i_27, w_27, z0_27, z1_27, c_28, i_28, w_28, z0_28, z1_28, c_29, i_29, w_29, z0_29, z1_29, c_42, i_42, w_42, z0_42, z1_42, c_43, i_43, w_43, z0_43, z1_43, c_52, i_52, w_52, z0_52, z1_52, X1_size, X1_literal, X1_numberOfStep, X1_ofFormula, X1_inAll, X1_user, X9_codeOf, X1_firstUse, X1_endOfUses, X2_open, X2_at, X2_add, X2_drop, X2_clear, X4_fuelLeft, X4_isActive, X4_isMarked, X4_mark, X4_usedCount, X4_usedAt, X4_setActive, X4_forget, X4_truthOf, h3, if_neg (nI_ge (show p < E by omega) (show E < 2 ^ 31 by omega)), rv_28_0 hb0, hv, cl_st (B_0 hb).1, at_all hb, atv_ok hT (show p < n by omega), nI_1]
    rw [ih (p + 1) m _ (by omega) (by omega)]
    rfl
theorem num_c (hv : v.2.2.2.2.2.1 = b) (hb : isB b = true) (hT : BT I b T n) (h2 : I 28 2 = nI P) (h3 : I 28 3 = nI E) (hPE : P < E) (hE : E ≤ n) : fX8_number 28 (st I v J) = some (vN T P E, st I v J) := by
  have hn : n ≤ 6000 := by obtain ⟨w, w1, w2, w3, w4, w5⟩ := hT; exact w4
  have hz := zfu_big
  obtain ⟨f1, f2⟩ := fd_i T P
  unfold fX8_number
  simp only [first_c hv hb hT h2 (show P < n by omega), bnd_x, gd_0, gd_1, gd_o0, gd_o1, ite_self, rf_1_0, rf_1_1, rf_1_5, rf_1_6, rf_1_7, rf_2_0, rf_4_0, rf_6_0, rf_6_1, rf_6_2, rf_7_0, rf_9_0, rf_11_0, rf_13_0, rf_13_1, rf_13_2, rf_14_0, rf_16_0, rf_18_0, rf_20_0, rf_20_1, rf_20_2, rf_21_0, rf_23_0, rf_25_0, rf_27_0, rf_29_0, rf_29_1, rf_29_2, rf_29_3, rf_29_4, rf_29_5, rf_30_0, rf_32_0, rf_34_0, rf_36_0, rf_38_0, rf_40_0, rf_42_0, rf_42_1, rf_42_2, rf_42_3, rf_43_0, rf_43_1, rf_43_2, rf_44_0, rf_46_0, rf_48_0, rf_50_0, rf_52_0, rf_52_1, rf_52_2, rf_52_3, rf_52_4, rf_52_5, rf_52_6, rf_52_7, rf_52_8, rf_52_9, rf_52_10, rf_52_11, rf_53_0, rf_55_0, rf_57_0, rf_59_0, rf_61_0, rf_63_0, rf_65_0, rf_67_0, rf_69_0, rf_71_0, rf_73_0, a_7, p_7, f_7, c_7, a_9, p_9, f_9, c_9, a_11, p_11, f_11, c_11, a_14, p_14, f_14, c_14, a_16, p_16, f_16, c_16, a_18, p_18, f_18, c_18, a_21, p_21, f_21, c_21, a_23, p_23, f_23, c_23, a_25, p_25, f_25, c_25, a_30, p_30, f_30, c_30, a_32, p_32, f_32, c_32, a_34, p_34, f_34, c_34, a_36, p_36, f_36, c_36, a_38, p_38, f_38, c_38, a_40, p_40, f_40, c_40, a_44, p_44, f_44, c_44, a_46, p_46, f_46, c_46, a_48, p_48, f_48, c_48, a_50, p_50, f_50, c_50, a_53, p_53, f_53, c_53, a_55, p_55, f_55, c_55, a_57, p_57, f_57, c_57, a_59, p_59, f_59, c_59, a_61, p_61, f_61, c_61, a_63, p_63, f_63, c_63, a_65, p_65, f_65, c_65, a_67, p_67, f_67, c_67, a_69, p_69, f_69, c_69, a_71, p_71, f_71, c_71, a_73, p_73, f_73, c_73, c_1, i_1, w_1, z0_1, z1_1, c_2, i_2, w_2, z0_2, z1_2, c_4, i_4, w_4, z0_4, z1_4, c_6, i_6, w_6, z0_6, z1_6, c_13, i_13, w_13, z0_13, z1_13, c_20, i_20, w_20, z0_20, z1_20, c_27, i_27, w_27, z0_27, z1_27, c_28, i_28, w_28, z0_28, z1_28, c_29, i_29, w_29, z0_29, z1_29, c_42, i_42, w_42, z0_42, z1_42, c_43, i_43, w_43, z0_43, z1_43, c_52, i_52, w_52, z0_52, z1_52, X1_size, X1_literal, X1_numberOfStep, X1_ofFormula, X1_inAll, X1_user, X9_codeOf, X1_firstUse, X1_endOfUses, X2_open, X2_at, X2_add, X2_drop, X2_clear, X4_fuelLeft, X4_isActive, X4_isMarked, X4_mark, X4_usedCount, X4_usedAt, X4_setActive, X4_forget, X4_truthOf]
  rw [num_loop hv hb hT h2 h3 hE (nI (fd T P)) (E - fd T P) (fd T P) zfu 0 (by omega) (by omega)]
  unfold vN
  by_cases c : fd T P = P
  · rw [if_pos (nI_le (by omega) (by omega)), if_pos c]
  · rw [if_neg (nI_ge (by omega) (by omega)), if_neg c]
end
/-! the reference's -/
def wg (I : Nat → Nat → Int32) (x p : Int32) : Nat → Nat → Int32 := if I 75 8 = 0 then up (up I 75 8 x) 75 9 p else I
section
variable {I : Nat → Nat → Int32} {P E : Nat}
theorem wrong_ok (x p : Int32) : fX10_wrong 75 x p (st I v J) = some (st (wg I x p) v J) := by
  unfold fX10_wrong wg
  simp only [bnd_x, gd_0, gd_1, gd_o0, gd_o1, ite_self, rf_75_1, rf_75_3, rf_75_12, rf_75_13, rf_75_14, rf_75_15, rf_75_16, rf_75_17, rf_75_18, rf_75_22, rf_75_23, rf_75_24, rf_75_25, rf_75_31, rf_75_32, rf_75_41, rf_75_42, rf_75_43, rf_75_44, rf_75_45, rf_75_46, rf_75_47, rf_75_48, rf_75_53, rf_75_54, rf_75_55, rf_75_57, c_75, i_75, w_75, z0_75, z1_75]
  split <;> rfl
theorem numM_loop (hR : RT I T n) (h6 : I 75 6 = nI P) (h7 : I 75 7 = nI E) (hE : E ≤ n) (l1 : Int32) : ∀ (d p m : Nat) (a : Int32) (g : Bool), p + d = E → d < m →
    ∃ x, fX10_number_78 m 75 l1 (b2 g) a (nI p) (st I v J) = some (x, st (if (g && dg T p d) = true then I else wg I 1 (nI P)) v J) ∧ ((g && dg T p d) = true → x = if l1 = 0 then nv T d p a else -(nv T d p a)) := by
  have hn := hR.1
  have h145 : ∀ (g : Bool) (a : Int32), fX10_number_145 75 l1 (b2 g) a (st I v J) = some (if l1 = 0 then a else -a, st (if g = true then I else wg I 1 (nI P)) v J) := by
    intro g a
    unfold fX10_number_145 fX10_number_158
    simp only [bnd_x, gd_0, gd_1, gd_o0, gd_o1, ite_self, rf_75_1, rf_75_3, rf_75_12, rf_75_13, rf_75_14, rf_75_15, rf_75_16, rf_75_17, rf_75_18, rf_75_22, rf_75_23, rf_75_24, rf_75_25, rf_75_31, rf_75_32, rf_75_41, rf_75_42, rf_75_43, rf_75_44, rf_75_45, rf_75_46, rf_75_47, rf_75_48, rf_75_53, rf_75_54, rf_75_55, rf_75_57, c_75, i_75, w_75, z0_75, z1_75, h6, wrong_ok]
    cases g with
    | true =>
      rw [show b2 true = 1 from rfl, if_neg (by decide), if_pos rfl]
      split <;> rfl
    | false =>
      rw [show b2 false = 0 from rfl, if_pos rfl, if_neg (show ¬ false = true by decide)]
      split <;> rfl
  intro d
  induction d with
  | zero =>
    intro p m a g hp hm
    obtain ⟨m, rfl⟩ : ∃ q, m = q + 1 := ⟨m - 1, by omega⟩
    refine ⟨if l1 = 0 then a else -a, ?_, ?_⟩
    · conv => lhs; unfold fX10_number_78
      simp only [bnd_x, gd_0, gd_1, gd_o0, gd_o1, ite_self, rf_75_1, rf_75_3, rf_75_12, rf_75_13, rf_75_14, rf_75_15, rf_75_16, rf_75_17, rf_75_18, rf_75_22, rf_75_23, rf_75_24, rf_75_25, rf_75_31, rf_75_32, rf_75_41, rf_75_42, rf_75_43, rf_75_44, rf_75_45, rf_75_46, rf_75_47, rf_75_48, rf_75_53, rf_75_54, rf_75_55, rf_75_57, c_75, i_75, w_75, z0_75, z1_75, h7, if_pos (nI_le (show E ≤ p by omega) (show p < 2 ^ 31 by omega))]
      rw [h145, show dg T p 0 = true from rfl, Bool.and_true]
    · intro _; rfl
  | succ d ih =>
    intro p m a g hp hm
    obtain ⟨m, rfl⟩ : ∃ q, m = q + 1 := ⟨m - 1, by omega⟩
    have n1 : ¬ nI E ≤ nI p := nI_ge (show p < E by omega) (by omega)
    cases g with
    | false =>
      refine ⟨if l1 = 0 then a else -a, ?_, ?_⟩
      · conv => lhs; unfold fX10_number_78
        simp only [bnd_x, gd_0, gd_1, gd_o0, gd_o1, ite_self, rf_75_1, rf_75_3, rf_75_12, rf_75_13, rf_75_14, rf_75_15, rf_75_16, rf_75_17, rf_75_18, rf_75_22, rf_75_23, rf_75_24, rf_75_25, rf_75_31, rf_75_32, rf_75_41, rf_75_42, rf_75_43, rf_75_44, rf_75_45, rf_75_46, rf_75_47, rf_75_48, rf_75_53, rf_75_54, rf_75_55, rf_75_57, c_75, i_75, w_75, z0_75, z1_75, h7, if_neg n1, show b2 false = 0 from rfl, if_pos]
        have := h145 false a
        rw [show b2 false = 0 from rfl] at this
        rw [this]
        rfl
      · intro q; exact absurd q (by simp)
    | true =>
      have hstep : fX10_number_78 (m + 1) 75 l1 (b2 true) a (nI p) (st I v J) = fX10_number_78 m 75 l1 (b2 (!(decide (T p < 48)) && decide (T p ≤ 57))) (10 * a + T p - 48) (nI (p + 1)) (st I v J) := by
        conv => lhs; unfold fX10_number_78
        simp only [bnd_x, gd_0, gd_1, gd_o0, gd_o1, ite_self, rf_75_1, rf_75_3, rf_75_12, rf_75_13, rf_75_14, rf_75_15, rf_75_16, rf_75_17, rf_75_18, rf_75_22, rf_75_23, rf_75_24, rf_75_25, rf_75_31, rf_75_32, rf_75_41, rf_75_42, rf_75_43, rf_75_44, rf_75_45, rf_75_46, rf_75_47, rf_75_48, rf_75_53, rf_75_54, rf_75_55, rf_75_57, c_75, i_75, w_75, z0_75, z1_75, h7, if_neg n1, show b2 true = 1 from rfl, if_neg (show ¬ (1 : Int32) = 0 by decide), qa_77 (show p < 6000 by omega), hR.2.2 p (by omega), fX10_number_119, fX10_number_120, nI_1]
        by_cases c1 : T p < 48
        · rw [if_pos c1, decide_eq_true c1]; rfl
        · rw [if_neg c1, decide_eq_false c1]
          by_cases c2 : T p ≤ 57
          · rw [if_neg (Int32.not_lt.mpr c2), decide_eq_true c2]; rfl
          · rw [if_pos (Int32.not_le.mp c2), decide_eq_false c2]; rfl
      obtain ⟨x, x1, x2⟩ := ih (p + 1) m (10 * a + T p - 48) (!(decide (T p < 48)) && decide (T p ≤ 57)) (by omega) (by omega)
      refine ⟨x, ?_, ?_⟩
      · rw [hstep, x1, dg_s, Bool.true_and]
      · rw [dg_s, Bool.true_and]; exact x2
theorem num_m (hR : RT I T n) (h8 : I 75 8 = 0) (h6 : I 75 6 = nI P) (h7 : I 75 7 = nI E) (hPE : P < E) (hE : E ≤ n) : ∃ x, fX10_number 75 (st I v J) = some (x, st (if okN T P E = true then I else wg I 1 (nI P)) v J) ∧ (okN T P E = true → x = vN T P E) := by
  have hn := hR.1
  have hz := zfu_big
  obtain ⟨f1, f2⟩ := fd_i T P
  have key : ∀ l1 : Int32, (l1 = 0 ↔ fd T P = P) → ∃ x, fX10_number_46 75 l1 (nI (fd T P)) (st I v J) = some (x, st (if okN T P E = true then I else wg I 1 (nI P)) v J) ∧ (okN T P E = true → x = vN T P E) := by
    intro l1 hl
    obtain ⟨x0, a1, a2⟩ := numM_loop (v := v) (J := J) hR h6 h7 hE l1 (E - fd T P) (fd T P) zfu 0 false (by omega) (by omega)
    obtain ⟨x1, b1, b2'⟩ := numM_loop (v := v) (J := J) hR h6 h7 hE l1 (E - fd T P) (fd T P) zfu 0 true (by omega) (by omega)
    rw [show b2 false = 0 from rfl, Bool.false_and, if_neg (by decide)] at a1
    rw [show b2 true = 1 from rfl, Bool.true_and] at b1
    rw [Bool.true_and] at b2'
    unfold fX10_number_46
    simp only [bnd_x, gd_0, gd_1, gd_o0, gd_o1, ite_self, rf_75_1, rf_75_3, rf_75_12, rf_75_13, rf_75_14, rf_75_15, rf_75_16, rf_75_17, rf_75_18, rf_75_22, rf_75_23, rf_75_24, rf_75_25, rf_75_31, rf_75_32, rf_75_41, rf_75_42, rf_75_43, rf_75_44, rf_75_45, rf_75_46, rf_75_47, rf_75_48, rf_75_53, rf_75_54, rf_75_55, rf_75_57, c_75, i_75, w_75, z0_75, z1_75, h7, fX10_number_70, fX10_number_71, nI_sub (show fd T P ≤ E by omega)]
    unfold okN
    by_cases c1 : fd T P + 1 ≤ E
    · rw [if_neg (nI_ge (show fd T P < E by omega) (by omega))]
      by_cases c2 : E ≤ fd T P + 6
      · have a2 : ¬ (6 : Int32) < nI (E - fd T P) := nI_nlt (a := 6) (b := E - fd T P) (by omega) (by decide)
        rw [if_neg a2, decide_eq_true ⟨c1, c2⟩, Bool.true_and]
        refine ⟨x1, b1, fun q => ?_⟩
        rw [b2' q]
        unfold vN
        by_cases z : fd T P = P
        · rw [if_pos (hl.mpr z), if_pos z]
        · rw [if_neg (fun q => z (hl.mp q)), if_neg z]
      · have a3 : (6 : Int32) < nI (E - fd T P) := nI_lt (a := 6) (by omega) (by omega)
        rw [if_pos a3, decide_eq_false (fun q => c2 q.2), Bool.false_and, if_neg (by decide)]
        exact ⟨x0, a1, fun q => absurd q (by decide)⟩
    · rw [if_pos (nI_le (show E ≤ fd T P by omega) (by omega)), decide_eq_false (fun q => c1 q.1), Bool.false_and, if_neg (by decide)]
      exact ⟨x0, a1, fun q => absurd q (by decide)⟩
  unfold fX10_number
  simp only [bnd_x, gd_0, gd_1, gd_o0, gd_o1, ite_self, rf_75_1, rf_75_3, rf_75_12, rf_75_13, rf_75_14, rf_75_15, rf_75_16, rf_75_17, rf_75_18, rf_75_22, rf_75_23, rf_75_24, rf_75_25, rf_75_31, rf_75_32, rf_75_41, rf_75_42, rf_75_43, rf_75_44, rf_75_45, rf_75_46, rf_75_47, rf_75_48, rf_75_53, rf_75_54, rf_75_55, rf_75_57, c_75, i_75, w_75, z0_75, z1_75, h8, if_pos, h6, qa_77 (show P < 6000 by omega), hR.2.2 P (by omega), fX10_number_28, nI_1, if_neg (show ¬ (1 : Int32) = 0 by decide)]
  by_cases c : T P = 45
  · rw [if_pos c]
    have e : fd T P = P + 1 := by unfold fd; rw [if_pos c]
    have := key 1 ⟨fun q => absurd q (by decide), fun q => by omega⟩
    rw [e] at this
    exact this
  · rw [if_neg c]
    have e : fd T P = P := by unfold fd; rw [if_neg c]
    have := key 0 ⟨fun _ => e, fun _ => rfl⟩
    rw [e] at this
    exact this
end
/-! words: 0 p, 1 cnf, 2 d -/
def wd (T : Nat → Int32) (P E k : Nat) : Bool := decide (E = P + zlen.getD k 0) && (List.range' 0 (zlen.getD k 0)).all (fun i => T (P + i) == (zbyt.getD k []).getD i 0)
theorem sCh_tab : ∀ k, k < 3 → ∀ i, i < zlen.getD k 0 → ∀ s : zS, sCh k (nI i) s = some ((zbyt.getD k []).getD i 0, s) := by
  intro k hk i hi s
  have h3 : zlen.getD k 0 ≤ 3 := by
    have : k = 0 ∨ k = 1 ∨ k = 2 := by omega
    rcases this with rfl | rfl | rfl <;> decide
  have hi3 : i < 3 := by omega
  unfold sCh
  rw [nI_clamp (by omega), if_pos ⟨hk, by rintro (q | q); exact nI_pos (by omega) q; omega⟩]
  have : ∀ k, k < 3 → ∀ i, i < 3 → i < zlen.getD k 0 → (((zbyt.getD k []).getD i 0 &&& 255).toUInt32 % 65536).toInt32 = (zbyt.getD k []).getD i 0 := by decide
  rw [this k hk i hi3 hi]
theorem spells_loop {I : Nat → Nat → Int32} {b P E k : Nat} (hk : k < 3) (hv : v.2.2.2.2.2.1 = b) (hb : isB b = true) (hT : BT I b T n) (h2 : I 28 2 = nI P) (hE : P + zlen.getD k 0 ≤ n) : ∀ (d i m : Nat), i + d = zlen.getD k 0 → d < m → fX8_spells_22 m 28 k (nI (zlen.getD k 0)) (nI i) (st I v J) = some (b2 ((List.range' i d).all (fun i => T (P + i) == (zbyt.getD k []).getD i 0)), st I v J) := by
  have hb0 : v.2.2.2.2.2.1 ≠ 0 := by rw [hv]; exact (B_0 hb).2.2.2
  have hn : n ≤ 6000 := by obtain ⟨w, w1, w2, w3, w4, w5⟩ := hT; exact w4
  intro d
  induction d with
  | zero =>
    intro i m hi hm
    obtain ⟨m, rfl⟩ : ∃ q, m = q + 1 := ⟨m - 1, by omega⟩
    conv => lhs; unfold fX8_spells_22
    simp only [bnd_x, gd_0, gd_1, gd_o0, gd_o1, ite_self, rf_1_0, rf_1_1, rf_1_5, rf_1_6, rf_1_7, rf_2_0, rf_4_0, rf_6_0, rf_6_1, rf_6_2, rf_7_0, rf_9_0, rf_11_0, rf_13_0, rf_13_1, rf_13_2, rf_14_0, rf_16_0, rf_18_0, rf_20_0, rf_20_1, rf_20_2, rf_21_0, rf_23_0, rf_25_0, rf_27_0, rf_29_0, rf_29_1, rf_29_2, rf_29_3, rf_29_4, rf_29_5, rf_30_0, rf_32_0, rf_34_0, rf_36_0, rf_38_0, rf_40_0, rf_42_0, rf_42_1, rf_42_2, rf_42_3, rf_43_0, rf_43_1, rf_43_2, rf_44_0, rf_46_0, rf_48_0, rf_50_0, rf_52_0, rf_52_1, rf_52_2, rf_52_3, rf_52_4, rf_52_5, rf_52_6, rf_52_7, rf_52_8, rf_52_9, rf_52_10, rf_52_11, rf_53_0, rf_55_0, rf_57_0, rf_59_0, rf_61_0, rf_63_0, rf_65_0, rf_67_0, rf_69_0, rf_71_0, rf_73_0, a_7, p_7, f_7, c_7, a_9, p_9, f_9, c_9, a_11, p_11, f_11, c_11, a_14, p_14, f_14, c_14, a_16, p_16, f_16, c_16, a_18, p_18, f_18, c_18, a_21, p_21, f_21, c_21, a_23, p_23, f_23, c_23, a_25, p_25, f_25, c_25, a_30, p_30, f_30, c_30, a_32, p_32, f_32, c_32, a_34, p_34, f_34, c_34, a_36, p_36, f_36, c_36, a_38, p_38, f_38, c_38, a_40, p_40, f_40, c_40, a_44, p_44, f_44, c_44, a_46, p_46, f_46, c_46, a_48, p_48, f_48, c_48, a_50, p_50, f_50, c_50, a_53, p_53, f_53, c_53, a_55, p_55, f_55, c_55, a_57, p_57, f_57, c_57, a_59, p_59, f_59, c_59, a_61, p_61, f_61, c_61, a_63, p_63, f_63, c_63, a_65, p_65, f_65, c_65, a_67, p_67, f_67, c_67, a_69, p_69, f_69, c_69, a_71, p_71, f_71, c_71, a_73, p_73, f_73, c_73, c_1, i_1, w_1, z0_1, z1_1, c_2, i_2, w_2, z0_2, z1_2, c_4, i_4, w_4, z0_4, z1_4, c_6, i_6, w_6, z0_6, z1_6, c_13, i_13, w_13, z0_13, z1_13, c_20, i_20, w_20, z0_20, z1_20, c_27, i_27, w_27, z0_27, z1_27, c_28, i_28, w_28, z0_28, z1_28, c_29, i_29, w_29, z0_29, z1_29, c_42, i_42, w_42, z0_42, z1_42, c_43, i_43, w_43, z0_43, z1_43, c_52, i_52, w_52, z0_52, z1_52, X1_size, X1_literal, X1_numberOfStep, X1_ofFormula, X1_inAll, X1_user, X9_codeOf, X1_firstUse, X1_endOfUses, X2_open, X2_at, X2_add, X2_drop, X2_clear, X4_fuelLeft, X4_isActive, X4_isMarked, X4_mark, X4_usedCount, X4_usedAt, X4_setActive, X4_forget, X4_truthOf, if_pos (nI_le (show zlen.getD k 0 ≤ i by omega) (show i < 2 ^ 31 by omega))]
    rfl
  | succ d ih =>
    intro i m hi hm
    obtain ⟨m, rfl⟩ : ∃ q, m = q + 1 := ⟨m - 1, by omega⟩
    conv => lhs; unfold fX8_spells_22
    have hr : List.range' i (d + 1) = i :: List.range' (i + 1) d := by simp [List.range'_succ]
    simp only [bnd_x, gd_0, gd_1, gd_o0, gd_o1, ite_self, rf_1_0, rf_1_1, rf_1_5, rf_1_6, rf_1_7, rf_2_0, rf_4_0, rf_6_0, rf_6_1, rf_6_2, rf_7_0, rf_9_0, rf_11_0, rf_13_0, rf_13_1, rf_13_2, rf_14_0, rf_16_0, rf_18_0, rf_20_0, rf_20_1, rf_20_2, rf_21_0, rf_23_0, rf_25_0, rf_27_0, rf_29_0, rf_29_1, rf_29_2, rf_29_3, rf_29_4, rf_29_5, rf_30_0, rf_32_0, rf_34_0, rf_36_0, rf_38_0, rf_40_0, rf_42_0, rf_42_1, rf_42_2, rf_42_3, rf_43_0, rf_43_1, rf_43_2, rf_44_0, rf_46_0, rf_48_0, rf_50_0, rf_52_0, rf_52_1, rf_52_2, rf_52_3, rf_52_4, rf_52_5, rf_52_6, rf_52_7, rf_52_8, rf_52_9, rf_52_10, rf_52_11, rf_53_0, rf_55_0, rf_57_0, rf_59_0, rf_61_0, rf_63_0, rf_65_0, rf_67_0, rf_69_0, rf_71_0, rf_73_0, a_7, p_7, f_7, c_7, a_9, p_9, f_9, c_9, a_11, p_11, f_11, c_11, a_14, p_14, f_14, c_14, a_16, p_16, f_16, c_16, a_18, p_18, f_18, c_18, a_21, p_21, f_21, c_21, a_23, p_23, f_23, c_23, a_25, p_25, f_25, c_25, a_30, p_30, f_30, c_30, a_32, p_32, f_32, c_32, a_34, p_34, f_34, c_34, a_36, p_36, f_36, c_36, a_38, p_38, f_38, c_38, a_40, p_40, f_40, c_40, a_44, p_44, f_44, c_44, a_46, p_46, f_46, c_46, a_48, p_48, f_48, c_48, a_50, p_50, f_50, c_50, a_53, p_53, f_53, c_53, a_55, p_55, f_55, c_55, a_57, p_57, f_57, c_57, a_59, p_59, f_59, c_59, a_61, p_61, f_61, c_61, a_63, p_63, f_63, c_63, a_65, p_65, f_65, c_65, a_67, p_67, f_67, c_67, a_69, p_69, f_69, c_69, a_71, p_71, f_71, c_71, a_73, p_73, f_73, c_73, c_1, i_1, w_1, z0_1, z1_1, c_2, i_2, w_2, z0_2, z1_2, c_4, i_4, w_4, z0_4, z1_4, c_6, i_6, w_6, z0_6, z1_6, c_13, i_13, w_13, z0_13, z1_13, c_20, i_20, w_20, z0_20, z1_20, c_27, i_27, w_27, z0_27, z1_27, c_28, i_28, w_28, z0_28, z1_28, c_29, i_29, w_29, z0_29, z1_29, c_42, i_42, w_42, z0_42, z1_42, c_43, i_43, w_43, z0_43, z1_43, c_52, i_52, w_52, z0_52, z1_52, X1_size, X1_literal, X1_numberOfStep, X1_ofFormula, X1_inAll, X1_user, X9_codeOf, X1_firstUse, X1_endOfUses, X2_open, X2_at, X2_add, X2_drop, X2_clear, X4_fuelLeft, X4_isActive, X4_isMarked, X4_mark, X4_usedCount, X4_usedAt, X4_setActive, X4_forget, X4_truthOf, if_neg (nI_ge (show i < zlen.getD k 0 by omega) (show zlen.getD k 0 < 2 ^ 31 by omega)), rv_28_0 hb0, hv, cl_st (B_0 hb).1, at_all hb, h2, nI_add, atv_ok hT (show P + i < n by omega), sCh_tab k hk i (show i < zlen.getD k 0 by omega), nI_1]
    rw [ih (i + 1) m (by omega) (by omega), hr, List.all_cons]
    by_cases c : T (P + i) = (zbyt.getD k []).getD i 0
    · rw [if_pos c, show (T (P + i) == (zbyt.getD k []).getD i 0) = true from by simpa using c, Bool.true_and]
    · rw [if_neg c, show (T (P + i) == (zbyt.getD k []).getD i 0) = false from by simpa using c, Bool.false_and]; rfl
theorem spells_c {I : Nat → Nat → Int32} {b P E k : Nat} (hk : k < 3) (hv : v.2.2.2.2.2.1 = b) (hb : isB b = true) (hT : BT I b T n) (h2 : I 28 2 = nI P) (h3 : I 28 3 = nI E) (hPE : P < E) (hE : E ≤ n) : fX8_spells 28 k (st I v J) = some (b2 (wd T P E k), st I v J) := by
  have hn : n ≤ 6000 := by obtain ⟨w, w1, w2, w3, w4, w5⟩ := hT; exact w4
  have hz := zfu_big
  have h3' : zlen.getD k 0 ≤ 3 := by
    have : k = 0 ∨ k = 1 ∨ k = 2 := by omega
    rcases this with rfl | rfl | rfl <;> decide
  unfold fX8_spells sLn
  rw [if_pos hk]
  simp only [bnd_x, gd_0, gd_1, gd_o0, gd_o1, ite_self, rf_1_0, rf_1_1, rf_1_5, rf_1_6, rf_1_7, rf_2_0, rf_4_0, rf_6_0, rf_6_1, rf_6_2, rf_7_0, rf_9_0, rf_11_0, rf_13_0, rf_13_1, rf_13_2, rf_14_0, rf_16_0, rf_18_0, rf_20_0, rf_20_1, rf_20_2, rf_21_0, rf_23_0, rf_25_0, rf_27_0, rf_29_0, rf_29_1, rf_29_2, rf_29_3, rf_29_4, rf_29_5, rf_30_0, rf_32_0, rf_34_0, rf_36_0, rf_38_0, rf_40_0, rf_42_0, rf_42_1, rf_42_2, rf_42_3, rf_43_0, rf_43_1, rf_43_2, rf_44_0, rf_46_0, rf_48_0, rf_50_0, rf_52_0, rf_52_1, rf_52_2, rf_52_3, rf_52_4, rf_52_5, rf_52_6, rf_52_7, rf_52_8, rf_52_9, rf_52_10, rf_52_11, rf_53_0, rf_55_0, rf_57_0, rf_59_0, rf_61_0, rf_63_0, rf_65_0, rf_67_0, rf_69_0, rf_71_0, rf_73_0, a_7, p_7, f_7, c_7, a_9, p_9, f_9, c_9, a_11, p_11, f_11, c_11, a_14, p_14, f_14, c_14, a_16, p_16, f_16, c_16, a_18, p_18, f_18, c_18, a_21, p_21, f_21, c_21, a_23, p_23, f_23, c_23, a_25, p_25, f_25, c_25, a_30, p_30, f_30, c_30, a_32, p_32, f_32, c_32, a_34, p_34, f_34, c_34, a_36, p_36, f_36, c_36, a_38, p_38, f_38, c_38, a_40, p_40, f_40, c_40, a_44, p_44, f_44, c_44, a_46, p_46, f_46, c_46, a_48, p_48, f_48, c_48, a_50, p_50, f_50, c_50, a_53, p_53, f_53, c_53, a_55, p_55, f_55, c_55, a_57, p_57, f_57, c_57, a_59, p_59, f_59, c_59, a_61, p_61, f_61, c_61, a_63, p_63, f_63, c_63, a_65, p_65, f_65, c_65, a_67, p_67, f_67, c_67, a_69, p_69, f_69, c_69, a_71, p_71, f_71, c_71, a_73, p_73, f_73, c_73, c_1, i_1, w_1, z0_1, z1_1, c_2, i_2, w_2, z0_2, z1_2, c_4, i_4, w_4, z0_4, z1_4, c_6, i_6, w_6, z0_6, z1_6, c_13, i_13, w_13, z0_13, z1_13, c_20, i_20, w_20, z0_20, z1_20, c_27, i_27, w_27, z0_27, z1_27, c_28, i_28, w_28, z0_28, z1_28, c_29, i_29, w_29, z0_29, z1_29, c_42, i_42, w_42, z0_42, z1_42, c_43, i_43, w_43, z0_43, z1_43, c_52, i_52, w_52, z0_52, z1_52, X1_size, X1_literal, X1_numberOfStep, X1_ofFormula, X1_inAll, X1_user, X9_codeOf, X1_firstUse, X1_endOfUses, X2_open, X2_at, X2_add, X2_drop, X2_clear, X4_fuelLeft, X4_isActive, X4_isMarked, X4_mark, X4_usedCount, X4_usedAt, X4_setActive, X4_forget, X4_truthOf, h2, h3, nI_sub (show P ≤ E by omega)]
  unfold wd
  by_cases c : E = P + zlen.getD k 0
  · have q := spells_loop (v := v) (J := J) (E := E) hk hv hb hT h2 (by omega) (zlen.getD k 0) 0 zfu (by omega) (by omega)
    rw [nI_0] at q
    rw [if_pos (by congr 1; omega), q, decide_eq_true c, Bool.true_and]
  · rw [if_neg (fun q => c (by have := (nI_eq (show E - P < 2 ^ 31 by omega) (show zlen.getD k 0 < 2 ^ 31 by omega)).mp q; omega)), decide_eq_false c, Bool.false_and]; rfl
theorem word1_m {I : Nat → Nat → Int32} {P E : Nat} (hR : RT I T n) (h6 : I 75 6 = nI P) (h7 : I 75 7 = nI E) (hPE : P < E) (hE : E ≤ n) (x : Int32) : fX10_isWord 75 1 x 0 0 (st I v J) = some (b2 (decide (E = P + 1 ∧ T P = x)), st I v J) := by
  have hn := hR.1
  unfold fX10_isWord fX10_isWord_46
  simp only [bnd_x, gd_0, gd_1, gd_o0, gd_o1, ite_self, rf_75_1, rf_75_3, rf_75_12, rf_75_13, rf_75_14, rf_75_15, rf_75_16, rf_75_17, rf_75_18, rf_75_22, rf_75_23, rf_75_24, rf_75_25, rf_75_31, rf_75_32, rf_75_41, rf_75_42, rf_75_43, rf_75_44, rf_75_45, rf_75_46, rf_75_47, rf_75_48, rf_75_53, rf_75_54, rf_75_55, rf_75_57, c_75, i_75, w_75, z0_75, z1_75, h6, h7, nI_sub (show P ≤ E by omega), qa_77 (show P < 6000 by omega), hR.2.2 P (by omega), if_pos (show (1 : Int32) < 2 by decide), if_pos (show (1 : Int32) < 3 by decide)]
  by_cases c : E = P + 1
  · have a : nI (E - P) = 1 := by rw [c, Nat.add_sub_cancel_left]; rfl
    rw [if_pos a]
    by_cases c' : T P = x
    · rw [if_pos c', decide_eq_true ⟨c, c'⟩]; rfl
    · rw [if_neg c', decide_eq_false (fun q => c' q.2)]; rfl
  · have a : ¬ nI (E - P) = 1 := fun q => c (by have := (nI_eq (b := 1) (show E - P < 2 ^ 31 by omega) (by decide)).mp q; omega)
    rw [if_neg a, decide_eq_false (fun q => c q.1)]; rfl
theorem word3_m {I : Nat → Nat → Int32} {P E : Nat} (hR : RT I T n) (h6 : I 75 6 = nI P) (h7 : I 75 7 = nI E) (hPE : P < E) (hE : E ≤ n) (x y z : Int32) : fX10_isWord 75 3 x y z (st I v J) = some (b2 (decide (E = P + 3 ∧ T P = x ∧ T (P + 1) = y ∧ T (P + 2) = z)), st I v J) := by
  have hn := hR.1
  unfold fX10_isWord fX10_isWord_46
  simp only [bnd_x, gd_0, gd_1, gd_o0, gd_o1, ite_self, rf_75_1, rf_75_3, rf_75_12, rf_75_13, rf_75_14, rf_75_15, rf_75_16, rf_75_17, rf_75_18, rf_75_22, rf_75_23, rf_75_24, rf_75_25, rf_75_31, rf_75_32, rf_75_41, rf_75_42, rf_75_43, rf_75_44, rf_75_45, rf_75_46, rf_75_47, rf_75_48, rf_75_53, rf_75_54, rf_75_55, rf_75_57, c_75, i_75, w_75, z0_75, z1_75, h6, h7, nI_sub (show P ≤ E by omega), qa_77 (show P < 6000 by omega), hR.2.2 P (by omega), if_neg (show ¬ (3 : Int32) < 2 by decide), if_neg (show ¬ (3 : Int32) < 3 by decide)]
  by_cases c : E = P + 3
  · have a : nI (E - P) = 3 := by rw [c, Nat.add_sub_cancel_left]; rfl
    have e1 : nI P + 1 = nI (P + 1) := nI_1 P
    have e2 : nI P + 2 = nI (P + 2) := nI_add P 2
    rw [if_pos a]
    simp only [e1, e2, qa_77 (show P + 1 < 6000 by omega), qa_77 (show P + 2 < 6000 by omega), hR.2.2 (P + 1) (by omega), hR.2.2 (P + 2) (by omega), bnd_x, gd_0, gd_1, gd_o0, gd_o1, ite_self, rf_75_1, rf_75_3, rf_75_12, rf_75_13, rf_75_14, rf_75_15, rf_75_16, rf_75_17, rf_75_18, rf_75_22, rf_75_23, rf_75_24, rf_75_25, rf_75_31, rf_75_32, rf_75_41, rf_75_42, rf_75_43, rf_75_44, rf_75_45, rf_75_46, rf_75_47, rf_75_48, rf_75_53, rf_75_54, rf_75_55, rf_75_57, c_75, i_75, w_75, z0_75, z1_75]
    by_cases c1 : T P = x
    · rw [if_pos c1]
      by_cases c2 : T (P + 1) = y
      · rw [if_pos c2]
        by_cases c3 : T (P + 2) = z
        · rw [if_pos c3, decide_eq_true ⟨c, c1, c2, c3⟩]; rfl
        · rw [if_neg c3, decide_eq_false (fun q => c3 q.2.2.2)]; rfl
      · rw [if_neg c2, decide_eq_false (fun q => c2 q.2.2.1)]; rfl
    · rw [if_neg c1, decide_eq_false (fun q => c1 q.2.1)]; rfl
  · have a : ¬ nI (E - P) = 3 := fun q => c (by have := (nI_eq (b := 3) (show E - P < 2 ^ 31 by omega) (by decide)).mp q; omega)
    rw [if_neg a, decide_eq_false (fun q => c q.1)]; rfl
theorem wd_0 {P E : Nat} : wd T P E 0 = decide (E = P + 1 ∧ T P = 112) := by
  unfold wd
  show (decide (E = P + 1) && (List.range' 0 1).all _) = _
  rw [Bool.eq_iff_iff]
  simp [zbyt, List.range'_succ]
theorem wd_1 {P E : Nat} : wd T P E 1 = decide (E = P + 3 ∧ T P = 99 ∧ T (P + 1) = 110 ∧ T (P + 2) = 102) := by
  unfold wd
  show (decide (E = P + 3) && (List.range' 0 3).all _) = _
  rw [Bool.eq_iff_iff]
  simp [zbyt, List.range'_succ]
theorem wd_2 {P E : Nat} : wd T P E 2 = decide (E = P + 1 ∧ T P = 100) := by
  unfold wd
  show (decide (E = P + 1) && (List.range' 0 1).all _) = _
  rw [Bool.eq_iff_iff]
  simp [zbyt, List.range'_succ]
end
