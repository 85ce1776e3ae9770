/-! A formula: class and reference. -/
section
variable {f : Nat} {T : Nat → Int32} {L : Nat}
/-- in the head of a formula -/
def HS (I I' : Nat → Nat → Int32) (b : Nat) (T : Nat → Int32) (L f : Nat) : Prop :=
  CS I b T L ∧ RT I' T L ∧ FK I I' ∧ (∃ e w d, RCl I I' f 0 e w d) ∧ I 27 6 = nI 0 ∧ I' 75 28 = nI 0 ∧ (I 27 7 = 0 → ∃ pos, pos ≤ L ∧ I 28 3 = nI pos ∧ I' 75 5 = nI pos)
theorem HS_blame {I I' A M : Nat → Nat → Int32} {b : Nat} (hb : isB b = true) (hf : isSh f = true) (h : HS I I' b T L f) (a : ∀ q, q ≠ 28 → A q = I q) (fa : FCr I A f) (m75 : ∀ j, j ≠ 5 → j ≠ 6 → j ≠ 7 → M 75 j = I' 75 j) (m : ∀ q, q ≠ 75 → M q = I' q) (fm : FMr I' M) (h8 : I' 75 8 = 0) (x p : Int32) (hx : x ≠ 0) : HS (ktw A x p) (wg M x p) b T L f ∧ FCr I (ktw A x p) f ∧ FMr I' (wg M x p) ∧ ktw A x p 27 7 ≠ 0 := by
  have hf27 : f + 6 < 27 := by rcases isSh_i hf with q | q | q <;> omega
  obtain ⟨h1, h2, h3, ⟨e, w, d, h4⟩, h5, h6, h7⟩ := h
  have M8 : M 75 8 = 0 := by rw [m75 8 (by decide) (by decide) (by decide)]; exact h8
  have k7 : ktw A x p 27 7 = x := by unfold ktw; rw [up_at, vup_n (by decide), up_self]
  have f1 : FCr I (ktw A x p) f := FCr_t fa (FCr_ktw hf _ _)
  have f2 : FMr I' (wg M x p) := FMr_t fm (FMr_wg _ _)
  refine ⟨⟨CS_fr hb hf h1 f1, RT_F h2 f2, FK_blame _ _ M8 hx, ⟨e, w, d, ?_⟩, ?_, ?_, fun q => ?_⟩, f1, f2, by rw [k7]; exact hx⟩
  · unfold wg
    rw [if_pos M8]
    exact RCl_fr h4 (fun q q1 q2 => by unfold ktw; rw [up_ne (by omega), up_ne (by omega), a q (by omega)]) (by rw [up_at, vup_n (by decide), up_at, vup_n (by decide), m75 26 (by decide) (by decide) (by decide)]) (by rw [up_at, vup_n (by decide), up_at, vup_n (by decide), m75 27 (by decide) (by decide) (by decide)]) (fun q hq => by rw [up_ne hq, up_ne hq, m q hq])
  · unfold ktw; rw [up_at, vup_n (by decide), up_at, vup_n (by decide), a 27 (by decide)]; exact h5
  · unfold wg; rw [if_pos M8, up_at, vup_n (by decide), up_at, vup_n (by decide), m75 28 (by decide) (by decide) (by decide)]; exact h6
  · rw [k7] at q; exact absurd q hx
theorem HS_tok {I I' A M : Nat → Nat → Int32} {b E : Nat} (hb : isB b = true) (hf : isSh f = true) (h : HS I I' b T L f) (a : ∀ q, q ≠ 28 → A q = I q) (fa : FCr I A f) (m75 : ∀ j, j ≠ 5 → j ≠ 6 → j ≠ 7 → M 75 j = I' 75 j) (m : ∀ q, q ≠ 75 → M q = I' q) (fm : FMr I' M) (hE : E ≤ L) (a3 : A 28 3 = nI E) (m5 : M 75 5 = nI E) : HS A M b T L f := by
  have hf27 : f + 6 < 27 := by rcases isSh_i hf with q | q | q <;> omega
  obtain ⟨h1, h2, h3, ⟨e, w, d, h4⟩, h5, h6, h7⟩ := h
  refine ⟨CS_fr hb hf h1 fa, RT_F h2 fm, ?_, ⟨e, w, d, RCl_fr h4 (fun q q1 q2 => a q (by omega)) (m75 26 (by decide) (by decide) (by decide)) (m75 27 (by decide) (by decide) (by decide)) m⟩, by rw [a 27 (by decide)]; exact h5, by rw [m75 28 (by decide) (by decide) (by decide)]; exact h6, fun _ => ⟨E, hE, a3, m5⟩⟩
  unfold FK
  rw [a 27 (by decide), m75 8 (by decide) (by decide) (by decide), m75 9 (by decide) (by decide) (by decide)]; exact h3
theorem word_lock {v v' : zV} {J J' : Nat → Nat → Int64} {b k : Nat} {I I' : Nat → Nat → Int32} (hk : k < 3) (hv : VV v b f) (h : HS I I' b T L f) (G : zS → Option (Int32 × zS)) (hG : ∀ (X : Nat → Nat → Int32) (P E : Nat), RT X T L → X 75 6 = nI P → X 75 7 = nI E → P < E → E ≤ L → G (st X v' J') = some (b2 (wd T P E k), st X v' J')) {α : Type} (K : zS → Option α) :
    ∃ I1 I2, fX5_expectWord 27 k (st I v J) = some (st I1 v J) ∧ (bnd (cl (st I' v' J') 10 75 (fX10_need 75 (st I' v' J'))) fun q10 => bnd (qI q10 10 75 8) fun x13 => if x13 = 0 then bnd (cl q10 10 75 (G q10)) fun q16 => if q16.1 = 0 then bnd (qI q16.2 10 75 6) fun x19 => bnd (cl q16.2 10 75 (fX10_wrong 75 1 x19 q16.2)) fun q22 => K q22 else K q16.2 else K q10) = K (st I2 v' J') ∧ HS I1 I2 b T L f ∧ FCr I I1 f ∧ FMr I' I2 := by
  obtain ⟨v1, v2, v3, hb, hf⟩ := hv
  by_cases z : I 27 7 = 0
  · have h8 : I' 75 8 = 0 := by rw [← h.2.2.1.1]; exact z
    obtain ⟨pos, p1, p2, p3⟩ := h.2.2.2.2.2.2 z
    have hL := h.2.1.1
    have hnx := next_c (v := v) (J := J) v3 hb h.1.1 h.1.2.1 p2 p1
    have hnd := need_m (v := v') (J := J') h.2.1 h8 p3 p1
    obtain ⟨n1, n2, n3, n4, n5, n6, n7⟩ := ndM_f (T := T) (L := L) (P := sk T L pos) h8 (sk_le p1)
    generalize hP : sk T L pos = P at *
    have hPL : P ≤ L := by rw [← hP]; exact sk_le p1
    generalize hE : en T L P = E at *
    have hEL : E ≤ L := by rw [← hE]; exact en_le hPL
    generalize hA : tk I T L P = A at *
    have Ane : ∀ q, q ≠ 28 → A q = I q := fun q hq => by rw [← hA]; exact tk_ne hq
    have A28 : A 28 2 = nI P ∧ A 28 3 = nI E := by rw [← hA, ← hE]; exact ⟨tk_28.1, tk_28.2.1⟩
    have FA : FCr I A f := by rw [← hA]; exact tk_F hf
    have hTA := CS_fr hb hf h.1 FA
    rcases n7 with ⟨hlt, m8⟩ | ⟨heq, m8, m9⟩
    · have hPE : P < E := by
        rw [← hE]
        apply en_gt hlt
        have := (sk_bl (T := T) (n := L) L pos (by omega) (by rw [hP]; exact hlt)).1
        rw [hP] at this; exact this
      rw [decide_eq_true hlt] at hnx
      have hM : ndM I' T L P = tm I' T L P := by unfold ndM; rw [if_pos hlt]
      rw [hM] at hnd n1 n2 n3 n4 n5 n6 m8
      obtain ⟨t1, t2, t3, t4⟩ := tm_75 (I := I') (T := T) (L := L) (P := P)
      generalize hMM : tm I' T L P = M at *
      have hsp := spells_c (v := v) (J := J) hk v3 hb hTA.1 A28.1 A28.2 hPE hEL
      have hg := hG M P E (RT_F h.2.1 n1) n2 n4 hPE hEL
      have eC : fX5_expectWord 27 k (st I v J) = if wd T P E k = true then some (st A v J) else some (st (ktw A 1 (nI P)) v J) := by
        unfold fX5_expectWord fX5_expectWord_28
        simp only [bnd_x, gd_0, gd_1, gd_o0, gd_o1, ite_self, rf_1_0, rf_1_1, rf_1_5, rf_1_6, rf_1_7, rf_2_0, rf_4_0, rf_6_0, rf_6_1, rf_6_2, rf_7_0, rf_9_0, rf_11_0, rf_13_0, rf_13_1, rf_13_2, rf_14_0, rf_16_0, rf_18_0, rf_20_0, rf_20_1, rf_20_2, rf_21_0, rf_23_0, rf_25_0, rf_27_0, rf_29_0, rf_29_1, rf_29_2, rf_29_3, rf_29_4, rf_29_5, rf_30_0, rf_32_0, rf_34_0, rf_36_0, rf_38_0, rf_40_0, rf_42_0, rf_42_1, rf_42_2, rf_42_3, rf_43_0, rf_43_1, rf_43_2, rf_44_0, rf_46_0, rf_48_0, rf_50_0, rf_52_0, rf_52_1, rf_52_2, rf_52_3, rf_52_4, rf_52_5, rf_52_6, rf_52_7, rf_52_8, rf_52_9, rf_52_10, rf_52_11, rf_53_0, rf_55_0, rf_57_0, rf_59_0, rf_61_0, rf_63_0, rf_65_0, rf_67_0, rf_69_0, rf_71_0, rf_73_0, a_7, p_7, f_7, c_7, a_9, p_9, f_9, c_9, a_11, p_11, f_11, c_11, a_14, p_14, f_14, c_14, a_16, p_16, f_16, c_16, a_18, p_18, f_18, c_18, a_21, p_21, f_21, c_21, a_23, p_23, f_23, c_23, a_25, p_25, f_25, c_25, a_30, p_30, f_30, c_30, a_32, p_32, f_32, c_32, a_34, p_34, f_34, c_34, a_36, p_36, f_36, c_36, a_38, p_38, f_38, c_38, a_40, p_40, f_40, c_40, a_44, p_44, f_44, c_44, a_46, p_46, f_46, c_46, a_48, p_48, f_48, c_48, a_50, p_50, f_50, c_50, a_53, p_53, f_53, c_53, a_55, p_55, f_55, c_55, a_57, p_57, f_57, c_57, a_59, p_59, f_59, c_59, a_61, p_61, f_61, c_61, a_63, p_63, f_63, c_63, a_65, p_65, f_65, c_65, a_67, p_67, f_67, c_67, a_69, p_69, f_69, c_69, a_71, p_71, f_71, c_71, a_73, p_73, f_73, c_73, c_1, i_1, w_1, z0_1, z1_1, c_2, i_2, w_2, z0_2, z1_2, c_4, i_4, w_4, z0_4, z1_4, c_6, i_6, w_6, z0_6, z1_6, c_13, i_13, w_13, z0_13, z1_13, c_20, i_20, w_20, z0_20, z1_20, c_27, i_27, w_27, z0_27, z1_27, c_28, i_28, w_28, z0_28, z1_28, c_29, i_29, w_29, z0_29, z1_29, c_42, i_42, w_42, z0_42, z1_42, c_43, i_43, w_43, z0_43, z1_43, c_52, i_52, w_52, z0_52, z1_52, X1_size, X1_literal, X1_numberOfStep, X1_ofFormula, X1_inAll, X1_user, X9_codeOf, X1_firstUse, X1_endOfUses, X2_open, X2_at, X2_add, X2_drop, X2_clear, X4_fuelLeft, X4_isActive, X4_isMarked, X4_mark, X4_usedCount, X4_usedAt, X4_setActive, X4_forget, X4_truthOf, z, if_pos, hnx, show b2 true = 1 from rfl, if_neg (show ¬ (1 : Int32) = 0 by decide), hsp, start_c, A28.1, blame_ok]
        cases wd T P E k <;> rfl
      have eM : ∀ (K : zS → Option α), (bnd (cl (st I' v' J') 10 75 (fX10_need 75 (st I' v' J'))) fun q10 => bnd (qI q10 10 75 8) fun x13 => if x13 = 0 then bnd (cl q10 10 75 (G q10)) fun q16 => if q16.1 = 0 then bnd (qI q16.2 10 75 6) fun x19 => bnd (cl q16.2 10 75 (fX10_wrong 75 1 x19 q16.2)) fun q22 => K q22 else K q16.2 else K q10) = if wd T P E k = true then K (st M v' J') else K (st (wg M 1 (nI P)) v' J') := by
        intro K
        simp only [bnd_x, gd_0, gd_1, gd_o0, gd_o1, ite_self, rf_75_1, rf_75_3, rf_75_12, rf_75_13, rf_75_14, rf_75_15, rf_75_16, rf_75_17, rf_75_18, rf_75_22, rf_75_23, rf_75_24, rf_75_25, rf_75_31, rf_75_32, rf_75_41, rf_75_42, rf_75_43, rf_75_44, rf_75_45, rf_75_46, rf_75_47, rf_75_48, rf_75_53, rf_75_54, rf_75_55, rf_75_57, c_75, i_75, w_75, z0_75, z1_75, hnd, m8, if_pos, hg, n2, wrong_ok]
        cases wd T P E k <;> rfl
      rw [eC, eM]
      by_cases c : wd T P E k = true
      · rw [if_pos c, if_pos c]
        exact ⟨A, M, rfl, rfl, HS_tok hb hf h Ane FA t4 n6 n1 hEL A28.2 n3, FA, n1⟩
      · rw [if_neg c, if_neg c]
        obtain ⟨q1, q2, q3, q4⟩ := HS_blame hb hf h Ane FA t4 n6 n1 h8 1 (nI P) (by decide)
        exact ⟨_, _, rfl, rfl, q1, q2, q3⟩
    · have hlt : ¬ P < L := by omega
      rw [decide_eq_false hlt] at hnx
      have hM : ndM I' T L P = wg (tm I' T L P) 1 (nI L) := by unfold ndM; rw [if_neg hlt]
      obtain ⟨t1, t2, t3, t4⟩ := tm_75 (I := I') (T := T) (L := L) (P := P)
      obtain ⟨q1, q2, q3, q4⟩ := HS_blame hb hf h Ane FA t4 (fun q hq => tm_ne hq) tm_F h8 1 (nI L) (by decide)
      rw [← hM] at q1 q3
      refine ⟨ktw A 1 (nI L), ndM I' T L P, ?_, ?_, q1, q2, q3⟩
      · unfold fX5_expectWord fX5_expectWord_28
        simp only [bnd_x, gd_0, gd_1, gd_o0, gd_o1, ite_self, rf_1_0, rf_1_1, rf_1_5, rf_1_6, rf_1_7, rf_2_0, rf_4_0, rf_6_0, rf_6_1, rf_6_2, rf_7_0, rf_9_0, rf_11_0, rf_13_0, rf_13_1, rf_13_2, rf_14_0, rf_16_0, rf_18_0, rf_20_0, rf_20_1, rf_20_2, rf_21_0, rf_23_0, rf_25_0, rf_27_0, rf_29_0, rf_29_1, rf_29_2, rf_29_3, rf_29_4, rf_29_5, rf_30_0, rf_32_0, rf_34_0, rf_36_0, rf_38_0, rf_40_0, rf_42_0, rf_42_1, rf_42_2, rf_42_3, rf_43_0, rf_43_1, rf_43_2, rf_44_0, rf_46_0, rf_48_0, rf_50_0, rf_52_0, rf_52_1, rf_52_2, rf_52_3, rf_52_4, rf_52_5, rf_52_6, rf_52_7, rf_52_8, rf_52_9, rf_52_10, rf_52_11, rf_53_0, rf_55_0, rf_57_0, rf_59_0, rf_61_0, rf_63_0, rf_65_0, rf_67_0, rf_69_0, rf_71_0, rf_73_0, a_7, p_7, f_7, c_7, a_9, p_9, f_9, c_9, a_11, p_11, f_11, c_11, a_14, p_14, f_14, c_14, a_16, p_16, f_16, c_16, a_18, p_18, f_18, c_18, a_21, p_21, f_21, c_21, a_23, p_23, f_23, c_23, a_25, p_25, f_25, c_25, a_30, p_30, f_30, c_30, a_32, p_32, f_32, c_32, a_34, p_34, f_34, c_34, a_36, p_36, f_36, c_36, a_38, p_38, f_38, c_38, a_40, p_40, f_40, c_40, a_44, p_44, f_44, c_44, a_46, p_46, f_46, c_46, a_48, p_48, f_48, c_48, a_50, p_50, f_50, c_50, a_53, p_53, f_53, c_53, a_55, p_55, f_55, c_55, a_57, p_57, f_57, c_57, a_59, p_59, f_59, c_59, a_61, p_61, f_61, c_61, a_63, p_63, f_63, c_63, a_65, p_65, f_65, c_65, a_67, p_67, f_67, c_67, a_69, p_69, f_69, c_69, a_71, p_71, f_71, c_71, a_73, p_73, f_73, c_73, c_1, i_1, w_1, z0_1, z1_1, c_2, i_2, w_2, z0_2, z1_2, c_4, i_4, w_4, z0_4, z1_4, c_6, i_6, w_6, z0_6, z1_6, c_13, i_13, w_13, z0_13, z1_13, c_20, i_20, w_20, z0_20, z1_20, c_27, i_27, w_27, z0_27, z1_27, c_28, i_28, w_28, z0_28, z1_28, c_29, i_29, w_29, z0_29, z1_29, c_42, i_42, w_42, z0_42, z1_42, c_43, i_43, w_43, z0_43, z1_43, c_52, i_52, w_52, z0_52, z1_52, X1_size, X1_literal, X1_numberOfStep, X1_ofFormula, X1_inAll, X1_user, X9_codeOf, X1_firstUse, X1_endOfUses, X2_open, X2_at, X2_add, X2_drop, X2_clear, X4_fuelLeft, X4_isActive, X4_isMarked, X4_mark, X4_usedCount, X4_usedAt, X4_setActive, X4_forget, X4_truthOf, z, if_pos, hnx, show b2 false = 0 from rfl, start_c, A28.1, heq, blame_ok]
      · simp only [bnd_x, gd_0, gd_1, gd_o0, gd_o1, ite_self, rf_75_1, rf_75_3, rf_75_12, rf_75_13, rf_75_14, rf_75_15, rf_75_16, rf_75_17, rf_75_18, rf_75_22, rf_75_23, rf_75_24, rf_75_25, rf_75_31, rf_75_32, rf_75_41, rf_75_42, rf_75_43, rf_75_44, rf_75_45, rf_75_46, rf_75_47, rf_75_48, rf_75_53, rf_75_54, rf_75_55, rf_75_57, c_75, i_75, w_75, z0_75, z1_75, hnd, m8, if_neg (show ¬ (1 : Int32) = 0 by decide)]
  · have h8 : ¬ I' 75 8 = 0 := by rw [← h.2.2.1.1]; exact z
    refine ⟨I, I', ?_, ?_, h, FCr_r I, FMr_r I'⟩
    · unfold fX5_expectWord
      simp only [bnd_x, gd_0, gd_1, gd_o0, gd_o1, ite_self, rf_1_0, rf_1_1, rf_1_5, rf_1_6, rf_1_7, rf_2_0, rf_4_0, rf_6_0, rf_6_1, rf_6_2, rf_7_0, rf_9_0, rf_11_0, rf_13_0, rf_13_1, rf_13_2, rf_14_0, rf_16_0, rf_18_0, rf_20_0, rf_20_1, rf_20_2, rf_21_0, rf_23_0, rf_25_0, rf_27_0, rf_29_0, rf_29_1, rf_29_2, rf_29_3, rf_29_4, rf_29_5, rf_30_0, rf_32_0, rf_34_0, rf_36_0, rf_38_0, rf_40_0, rf_42_0, rf_42_1, rf_42_2, rf_42_3, rf_43_0, rf_43_1, rf_43_2, rf_44_0, rf_46_0, rf_48_0, rf_50_0, rf_52_0, rf_52_1, rf_52_2, rf_52_3, rf_52_4, rf_52_5, rf_52_6, rf_52_7, rf_52_8, rf_52_9, rf_52_10, rf_52_11, rf_53_0, rf_55_0, rf_57_0, rf_59_0, rf_61_0, rf_63_0, rf_65_0, rf_67_0, rf_69_0, rf_71_0, rf_73_0, a_7, p_7, f_7, c_7, a_9, p_9, f_9, c_9, a_11, p_11, f_11, c_11, a_14, p_14, f_14, c_14, a_16, p_16, f_16, c_16, a_18, p_18, f_18, c_18, a_21, p_21, f_21, c_21, a_23, p_23, f_23, c_23, a_25, p_25, f_25, c_25, a_30, p_30, f_30, c_30, a_32, p_32, f_32, c_32, a_34, p_34, f_34, c_34, a_36, p_36, f_36, c_36, a_38, p_38, f_38, c_38, a_40, p_40, f_40, c_40, a_44, p_44, f_44, c_44, a_46, p_46, f_46, c_46, a_48, p_48, f_48, c_48, a_50, p_50, f_50, c_50, a_53, p_53, f_53, c_53, a_55, p_55, f_55, c_55, a_57, p_57, f_57, c_57, a_59, p_59, f_59, c_59, a_61, p_61, f_61, c_61, a_63, p_63, f_63, c_63, a_65, p_65, f_65, c_65, a_67, p_67, f_67, c_67, a_69, p_69, f_69, c_69, a_71, p_71, f_71, c_71, a_73, p_73, f_73, c_73, c_1, i_1, w_1, z0_1, z1_1, c_2, i_2, w_2, z0_2, z1_2, c_4, i_4, w_4, z0_4, z1_4, c_6, i_6, w_6, z0_6, z1_6, c_13, i_13, w_13, z0_13, z1_13, c_20, i_20, w_20, z0_20, z1_20, c_27, i_27, w_27, z0_27, z1_27, c_28, i_28, w_28, z0_28, z1_28, c_29, i_29, w_29, z0_29, z1_29, c_42, i_42, w_42, z0_42, z1_42, c_43, i_43, w_43, z0_43, z1_43, c_52, i_52, w_52, z0_52, z1_52, X1_size, X1_literal, X1_numberOfStep, X1_ofFormula, X1_inAll, X1_user, X9_codeOf, X1_firstUse, X1_endOfUses, X2_open, X2_at, X2_add, X2_drop, X2_clear, X4_fuelLeft, X4_isActive, X4_isMarked, X4_mark, X4_usedCount, X4_usedAt, X4_setActive, X4_forget, X4_truthOf, if_neg z]
    · unfold fX10_need
      simp only [bnd_x, gd_0, gd_1, gd_o0, gd_o1, ite_self, rf_75_1, rf_75_3, rf_75_12, rf_75_13, rf_75_14, rf_75_15, rf_75_16, rf_75_17, rf_75_18, rf_75_22, rf_75_23, rf_75_24, rf_75_25, rf_75_31, rf_75_32, rf_75_41, rf_75_42, rf_75_43, rf_75_44, rf_75_45, rf_75_46, rf_75_47, rf_75_48, rf_75_53, rf_75_54, rf_75_55, rf_75_57, c_75, i_75, w_75, z0_75, z1_75, if_neg h8]
theorem number_lock {v v' : zV} {J J' : Nat → Nat → Int64} {b bd : Nat} {I I' : Nat → Nat → Int32} (hv : VV v b f) (hbd : bd ≤ 300) (h : HS I I' b T L f) :
    ∃ I1 I2 x y, fX5_expectNumber 27 (nI bd) (st I v J) = some (x, st I1 v J) ∧ fX10_within 75 (nI bd) (st I' v' J') = some (y, st I2 v' J') ∧ HS I1 I2 b T L f ∧ FCr I I1 f ∧ FMr I' I2 ∧ (I1 27 7 = 0 → I 27 7 = 0 ∧ ∃ a, a ≤ bd ∧ x = nI a ∧ y = nI a) := by
  obtain ⟨v1, v2, v3, hb, hf⟩ := hv
  have zb : (0 : Int32) ≤ nI bd := nI_le (a := 0) (by omega) (by omega)
  by_cases z : I 27 7 = 0
  · have h8 : I' 75 8 = 0 := by rw [← h.2.2.1.1]; exact z
    obtain ⟨pos, p1, p2, p3⟩ := h.2.2.2.2.2.2 z
    have hL := h.2.1.1
    have hnx := next_c (v := v) (J := J) v3 hb h.1.1 h.1.2.1 p2 p1
    have hnd := need_m (v := v') (J := J') h.2.1 h8 p3 p1
    obtain ⟨n1, n2, n3, n4, n5, n6, n7⟩ := ndM_f (T := T) (L := L) (P := sk T L pos) h8 (sk_le p1)
    generalize hP : sk T L pos = P at *
    have hPL : P ≤ L := by rw [← hP]; exact sk_le p1
    generalize hE : en T L P = E at *
    have hEL : E ≤ L := by rw [← hE]; exact en_le hPL
    generalize hA : tk I T L P = A at *
    have Ane : ∀ q, q ≠ 28 → A q = I q := fun q hq => by rw [← hA]; exact tk_ne hq
    have A28 : A 28 2 = nI P ∧ A 28 3 = nI E := by rw [← hA, ← hE]; exact ⟨tk_28.1, tk_28.2.1⟩
    have FA : FCr I A f := by rw [← hA]; exact tk_F hf
    have hTA := CS_fr hb hf h.1 FA
    have h39 : ∀ fl : Int32, fl ≠ 0 → fX5_expectNumber_39 27 fl (st A v J) = some (0, st (ktw A fl (nI P)) v J) := by
      intro fl f0
      unfold fX5_expectNumber_39
      simp only [bnd_x, gd_0, gd_1, gd_o0, gd_o1, ite_self, rf_1_0, rf_1_1, rf_1_5, rf_1_6, rf_1_7, rf_2_0, rf_4_0, rf_6_0, rf_6_1, rf_6_2, rf_7_0, rf_9_0, rf_11_0, rf_13_0, rf_13_1, rf_13_2, rf_14_0, rf_16_0, rf_18_0, rf_20_0, rf_20_1, rf_20_2, rf_21_0, rf_23_0, rf_25_0, rf_27_0, rf_29_0, rf_29_1, rf_29_2, rf_29_3, rf_29_4, rf_29_5, rf_30_0, rf_32_0, rf_34_0, rf_36_0, rf_38_0, rf_40_0, rf_42_0, rf_42_1, rf_42_2, rf_42_3, rf_43_0, rf_43_1, rf_43_2, rf_44_0, rf_46_0, rf_48_0, rf_50_0, rf_52_0, rf_52_1, rf_52_2, rf_52_3, rf_52_4, rf_52_5, rf_52_6, rf_52_7, rf_52_8, rf_52_9, rf_52_10, rf_52_11, rf_53_0, rf_55_0, rf_57_0, rf_59_0, rf_61_0, rf_63_0, rf_65_0, rf_67_0, rf_69_0, rf_71_0, rf_73_0, a_7, p_7, f_7, c_7, a_9, p_9, f_9, c_9, a_11, p_11, f_11, c_11, a_14, p_14, f_14, c_14, a_16, p_16, f_16, c_16, a_18, p_18, f_18, c_18, a_21, p_21, f_21, c_21, a_23, p_23, f_23, c_23, a_25, p_25, f_25, c_25, a_30, p_30, f_30, c_30, a_32, p_32, f_32, c_32, a_34, p_34, f_34, c_34, a_36, p_36, f_36, c_36, a_38, p_38, f_38, c_38, a_40, p_40, f_40, c_40, a_44, p_44, f_44, c_44, a_46, p_46, f_46, c_46, a_48, p_48, f_48, c_48, a_50, p_50, f_50, c_50, a_53, p_53, f_53, c_53, a_55, p_55, f_55, c_55, a_57, p_57, f_57, c_57, a_59, p_59, f_59, c_59, a_61, p_61, f_61, c_61, a_63, p_63, f_63, c_63, a_65, p_65, f_65, c_65, a_67, p_67, f_67, c_67, a_69, p_69, f_69, c_69, a_71, p_71, f_71, c_71, a_73, p_73, f_73, c_73, c_1, i_1, w_1, z0_1, z1_1, c_2, i_2, w_2, z0_2, z1_2, c_4, i_4, w_4, z0_4, z1_4, c_6, i_6, w_6, z0_6, z1_6, c_13, i_13, w_13, z0_13, z1_13, c_20, i_20, w_20, z0_20, z1_20, c_27, i_27, w_27, z0_27, z1_27, c_28, i_28, w_28, z0_28, z1_28, c_29, i_29, w_29, z0_29, z1_29, c_42, i_42, w_42, z0_42, z1_42, c_43, i_43, w_43, z0_43, z1_43, c_52, i_52, w_52, z0_52, z1_52, X1_size, X1_literal, X1_numberOfStep, X1_ofFormula, X1_inAll, X1_user, X9_codeOf, X1_firstUse, X1_endOfUses, X2_open, X2_at, X2_add, X2_drop, X2_clear, X4_fuelLeft, X4_isActive, X4_isMarked, X4_mark, X4_usedCount, X4_usedAt, X4_setActive, X4_forget, X4_truthOf, if_neg f0, start_c, A28.1, blame_ok]
    rcases n7 with ⟨hlt, m8⟩ | ⟨heq, m8, m9⟩
    · have hPE : P < E := by
        rw [← hE]
        apply en_gt hlt
        have := (sk_bl (T := T) (n := L) L pos (by omega) (by rw [hP]; exact hlt)).1
        rw [hP] at this; exact this
      have hM : ndM I' T L P = tm I' T L P := by unfold ndM; rw [if_pos hlt]
      rw [hM] at hnd n1 n2 n3 n4 n5 n6 m8
      obtain ⟨t1, t2, t3, t4⟩ := tm_75 (I := I') (T := T) (L := L) (P := P)
      generalize hMM : tm I' T L P = M at *
      have hfl := fault_c (v := v) (J := J) v3 hb hTA.1 A28.1 A28.2 hPE hEL (nI bd)
      have hnu := num_c (v := v) (J := J) v3 hb hTA.1 A28.1 A28.2 hPE hEL
      obtain ⟨x, x1, x2⟩ := num_m (v := v') (J := J') (RT_F h.2.1 n1) m8 n2 n4 hPE hEL
      have w8 : ∀ y : Int32, y ≠ 0 → ∀ p, ¬ wg M y p 75 8 = 0 := fun y hy p => by
        unfold wg; rw [if_pos m8, up_at, vup_n (by decide), up_self]; exact hy
      have wg6 : ∀ (y p : Int32), wg M y p 75 6 = nI P := fun y p => by
        unfold wg; rw [if_pos m8, up_at, vup_n (by decide), up_at, vup_n (by decide)]; exact n2
      by_cases hok : okN T P E = true
      · rw [if_pos hok] at hfl x1
        obtain ⟨bb, c1, c2⟩ := vN_b hok
        obtain ⟨g1, g2, g3⟩ := val_facts c1 c2
        obtain ⟨⟨g4, g5, g6⟩, g7⟩ := g3 bd hbd
        obtain ⟨⟨k4, k5, k6⟩, k7⟩ := g3 0 (by omega)
        have e0 : (-nI 0 : Int32) = 0 := by rw [nI_0]; rfl
        rw [e0] at k5
        rw [g1] at hfl
        have hx := x2 hok
        by_cases hin : 0 ≤ vN T P E ∧ bb ≤ bd
        · have hnn : ¬ vN T P E < 0 := Int32.not_lt.mpr hin.1
          have hval : vN T P E = nI bb := by
            rcases c2 with q | q
            · exact q
            · by_cases b0 : bb = 0
              · rw [q, b0]; rfl
              · exact absurd (k5.mpr ⟨q, by omega⟩) hnn
          rw [if_pos (g4.mpr hin.2)] at hfl
          refine ⟨A, M, vN T P E, vN T P E, ?_, ?_, HS_tok hb hf h Ane FA t4 n6 n1 hEL A28.2 n3, FA, n1, fun _ => ⟨z, bb, hin.2, hval, hval⟩⟩
          · unfold fX5_expectNumber fX5_expectNumber_39
            simp only [bnd_x, gd_0, gd_1, gd_o0, gd_o1, ite_self, rf_1_0, rf_1_1, rf_1_5, rf_1_6, rf_1_7, rf_2_0, rf_4_0, rf_6_0, rf_6_1, rf_6_2, rf_7_0, rf_9_0, rf_11_0, rf_13_0, rf_13_1, rf_13_2, rf_14_0, rf_16_0, rf_18_0, rf_20_0, rf_20_1, rf_20_2, rf_21_0, rf_23_0, rf_25_0, rf_27_0, rf_29_0, rf_29_1, rf_29_2, rf_29_3, rf_29_4, rf_29_5, rf_30_0, rf_32_0, rf_34_0, rf_36_0, rf_38_0, rf_40_0, rf_42_0, rf_42_1, rf_42_2, rf_42_3, rf_43_0, rf_43_1, rf_43_2, rf_44_0, rf_46_0, rf_48_0, rf_50_0, rf_52_0, rf_52_1, rf_52_2, rf_52_3, rf_52_4, rf_52_5, rf_52_6, rf_52_7, rf_52_8, rf_52_9, rf_52_10, rf_52_11, rf_53_0, rf_55_0, rf_57_0, rf_59_0, rf_61_0, rf_63_0, rf_65_0, rf_67_0, rf_69_0, rf_71_0, rf_73_0, a_7, p_7, f_7, c_7, a_9, p_9, f_9, c_9, a_11, p_11, f_11, c_11, a_14, p_14, f_14, c_14, a_16, p_16, f_16, c_16, a_18, p_18, f_18, c_18, a_21, p_21, f_21, c_21, a_23, p_23, f_23, c_23, a_25, p_25, f_25, c_25, a_30, p_30, f_30, c_30, a_32, p_32, f_32, c_32, a_34, p_34, f_34, c_34, a_36, p_36, f_36, c_36, a_38, p_38, f_38, c_38, a_40, p_40, f_40, c_40, a_44, p_44, f_44, c_44, a_46, p_46, f_46, c_46, a_48, p_48, f_48, c_48, a_50, p_50, f_50, c_50, a_53, p_53, f_53, c_53, a_55, p_55, f_55, c_55, a_57, p_57, f_57, c_57, a_59, p_59, f_59, c_59, a_61, p_61, f_61, c_61, a_63, p_63, f_63, c_63, a_65, p_65, f_65, c_65, a_67, p_67, f_67, c_67, a_69, p_69, f_69, c_69, a_71, p_71, f_71, c_71, a_73, p_73, f_73, c_73, c_1, i_1, w_1, z0_1, z1_1, c_2, i_2, w_2, z0_2, z1_2, c_4, i_4, w_4, z0_4, z1_4, c_6, i_6, w_6, z0_6, z1_6, c_13, i_13, w_13, z0_13, z1_13, c_20, i_20, w_20, z0_20, z1_20, c_27, i_27, w_27, z0_27, z1_27, c_28, i_28, w_28, z0_28, z1_28, c_29, i_29, w_29, z0_29, z1_29, c_42, i_42, w_42, z0_42, z1_42, c_43, i_43, w_43, z0_43, z1_43, c_52, i_52, w_52, z0_52, z1_52, X1_size, X1_literal, X1_numberOfStep, X1_ofFormula, X1_inAll, X1_user, X9_codeOf, X1_firstUse, X1_endOfUses, X2_open, X2_at, X2_add, X2_drop, X2_clear, X4_fuelLeft, X4_isActive, X4_isMarked, X4_mark, X4_usedCount, X4_usedAt, X4_setActive, X4_forget, X4_truthOf, z, if_pos, hnx, hfl, hnu, if_pos hin.1]
          · unfold fX10_within
            simp only [bnd_x, gd_0, gd_1, gd_o0, gd_o1, ite_self, rf_75_1, rf_75_3, rf_75_12, rf_75_13, rf_75_14, rf_75_15, rf_75_16, rf_75_17, rf_75_18, rf_75_22, rf_75_23, rf_75_24, rf_75_25, rf_75_31, rf_75_32, rf_75_41, rf_75_42, rf_75_43, rf_75_44, rf_75_45, rf_75_46, rf_75_47, rf_75_48, rf_75_53, rf_75_54, rf_75_55, rf_75_57, c_75, i_75, w_75, z0_75, z1_75, hnd, x1, hx, if_neg hnn, if_pos (g6.mpr (Or.inl hin.2))]
        · obtain ⟨q1, q2, q3, q4⟩ := HS_blame hb hf h Ane FA t4 n6 n1 h8 2 (nI P) (by decide)
          refine ⟨ktw A 2 (nI P), wg M 2 (nI P), 0, vN T P E, ?_, ?_, q1, q2, q3, fun q => absurd q q4⟩
          · unfold fX5_expectNumber
            by_cases hle : bb ≤ bd
            · rw [if_pos (g4.mpr hle)] at hfl
              simp only [bnd_x, gd_0, gd_1, gd_o0, gd_o1, ite_self, rf_1_0, rf_1_1, rf_1_5, rf_1_6, rf_1_7, rf_2_0, rf_4_0, rf_6_0, rf_6_1, rf_6_2, rf_7_0, rf_9_0, rf_11_0, rf_13_0, rf_13_1, rf_13_2, rf_14_0, rf_16_0, rf_18_0, rf_20_0, rf_20_1, rf_20_2, rf_21_0, rf_23_0, rf_25_0, rf_27_0, rf_29_0, rf_29_1, rf_29_2, rf_29_3, rf_29_4, rf_29_5, rf_30_0, rf_32_0, rf_34_0, rf_36_0, rf_38_0, rf_40_0, rf_42_0, rf_42_1, rf_42_2, rf_42_3, rf_43_0, rf_43_1, rf_43_2, rf_44_0, rf_46_0, rf_48_0, rf_50_0, rf_52_0, rf_52_1, rf_52_2, rf_52_3, rf_52_4, rf_52_5, rf_52_6, rf_52_7, rf_52_8, rf_52_9, rf_52_10, rf_52_11, rf_53_0, rf_55_0, rf_57_0, rf_59_0, rf_61_0, rf_63_0, rf_65_0, rf_67_0, rf_69_0, rf_71_0, rf_73_0, a_7, p_7, f_7, c_7, a_9, p_9, f_9, c_9, a_11, p_11, f_11, c_11, a_14, p_14, f_14, c_14, a_16, p_16, f_16, c_16, a_18, p_18, f_18, c_18, a_21, p_21, f_21, c_21, a_23, p_23, f_23, c_23, a_25, p_25, f_25, c_25, a_30, p_30, f_30, c_30, a_32, p_32, f_32, c_32, a_34, p_34, f_34, c_34, a_36, p_36, f_36, c_36, a_38, p_38, f_38, c_38, a_40, p_40, f_40, c_40, a_44, p_44, f_44, c_44, a_46, p_46, f_46, c_46, a_48, p_48, f_48, c_48, a_50, p_50, f_50, c_50, a_53, p_53, f_53, c_53, a_55, p_55, f_55, c_55, a_57, p_57, f_57, c_57, a_59, p_59, f_59, c_59, a_61, p_61, f_61, c_61, a_63, p_63, f_63, c_63, a_65, p_65, f_65, c_65, a_67, p_67, f_67, c_67, a_69, p_69, f_69, c_69, a_71, p_71, f_71, c_71, a_73, p_73, f_73, c_73, c_1, i_1, w_1, z0_1, z1_1, c_2, i_2, w_2, z0_2, z1_2, c_4, i_4, w_4, z0_4, z1_4, c_6, i_6, w_6, z0_6, z1_6, c_13, i_13, w_13, z0_13, z1_13, c_20, i_20, w_20, z0_20, z1_20, c_27, i_27, w_27, z0_27, z1_27, c_28, i_28, w_28, z0_28, z1_28, c_29, i_29, w_29, z0_29, z1_29, c_42, i_42, w_42, z0_42, z1_42, c_43, i_43, w_43, z0_43, z1_43, c_52, i_52, w_52, z0_52, z1_52, X1_size, X1_literal, X1_numberOfStep, X1_ofFormula, X1_inAll, X1_user, X9_codeOf, X1_firstUse, X1_endOfUses, X2_open, X2_at, X2_add, X2_drop, X2_clear, X4_fuelLeft, X4_isActive, X4_isMarked, X4_mark, X4_usedCount, X4_usedAt, X4_setActive, X4_forget, X4_truthOf, z, if_pos, hnx, hfl, hnu, if_neg (fun q => hin ⟨q, hle⟩), h39 2 (by decide)]
            · rw [if_neg (fun q => hle (g4.mp q))] at hfl
              simp only [bnd_x, gd_0, gd_1, gd_o0, gd_o1, ite_self, rf_1_0, rf_1_1, rf_1_5, rf_1_6, rf_1_7, rf_2_0, rf_4_0, rf_6_0, rf_6_1, rf_6_2, rf_7_0, rf_9_0, rf_11_0, rf_13_0, rf_13_1, rf_13_2, rf_14_0, rf_16_0, rf_18_0, rf_20_0, rf_20_1, rf_20_2, rf_21_0, rf_23_0, rf_25_0, rf_27_0, rf_29_0, rf_29_1, rf_29_2, rf_29_3, rf_29_4, rf_29_5, rf_30_0, rf_32_0, rf_34_0, rf_36_0, rf_38_0, rf_40_0, rf_42_0, rf_42_1, rf_42_2, rf_42_3, rf_43_0, rf_43_1, rf_43_2, rf_44_0, rf_46_0, rf_48_0, rf_50_0, rf_52_0, rf_52_1, rf_52_2, rf_52_3, rf_52_4, rf_52_5, rf_52_6, rf_52_7, rf_52_8, rf_52_9, rf_52_10, rf_52_11, rf_53_0, rf_55_0, rf_57_0, rf_59_0, rf_61_0, rf_63_0, rf_65_0, rf_67_0, rf_69_0, rf_71_0, rf_73_0, a_7, p_7, f_7, c_7, a_9, p_9, f_9, c_9, a_11, p_11, f_11, c_11, a_14, p_14, f_14, c_14, a_16, p_16, f_16, c_16, a_18, p_18, f_18, c_18, a_21, p_21, f_21, c_21, a_23, p_23, f_23, c_23, a_25, p_25, f_25, c_25, a_30, p_30, f_30, c_30, a_32, p_32, f_32, c_32, a_34, p_34, f_34, c_34, a_36, p_36, f_36, c_36, a_38, p_38, f_38, c_38, a_40, p_40, f_40, c_40, a_44, p_44, f_44, c_44, a_46, p_46, f_46, c_46, a_48, p_48, f_48, c_48, a_50, p_50, f_50, c_50, a_53, p_53, f_53, c_53, a_55, p_55, f_55, c_55, a_57, p_57, f_57, c_57, a_59, p_59, f_59, c_59, a_61, p_61, f_61, c_61, a_63, p_63, f_63, c_63, a_65, p_65, f_65, c_65, a_67, p_67, f_67, c_67, a_69, p_69, f_69, c_69, a_71, p_71, f_71, c_71, a_73, p_73, f_73, c_73, c_1, i_1, w_1, z0_1, z1_1, c_2, i_2, w_2, z0_2, z1_2, c_4, i_4, w_4, z0_4, z1_4, c_6, i_6, w_6, z0_6, z1_6, c_13, i_13, w_13, z0_13, z1_13, c_20, i_20, w_20, z0_20, z1_20, c_27, i_27, w_27, z0_27, z1_27, c_28, i_28, w_28, z0_28, z1_28, c_29, i_29, w_29, z0_29, z1_29, c_42, i_42, w_42, z0_42, z1_42, c_43, i_43, w_43, z0_43, z1_43, c_52, i_52, w_52, z0_52, z1_52, X1_size, X1_literal, X1_numberOfStep, X1_ofFormula, X1_inAll, X1_user, X9_codeOf, X1_firstUse, X1_endOfUses, X2_open, X2_at, X2_add, X2_drop, X2_clear, X4_fuelLeft, X4_isActive, X4_isMarked, X4_mark, X4_usedCount, X4_usedAt, X4_setActive, X4_forget, X4_truthOf, z, if_pos, hnx, hfl, if_neg (show ¬ (2 : Int32) = 0 by decide), h39 2 (by decide)]
          · unfold fX10_within fX10_within_18
            simp only [bnd_x, gd_0, gd_1, gd_o0, gd_o1, ite_self, rf_75_1, rf_75_3, rf_75_12, rf_75_13, rf_75_14, rf_75_15, rf_75_16, rf_75_17, rf_75_18, rf_75_22, rf_75_23, rf_75_24, rf_75_25, rf_75_31, rf_75_32, rf_75_41, rf_75_42, rf_75_43, rf_75_44, rf_75_45, rf_75_46, rf_75_47, rf_75_48, rf_75_53, rf_75_54, rf_75_55, rf_75_57, c_75, i_75, w_75, z0_75, z1_75, hnd, x1, hx, n2, wrong_ok]
            split
            · rfl
            · rename_i q
              rw [if_neg]
              intro q'
              rcases g6.mp q' with y | y
              · exact hin ⟨Int32.not_lt.mp q, y⟩
              · by_cases b0 : bb = 0
                · exact hin ⟨Int32.not_lt.mp q, by omega⟩
                · exact q (k5.mpr ⟨y, by omega⟩)
      · rw [if_neg hok] at hfl x1
        obtain ⟨q1, q2, q3, q4⟩ := HS_blame hb hf h Ane FA t4 n6 n1 h8 1 (nI P) (by decide)
        refine ⟨ktw A 1 (nI P), wg M 1 (nI P), 0, x, ?_, ?_, q1, q2, q3, fun q => absurd q q4⟩
        · unfold fX5_expectNumber
          simp only [bnd_x, gd_0, gd_1, gd_o0, gd_o1, ite_self, rf_1_0, rf_1_1, rf_1_5, rf_1_6, rf_1_7, rf_2_0, rf_4_0, rf_6_0, rf_6_1, rf_6_2, rf_7_0, rf_9_0, rf_11_0, rf_13_0, rf_13_1, rf_13_2, rf_14_0, rf_16_0, rf_18_0, rf_20_0, rf_20_1, rf_20_2, rf_21_0, rf_23_0, rf_25_0, rf_27_0, rf_29_0, rf_29_1, rf_29_2, rf_29_3, rf_29_4, rf_29_5, rf_30_0, rf_32_0, rf_34_0, rf_36_0, rf_38_0, rf_40_0, rf_42_0, rf_42_1, rf_42_2, rf_42_3, rf_43_0, rf_43_1, rf_43_2, rf_44_0, rf_46_0, rf_48_0, rf_50_0, rf_52_0, rf_52_1, rf_52_2, rf_52_3, rf_52_4, rf_52_5, rf_52_6, rf_52_7, rf_52_8, rf_52_9, rf_52_10, rf_52_11, rf_53_0, rf_55_0, rf_57_0, rf_59_0, rf_61_0, rf_63_0, rf_65_0, rf_67_0, rf_69_0, rf_71_0, rf_73_0, a_7, p_7, f_7, c_7, a_9, p_9, f_9, c_9, a_11, p_11, f_11, c_11, a_14, p_14, f_14, c_14, a_16, p_16, f_16, c_16, a_18, p_18, f_18, c_18, a_21, p_21, f_21, c_21, a_23, p_23, f_23, c_23, a_25, p_25, f_25, c_25, a_30, p_30, f_30, c_30, a_32, p_32, f_32, c_32, a_34, p_34, f_34, c_34, a_36, p_36, f_36, c_36, a_38, p_38, f_38, c_38, a_40, p_40, f_40, c_40, a_44, p_44, f_44, c_44, a_46, p_46, f_46, c_46, a_48, p_48, f_48, c_48, a_50, p_50, f_50, c_50, a_53, p_53, f_53, c_53, a_55, p_55, f_55, c_55, a_57, p_57, f_57, c_57, a_59, p_59, f_59, c_59, a_61, p_61, f_61, c_61, a_63, p_63, f_63, c_63, a_65, p_65, f_65, c_65, a_67, p_67, f_67, c_67, a_69, p_69, f_69, c_69, a_71, p_71, f_71, c_71, a_73, p_73, f_73, c_73, c_1, i_1, w_1, z0_1, z1_1, c_2, i_2, w_2, z0_2, z1_2, c_4, i_4, w_4, z0_4, z1_4, c_6, i_6, w_6, z0_6, z1_6, c_13, i_13, w_13, z0_13, z1_13, c_20, i_20, w_20, z0_20, z1_20, c_27, i_27, w_27, z0_27, z1_27, c_28, i_28, w_28, z0_28, z1_28, c_29, i_29, w_29, z0_29, z1_29, c_42, i_42, w_42, z0_42, z1_42, c_43, i_43, w_43, z0_43, z1_43, c_52, i_52, w_52, z0_52, z1_52, X1_size, X1_literal, X1_numberOfStep, X1_ofFormula, X1_inAll, X1_user, X9_codeOf, X1_firstUse, X1_endOfUses, X2_open, X2_at, X2_add, X2_drop, X2_clear, X4_fuelLeft, X4_isActive, X4_isMarked, X4_mark, X4_usedCount, X4_usedAt, X4_setActive, X4_forget, X4_truthOf, z, if_pos, hnx, hfl, if_neg (show ¬ (1 : Int32) = 0 by decide), h39 1 (by decide)]
        · have hw2 : wg (wg M 1 (nI P)) 2 (nI P) = wg M 1 (nI P) := if_neg (w8 1 (by decide) (nI P))
          unfold fX10_within fX10_within_18
          simp only [bnd_x, gd_0, gd_1, gd_o0, gd_o1, ite_self, rf_75_1, rf_75_3, rf_75_12, rf_75_13, rf_75_14, rf_75_15, rf_75_16, rf_75_17, rf_75_18, rf_75_22, rf_75_23, rf_75_24, rf_75_25, rf_75_31, rf_75_32, rf_75_41, rf_75_42, rf_75_43, rf_75_44, rf_75_45, rf_75_46, rf_75_47, rf_75_48, rf_75_53, rf_75_54, rf_75_55, rf_75_57, c_75, i_75, w_75, z0_75, z1_75, hnd, x1, wg6, wrong_ok, hw2]
    · have hlt : ¬ P < L := by omega
      have hM : ndM I' T L P = wg (tm I' T L P) 1 (nI L) := by unfold ndM; rw [if_neg hlt]
      obtain ⟨t1, t2, t3, t4⟩ := tm_75 (I := I') (T := T) (L := L) (P := P)
      obtain ⟨q1, q2, q3, q4⟩ := HS_blame hb hf h Ane FA t4 (fun q hq => tm_ne hq) tm_F h8 1 (nI L) (by decide)
      rw [← hM] at q1 q3
      have hE' : E = L := by rw [← hE, heq, en_eq, if_neg (fun q => absurd q.1 (Nat.lt_irrefl _))]
      have hfl := fault_0 (v := v) (J := J) (I := A) v3 hb hL (by rw [A28.1, heq]) (by rw [A28.2, hE']) (nI bd)
      have h39' := h39 1 (by decide)
      rw [heq] at h39'
      refine ⟨ktw A 1 (nI L), ndM I' T L P, 0, 0, ?_, ?_, q1, q2, q3, fun q => absurd q q4⟩
      · unfold fX5_expectNumber
        simp only [bnd_x, gd_0, gd_1, gd_o0, gd_o1, ite_self, rf_1_0, rf_1_1, rf_1_5, rf_1_6, rf_1_7, rf_2_0, rf_4_0, rf_6_0, rf_6_1, rf_6_2, rf_7_0, rf_9_0, rf_11_0, rf_13_0, rf_13_1, rf_13_2, rf_14_0, rf_16_0, rf_18_0, rf_20_0, rf_20_1, rf_20_2, rf_21_0, rf_23_0, rf_25_0, rf_27_0, rf_29_0, rf_29_1, rf_29_2, rf_29_3, rf_29_4, rf_29_5, rf_30_0, rf_32_0, rf_34_0, rf_36_0, rf_38_0, rf_40_0, rf_42_0, rf_42_1, rf_42_2, rf_42_3, rf_43_0, rf_43_1, rf_43_2, rf_44_0, rf_46_0, rf_48_0, rf_50_0, rf_52_0, rf_52_1, rf_52_2, rf_52_3, rf_52_4, rf_52_5, rf_52_6, rf_52_7, rf_52_8, rf_52_9, rf_52_10, rf_52_11, rf_53_0, rf_55_0, rf_57_0, rf_59_0, rf_61_0, rf_63_0, rf_65_0, rf_67_0, rf_69_0, rf_71_0, rf_73_0, a_7, p_7, f_7, c_7, a_9, p_9, f_9, c_9, a_11, p_11, f_11, c_11, a_14, p_14, f_14, c_14, a_16, p_16, f_16, c_16, a_18, p_18, f_18, c_18, a_21, p_21, f_21, c_21, a_23, p_23, f_23, c_23, a_25, p_25, f_25, c_25, a_30, p_30, f_30, c_30, a_32, p_32, f_32, c_32, a_34, p_34, f_34, c_34, a_36, p_36, f_36, c_36, a_38, p_38, f_38, c_38, a_40, p_40, f_40, c_40, a_44, p_44, f_44, c_44, a_46, p_46, f_46, c_46, a_48, p_48, f_48, c_48, a_50, p_50, f_50, c_50, a_53, p_53, f_53, c_53, a_55, p_55, f_55, c_55, a_57, p_57, f_57, c_57, a_59, p_59, f_59, c_59, a_61, p_61, f_61, c_61, a_63, p_63, f_63, c_63, a_65, p_65, f_65, c_65, a_67, p_67, f_67, c_67, a_69, p_69, f_69, c_69, a_71, p_71, f_71, c_71, a_73, p_73, f_73, c_73, c_1, i_1, w_1, z0_1, z1_1, c_2, i_2, w_2, z0_2, z1_2, c_4, i_4, w_4, z0_4, z1_4, c_6, i_6, w_6, z0_6, z1_6, c_13, i_13, w_13, z0_13, z1_13, c_20, i_20, w_20, z0_20, z1_20, c_27, i_27, w_27, z0_27, z1_27, c_28, i_28, w_28, z0_28, z1_28, c_29, i_29, w_29, z0_29, z1_29, c_42, i_42, w_42, z0_42, z1_42, c_43, i_43, w_43, z0_43, z1_43, c_52, i_52, w_52, z0_52, z1_52, X1_size, X1_literal, X1_numberOfStep, X1_ofFormula, X1_inAll, X1_user, X9_codeOf, X1_firstUse, X1_endOfUses, X2_open, X2_at, X2_add, X2_drop, X2_clear, X4_fuelLeft, X4_isActive, X4_isMarked, X4_mark, X4_usedCount, X4_usedAt, X4_setActive, X4_forget, X4_truthOf, z, if_pos, hnx, hfl, if_neg (show ¬ (1 : Int32) = 0 by decide), h39']
      · unfold fX10_within fX10_number
        simp only [bnd_x, gd_0, gd_1, gd_o0, gd_o1, ite_self, rf_75_1, rf_75_3, rf_75_12, rf_75_13, rf_75_14, rf_75_15, rf_75_16, rf_75_17, rf_75_18, rf_75_22, rf_75_23, rf_75_24, rf_75_25, rf_75_31, rf_75_32, rf_75_41, rf_75_42, rf_75_43, rf_75_44, rf_75_45, rf_75_46, rf_75_47, rf_75_48, rf_75_53, rf_75_54, rf_75_55, rf_75_57, c_75, i_75, w_75, z0_75, z1_75, hnd, m8, if_neg (show ¬ (1 : Int32) = 0 by decide), if_neg (show ¬ (0 : Int32) < 0 by decide), if_pos zb]
  · have h8 : ¬ I' 75 8 = 0 := by rw [← h.2.2.1.1]; exact z
    refine ⟨I, I', 0, 0, ?_, ?_, h, FCr_r I, FMr_r I', fun q => absurd q z⟩
    · unfold fX5_expectNumber
      simp only [bnd_x, gd_0, gd_1, gd_o0, gd_o1, ite_self, rf_1_0, rf_1_1, rf_1_5, rf_1_6, rf_1_7, rf_2_0, rf_4_0, rf_6_0, rf_6_1, rf_6_2, rf_7_0, rf_9_0, rf_11_0, rf_13_0, rf_13_1, rf_13_2, rf_14_0, rf_16_0, rf_18_0, rf_20_0, rf_20_1, rf_20_2, rf_21_0, rf_23_0, rf_25_0, rf_27_0, rf_29_0, rf_29_1, rf_29_2, rf_29_3, rf_29_4, rf_29_5, rf_30_0, rf_32_0, rf_34_0, rf_36_0, rf_38_0, rf_40_0, rf_42_0, rf_42_1, rf_42_2, rf_42_3, rf_43_0, rf_43_1, rf_43_2, rf_44_0, rf_46_0, rf_48_0, rf_50_0, rf_52_0, rf_52_1, rf_52_2, rf_52_3, rf_52_4, rf_52_5, rf_52_6, rf_52_7, rf_52_8, rf_52_9, rf_52_10, rf_52_11, rf_53_0, rf_55_0, rf_57_0, rf_59_0, rf_61_0, rf_63_0, rf_65_0, rf_67_0, rf_69_0, rf_71_0, rf_73_0, a_7, p_7, f_7, c_7, a_9, p_9, f_9, c_9, a_11, p_11, f_11, c_11, a_14, p_14, f_14, c_14, a_16, p_16, f_16, c_16, a_18, p_18, f_18, c_18, a_21, p_21, f_21, c_21, a_23, p_23, f_23, c_23, a_25, p_25, f_25, c_25, a_30, p_30, f_30, c_30, a_32, p_32, f_32, c_32, a_34, p_34, f_34, c_34, a_36, p_36, f_36, c_36, a_38, p_38, f_38, c_38, a_40, p_40, f_40, c_40, a_44, p_44, f_44, c_44, a_46, p_46, f_46, c_46, a_48, p_48, f_48, c_48, a_50, p_50, f_50, c_50, a_53, p_53, f_53, c_53, a_55, p_55, f_55, c_55, a_57, p_57, f_57, c_57, a_59, p_59, f_59, c_59, a_61, p_61, f_61, c_61, a_63, p_63, f_63, c_63, a_65, p_65, f_65, c_65, a_67, p_67, f_67, c_67, a_69, p_69, f_69, c_69, a_71, p_71, f_71, c_71, a_73, p_73, f_73, c_73, c_1, i_1, w_1, z0_1, z1_1, c_2, i_2, w_2, z0_2, z1_2, c_4, i_4, w_4, z0_4, z1_4, c_6, i_6, w_6, z0_6, z1_6, c_13, i_13, w_13, z0_13, z1_13, c_20, i_20, w_20, z0_20, z1_20, c_27, i_27, w_27, z0_27, z1_27, c_28, i_28, w_28, z0_28, z1_28, c_29, i_29, w_29, z0_29, z1_29, c_42, i_42, w_42, z0_42, z1_42, c_43, i_43, w_43, z0_43, z1_43, c_52, i_52, w_52, z0_52, z1_52, X1_size, X1_literal, X1_numberOfStep, X1_ofFormula, X1_inAll, X1_user, X9_codeOf, X1_firstUse, X1_endOfUses, X2_open, X2_at, X2_add, X2_drop, X2_clear, X4_fuelLeft, X4_isActive, X4_isMarked, X4_mark, X4_usedCount, X4_usedAt, X4_setActive, X4_forget, X4_truthOf, if_neg z]
    · unfold fX10_within fX10_need fX10_number
      simp only [bnd_x, gd_0, gd_1, gd_o0, gd_o1, ite_self, rf_75_1, rf_75_3, rf_75_12, rf_75_13, rf_75_14, rf_75_15, rf_75_16, rf_75_17, rf_75_18, rf_75_22, rf_75_23, rf_75_24, rf_75_25, rf_75_31, rf_75_32, rf_75_41, rf_75_42, rf_75_43, rf_75_44, rf_75_45, rf_75_46, rf_75_47, rf_75_48, rf_75_53, rf_75_54, rf_75_55, rf_75_57, c_75, i_75, w_75, z0_75, z1_75, if_neg h8, if_neg (show ¬ (0 : Int32) < 0 by decide), if_pos zb]
theorem formC_end {v : zV} {J : Nat → Nat → Int64} {I : Nat → Nat → Int32} (h : I 27 7 ≠ 0) (m : Nat) (a b c : Int32) : fX5_readFormula_49 (m + 1) 27 a b c (st I v J) = some (st I v J) := by
  conv => lhs; unfold fX5_readFormula_49 fX5_readFormula_83
  simp only [bnd_x, gd_0, gd_1, gd_o0, gd_o1, ite_self, rf_1_0, rf_1_1, rf_1_5, rf_1_6, rf_1_7, rf_2_0, rf_4_0, rf_6_0, rf_6_1, rf_6_2, rf_7_0, rf_9_0, rf_11_0, rf_13_0, rf_13_1, rf_13_2, rf_14_0, rf_16_0, rf_18_0, rf_20_0, rf_20_1, rf_20_2, rf_21_0, rf_23_0, rf_25_0, rf_27_0, rf_29_0, rf_29_1, rf_29_2, rf_29_3, rf_29_4, rf_29_5, rf_30_0, rf_32_0, rf_34_0, rf_36_0, rf_38_0, rf_40_0, rf_42_0, rf_42_1, rf_42_2, rf_42_3, rf_43_0, rf_43_1, rf_43_2, rf_44_0, rf_46_0, rf_48_0, rf_50_0, rf_52_0, rf_52_1, rf_52_2, rf_52_3, rf_52_4, rf_52_5, rf_52_6, rf_52_7, rf_52_8, rf_52_9, rf_52_10, rf_52_11, rf_53_0, rf_55_0, rf_57_0, rf_59_0, rf_61_0, rf_63_0, rf_65_0, rf_67_0, rf_69_0, rf_71_0, rf_73_0, a_7, p_7, f_7, c_7, a_9, p_9, f_9, c_9, a_11, p_11, f_11, c_11, a_14, p_14, f_14, c_14, a_16, p_16, f_16, c_16, a_18, p_18, f_18, c_18, a_21, p_21, f_21, c_21, a_23, p_23, f_23, c_23, a_25, p_25, f_25, c_25, a_30, p_30, f_30, c_30, a_32, p_32, f_32, c_32, a_34, p_34, f_34, c_34, a_36, p_36, f_36, c_36, a_38, p_38, f_38, c_38, a_40, p_40, f_40, c_40, a_44, p_44, f_44, c_44, a_46, p_46, f_46, c_46, a_48, p_48, f_48, c_48, a_50, p_50, f_50, c_50, a_53, p_53, f_53, c_53, a_55, p_55, f_55, c_55, a_57, p_57, f_57, c_57, a_59, p_59, f_59, c_59, a_61, p_61, f_61, c_61, a_63, p_63, f_63, c_63, a_65, p_65, f_65, c_65, a_67, p_67, f_67, c_67, a_69, p_69, f_69, c_69, a_71, p_71, f_71, c_71, a_73, p_73, f_73, c_73, c_1, i_1, w_1, z0_1, z1_1, c_2, i_2, w_2, z0_2, z1_2, c_4, i_4, w_4, z0_4, z1_4, c_6, i_6, w_6, z0_6, z1_6, c_13, i_13, w_13, z0_13, z1_13, c_20, i_20, w_20, z0_20, z1_20, c_27, i_27, w_27, z0_27, z1_27, c_28, i_28, w_28, z0_28, z1_28, c_29, i_29, w_29, z0_29, z1_29, c_42, i_42, w_42, z0_42, z1_42, c_43, i_43, w_43, z0_43, z1_43, c_52, i_52, w_52, z0_52, z1_52, X1_size, X1_literal, X1_numberOfStep, X1_ofFormula, X1_inAll, X1_user, X9_codeOf, X1_firstUse, X1_endOfUses, X2_open, X2_at, X2_add, X2_drop, X2_clear, X4_fuelLeft, X4_isActive, X4_isMarked, X4_mark, X4_usedCount, X4_usedAt, X4_setActive, X4_forget, X4_truthOf, if_neg h]
theorem formM_end {v : zV} {J : Nat → Nat → Int64} {I : Nat → Nat → Int32} (h : I 75 8 ≠ 0) (m : Nat) (a b c : Int32) : fX10_formula_117 (m + 1) 75 a b c (st I v J) = fX10_formula_168 75 a (st I v J) := by
  conv => lhs; unfold fX10_formula_117 fX10_formula_145
  simp only [bnd_x, gd_0, gd_1, gd_o0, gd_o1, ite_self, rf_75_1, rf_75_3, rf_75_12, rf_75_13, rf_75_14, rf_75_15, rf_75_16, rf_75_17, rf_75_18, rf_75_22, rf_75_23, rf_75_24, rf_75_25, rf_75_31, rf_75_32, rf_75_41, rf_75_42, rf_75_43, rf_75_44, rf_75_45, rf_75_46, rf_75_47, rf_75_48, rf_75_53, rf_75_54, rf_75_55, rf_75_57, c_75, i_75, w_75, z0_75, z1_75, if_neg h]
/-- the formula is read -/
def FEND (v v' : zV) (J J' : Nat → Nat → Int64) (f : Nat) (A : Option zS) (B : Option (Int32 × zS)) (va : Int32) (I I' : Nat → Nat → Int32) : Prop :=
  ∃ I1 I2 n e w d, A = some (st I1 v J) ∧ B = fX10_formula_168 75 va (st I2 v' J') ∧ RCl I1 I2 f n e w d ∧ FK I1 I2 ∧ FCr I I1 f ∧ FMr I' I2
theorem FEND_t {v v' : zV} {J J' : Nat → Nat → Int64} {A : Option zS} {B : Option (Int32 × zS)} {va : Int32} {I I' I1 I2 : Nat → Nat → Int32} (h : FEND v v' J J' f A B va I1 I2) (a : FCr I I1 f) (b : FMr I' I2) : FEND v v' J J' f A B va I I' := by
  obtain ⟨X, Y, n, e, w, d, h1, h2, h3, h4, h5, h6⟩ := h
  exact ⟨X, Y, n, e, w, d, h1, h2, h3, h4, FCr_t a h5, FMr_t b h6⟩
theorem form_loop {v v' : zV} {J J' : Nat → Nat → Int64} {b va ro : Nat} (hv : VV v b f) (hva : va ≤ 150) (hro : ro ≤ 300) : ∀ (k n m m' t pos : Nat) (I I' : Nat → Nat → Int32) (e : Nat → Nat) (w : Nat → Int32) (d : Nat → Bool), n + k = ro → k + 1 < m → k + 1 < m' → RST I I' b T L f n e w d t pos → I' 75 30 = nI va →
    FEND v v' J J' f (fX5_readFormula_49 m 27 (nI va) (nI ro) (nI (n + 1)) (st I v J)) (fX10_formula_117 m' 75 (nI va) (nI ro) (nI n) (st I' v' J')) (nI va) I I' := by
  obtain ⟨v1, v2, v3, hb, hf⟩ := hv
  have hv : VV v b f := ⟨v1, v2, v3, hb, hf⟩
  obtain ⟨b1, b2', b3, b4, b5, b6, b7⟩ := B_f hb hf
  have hf0 : v.2.2.2.2.1 ≠ 0 := by rw [v2]; rcases isSh_i hf with q | q | q <;> rw [q] <;> decide
  intro k
  induction k with
  | zero =>
    intro n m m' t pos I I' e w d hn hm hm' h h30
    obtain ⟨m, rfl⟩ : ∃ q, m = q + 1 := ⟨m - 1, by omega⟩
    obtain ⟨m', rfl⟩ : ∃ q, m' = q + 1 := ⟨m' - 1, by omega⟩
    obtain ⟨h1, h2, h3, h4, h5, h6, h7, h8, h9, h10, h11, h12, h13⟩ := h
    have hnx := next_c (v := v) (J := J) v3 hb h2.1 h2.2.1 h12 h11
    have hmx := next_m (v := v') (J := J') h3 h13 h11
    generalize hP : sk T L pos = P at *
    have A28 : tk I T L P 28 2 = nI P := tk_28.1
    obtain ⟨t1, t2, t3, t4⟩ := tm_75 (I := I') (T := T) (L := L) (P := P)
    have FA : FCr I (tk I T L P) f := tk_F hf
    have hRC : RCl (tk I T L P) (tm I' T L P) f n e w d := RCl_fr h1 (fun q q1 q2 => tk_ne (by omega)) (t4 26 (by decide) (by decide) (by decide)) (t4 27 (by decide) (by decide) (by decide)) (fun q hq => tm_ne hq)
    have M8 : tm I' T L P 75 8 = 0 := by rw [t4 8 (by decide) (by decide) (by decide)]; exact h6
    have A7 : tk I T L P 27 7 = 0 := by rw [tk_ne (by decide)]; exact h4
    have eC : fX5_readFormula_49 (m + 1) 27 (nI va) (nI ro) (nI (n + 1)) (st I v J) = some (st (if P < L then ktw (tk I T L P) 1 (nI P) else tk I T L P) v J) := by
      conv => lhs; unfold fX5_readFormula_49
      rw [if_pos (nI_lt (show ro < n + 1 by omega) (by omega))]
      unfold fX5_readFormula_83
      simp only [bnd_x, gd_0, gd_1, gd_o0, gd_o1, ite_self, rf_1_0, rf_1_1, rf_1_5, rf_1_6, rf_1_7, rf_2_0, rf_4_0, rf_6_0, rf_6_1, rf_6_2, rf_7_0, rf_9_0, rf_11_0, rf_13_0, rf_13_1, rf_13_2, rf_14_0, rf_16_0, rf_18_0, rf_20_0, rf_20_1, rf_20_2, rf_21_0, rf_23_0, rf_25_0, rf_27_0, rf_29_0, rf_29_1, rf_29_2, rf_29_3, rf_29_4, rf_29_5, rf_30_0, rf_32_0, rf_34_0, rf_36_0, rf_38_0, rf_40_0, rf_42_0, rf_42_1, rf_42_2, rf_42_3, rf_43_0, rf_43_1, rf_43_2, rf_44_0, rf_46_0, rf_48_0, rf_50_0, rf_52_0, rf_52_1, rf_52_2, rf_52_3, rf_52_4, rf_52_5, rf_52_6, rf_52_7, rf_52_8, rf_52_9, rf_52_10, rf_52_11, rf_53_0, rf_55_0, rf_57_0, rf_59_0, rf_61_0, rf_63_0, rf_65_0, rf_67_0, rf_69_0, rf_71_0, rf_73_0, a_7, p_7, f_7, c_7, a_9, p_9, f_9, c_9, a_11, p_11, f_11, c_11, a_14, p_14, f_14, c_14, a_16, p_16, f_16, c_16, a_18, p_18, f_18, c_18, a_21, p_21, f_21, c_21, a_23, p_23, f_23, c_23, a_25, p_25, f_25, c_25, a_30, p_30, f_30, c_30, a_32, p_32, f_32, c_32, a_34, p_34, f_34, c_34, a_36, p_36, f_36, c_36, a_38, p_38, f_38, c_38, a_40, p_40, f_40, c_40, a_44, p_44, f_44, c_44, a_46, p_46, f_46, c_46, a_48, p_48, f_48, c_48, a_50, p_50, f_50, c_50, a_53, p_53, f_53, c_53, a_55, p_55, f_55, c_55, a_57, p_57, f_57, c_57, a_59, p_59, f_59, c_59, a_61, p_61, f_61, c_61, a_63, p_63, f_63, c_63, a_65, p_65, f_65, c_65, a_67, p_67, f_67, c_67, a_69, p_69, f_69, c_69, a_71, p_71, f_71, c_71, a_73, p_73, f_73, c_73, c_1, i_1, w_1, z0_1, z1_1, c_2, i_2, w_2, z0_2, z1_2, c_4, i_4, w_4, z0_4, z1_4, c_6, i_6, w_6, z0_6, z1_6, c_13, i_13, w_13, z0_13, z1_13, c_20, i_20, w_20, z0_20, z1_20, c_27, i_27, w_27, z0_27, z1_27, c_28, i_28, w_28, z0_28, z1_28, c_29, i_29, w_29, z0_29, z1_29, c_42, i_42, w_42, z0_42, z1_42, c_43, i_43, w_43, z0_43, z1_43, c_52, i_52, w_52, z0_52, z1_52, X1_size, X1_literal, X1_numberOfStep, X1_ofFormula, X1_inAll, X1_user, X9_codeOf, X1_firstUse, X1_endOfUses, X2_open, X2_at, X2_add, X2_drop, X2_clear, X4_fuelLeft, X4_isActive, X4_isMarked, X4_mark, X4_usedCount, X4_usedAt, X4_setActive, X4_forget, X4_truthOf, h4, if_pos, hnx, start_c, A28, blame_ok]
      by_cases c : P < L
      · rw [decide_eq_true c, if_pos c, show b2 true = 1 from rfl, if_neg (by decide)]
      · rw [decide_eq_false c, if_neg c, show b2 false = 0 from rfl, if_pos rfl]
    have eM : fX10_formula_117 (m' + 1) 75 (nI va) (nI ro) (nI n) (st I' v' J') = fX10_formula_168 75 (nI va) (st (if P < L then wg (tm I' T L P) 1 (nI P) else tm I' T L P) v' J') := by
      conv => lhs; unfold fX10_formula_117
      rw [if_pos (nI_le (show ro ≤ n by omega) (by omega))]
      unfold fX10_formula_145
      simp only [bnd_x, gd_0, gd_1, gd_o0, gd_o1, ite_self, rf_75_1, rf_75_3, rf_75_12, rf_75_13, rf_75_14, rf_75_15, rf_75_16, rf_75_17, rf_75_18, rf_75_22, rf_75_23, rf_75_24, rf_75_25, rf_75_31, rf_75_32, rf_75_41, rf_75_42, rf_75_43, rf_75_44, rf_75_45, rf_75_46, rf_75_47, rf_75_48, rf_75_53, rf_75_54, rf_75_55, rf_75_57, c_75, i_75, w_75, z0_75, z1_75, h6, if_pos, hmx, t1, wrong_ok]
      by_cases c : P < L
      · rw [decide_eq_true c, if_pos c, show b2 true = 1 from rfl, if_neg (by decide)]
      · rw [decide_eq_false c, if_neg c, show b2 false = 0 from rfl, if_pos rfl]
    rw [eC, eM]
    by_cases c : P < L
    · rw [if_pos c, if_pos c]
      refine ⟨_, _, n, e, w, d, rfl, rfl, ?_, FK_blame _ _ M8 (by decide), FCr_t FA (FCr_ktw hf _ _), FMr_t tm_F (FMr_wg _ _)⟩
      unfold wg
      rw [if_pos M8]
      exact RCl_fr hRC (fun q q1 q2 => by unfold ktw; rw [up_ne (by omega), up_ne (by omega)]) (by rw [up_at, vup_n (by decide), up_at, vup_n (by decide)]) (by rw [up_at, vup_n (by decide), up_at, vup_n (by decide)]) (fun q hq => by rw [up_ne hq, up_ne hq])
    · rw [if_neg c, if_neg c]
      exact ⟨_, _, n, e, w, d, rfl, rfl, hRC, ⟨by rw [A7, M8], fun _ => by rw [tk_ne (by decide)]; exact h5, fun q => absurd A7 q⟩, FA, tm_F⟩
  | succ k ih =>
    intro n m m' t pos I I' e w d hn hm hm' h h30
    obtain ⟨m, rfl⟩ : ∃ q, m = q + 2 := ⟨m - 2, by omega⟩
    obtain ⟨m', rfl⟩ : ∃ q, m' = q + 2 := ⟨m' - 2, by omega⟩
    have hrw := row_of (v := v) (v' := v') (J := J) (J' := J') (bd := va) hv hva h h30 (show n < 300 by omega) false
    obtain ⟨h1, h2, h3, h4, h5, h6, h7, h8, h9, h10, h11, h12, h13⟩ := h
    have hop := open_m (v := v') (J := J') h1.2.2.2.1 h1.2.2.2.2.1 (show n < 300 by omega)
    have o88 : up (opn I' n (e n)) 88 (n + 1) (b2 false) = opn I' n (e n) := by
      apply up_id
      unfold opn; rw [up_ne (by decide), up_self]; rfl
    rw [o88] at hrw
    obtain ⟨X, I1, I2, e', w', d', r1, r2, r3, r4, r5, r6, r7, r8⟩ := hrw
    have y1 : fX5_readFormula_49 (m + 2) 27 (nI va) (nI ro) (nI (n + 1)) (st I v J) = fX5_readFormula_49 (m + 1) 27 (nI va) (nI ro) (nI (n + 1 + 1)) (st I1 v J) := by
      conv => lhs; unfold fX5_readFormula_49
      rw [if_neg (nI_nlt (show n + 1 ≤ ro by omega) (by omega))]
      rw [show b2 false = 0 from rfl] at r2
      simp only [bnd_x, gd_0, gd_1, gd_o0, gd_o1, ite_self, rf_1_0, rf_1_1, rf_1_5, rf_1_6, rf_1_7, rf_2_0, rf_4_0, rf_6_0, rf_6_1, rf_6_2, rf_7_0, rf_9_0, rf_11_0, rf_13_0, rf_13_1, rf_13_2, rf_14_0, rf_16_0, rf_18_0, rf_20_0, rf_20_1, rf_20_2, rf_21_0, rf_23_0, rf_25_0, rf_27_0, rf_29_0, rf_29_1, rf_29_2, rf_29_3, rf_29_4, rf_29_5, rf_30_0, rf_32_0, rf_34_0, rf_36_0, rf_38_0, rf_40_0, rf_42_0, rf_42_1, rf_42_2, rf_42_3, rf_43_0, rf_43_1, rf_43_2, rf_44_0, rf_46_0, rf_48_0, rf_50_0, rf_52_0, rf_52_1, rf_52_2, rf_52_3, rf_52_4, rf_52_5, rf_52_6, rf_52_7, rf_52_8, rf_52_9, rf_52_10, rf_52_11, rf_53_0, rf_55_0, rf_57_0, rf_59_0, rf_61_0, rf_63_0, rf_65_0, rf_67_0, rf_69_0, rf_71_0, rf_73_0, a_7, p_7, f_7, c_7, a_9, p_9, f_9, c_9, a_11, p_11, f_11, c_11, a_14, p_14, f_14, c_14, a_16, p_16, f_16, c_16, a_18, p_18, f_18, c_18, a_21, p_21, f_21, c_21, a_23, p_23, f_23, c_23, a_25, p_25, f_25, c_25, a_30, p_30, f_30, c_30, a_32, p_32, f_32, c_32, a_34, p_34, f_34, c_34, a_36, p_36, f_36, c_36, a_38, p_38, f_38, c_38, a_40, p_40, f_40, c_40, a_44, p_44, f_44, c_44, a_46, p_46, f_46, c_46, a_48, p_48, f_48, c_48, a_50, p_50, f_50, c_50, a_53, p_53, f_53, c_53, a_55, p_55, f_55, c_55, a_57, p_57, f_57, c_57, a_59, p_59, f_59, c_59, a_61, p_61, f_61, c_61, a_63, p_63, f_63, c_63, a_65, p_65, f_65, c_65, a_67, p_67, f_67, c_67, a_69, p_69, f_69, c_69, a_71, p_71, f_71, c_71, a_73, p_73, f_73, c_73, c_1, i_1, w_1, z0_1, z1_1, c_2, i_2, w_2, z0_2, z1_2, c_4, i_4, w_4, z0_4, z1_4, c_6, i_6, w_6, z0_6, z1_6, c_13, i_13, w_13, z0_13, z1_13, c_20, i_20, w_20, z0_20, z1_20, c_27, i_27, w_27, z0_27, z1_27, c_28, i_28, w_28, z0_28, z1_28, c_29, i_29, w_29, z0_29, z1_29, c_42, i_42, w_42, z0_42, z1_42, c_43, i_43, w_43, z0_43, z1_43, c_52, i_52, w_52, z0_52, z1_52, X1_size, X1_literal, X1_numberOfStep, X1_ofFormula, X1_inAll, X1_user, X9_codeOf, X1_firstUse, X1_endOfUses, X2_open, X2_at, X2_add, X2_drop, X2_clear, X4_fuelLeft, X4_isActive, X4_isMarked, X4_mark, X4_usedCount, X4_usedAt, X4_setActive, X4_forget, X4_truthOf, h4, if_pos, r1, rv_27_2 hf0, v2, cl_st (sh_f hf).1, r2, nI_1]
    have y2 : fX10_formula_117 (m' + 2) 75 (nI va) (nI ro) (nI n) (st I' v' J') = fX10_formula_117 (m' + 1) 75 (nI va) (nI ro) (nI (n + 1)) (st I2 v' J') := by
      conv => lhs; unfold fX10_formula_117
      rw [if_neg (nI_ge (show n < ro by omega) (by omega))]
      simp only [bnd_x, gd_0, gd_1, gd_o0, gd_o1, ite_self, rf_75_1, rf_75_3, rf_75_12, rf_75_13, rf_75_14, rf_75_15, rf_75_16, rf_75_17, rf_75_18, rf_75_22, rf_75_23, rf_75_24, rf_75_25, rf_75_31, rf_75_32, rf_75_41, rf_75_42, rf_75_43, rf_75_44, rf_75_45, rf_75_46, rf_75_47, rf_75_48, rf_75_53, rf_75_54, rf_75_55, rf_75_57, c_75, i_75, w_75, z0_75, z1_75, h6, if_pos, hop, r3, nI_1]
    rw [y1, y2]
    rcases r8 with z | ⟨t', pos', z⟩
    · exact ⟨I1, I2, n + 1, e', w', d', formC_end z m _ _ _, formM_end (by rw [← r7.1]; exact z) m' _ _ _, r6, r7, r4, r5⟩
    · exact FEND_t (ih (n + 1) (m + 1) (m' + 1) t' pos' I1 I2 e' w' d' (by omega) (by omega) (by omega) z (by rw [r5.2 30 (by omega)]; exact h30)) r4 r5
end
