/-! A proof as text: class and reference. -/
section
variable {f : Nat} {T : Nat → Int32} {L : Nat}
theorem textC_end {v : zV} {J : Nat → Nat → Int64} {I : Nat → Nat → Int32} (h : I 27 7 ≠ 0) (m : Nat) (x : Int32) : fX5_readTextProof_10 (m + 1) 27 x (st I v J) = some (st I v J) := by
  conv => lhs; unfold fX5_readTextProof_10
  simp only [bnd_x, gd_0, gd_1, gd_o0, gd_o1, ite_self, rf_1_0, rf_1_1, rf_1_5, rf_1_6, rf_1_7, rf_2_0, rf_4_0, rf_6_0, rf_6_1, rf_6_2, rf_7_0, rf_9_0, rf_11_0, rf_13_0, rf_13_1, rf_13_2, rf_14_0, rf_16_0, rf_18_0, rf_20_0, rf_20_1, rf_20_2, rf_21_0, rf_23_0, rf_25_0, rf_27_0, rf_29_0, rf_29_1, rf_29_2, rf_29_3, rf_29_4, rf_29_5, rf_30_0, rf_32_0, rf_34_0, rf_36_0, rf_38_0, rf_40_0, rf_42_0, rf_42_1, rf_42_2, rf_42_3, rf_43_0, rf_43_1, rf_43_2, rf_44_0, rf_46_0, rf_48_0, rf_50_0, rf_52_0, rf_52_1, rf_52_2, rf_52_3, rf_52_4, rf_52_5, rf_52_6, rf_52_7, rf_52_8, rf_52_9, rf_52_10, rf_52_11, rf_53_0, rf_55_0, rf_57_0, rf_59_0, rf_61_0, rf_63_0, rf_65_0, rf_67_0, rf_69_0, rf_71_0, rf_73_0, a_7, p_7, f_7, c_7, a_9, p_9, f_9, c_9, a_11, p_11, f_11, c_11, a_14, p_14, f_14, c_14, a_16, p_16, f_16, c_16, a_18, p_18, f_18, c_18, a_21, p_21, f_21, c_21, a_23, p_23, f_23, c_23, a_25, p_25, f_25, c_25, a_30, p_30, f_30, c_30, a_32, p_32, f_32, c_32, a_34, p_34, f_34, c_34, a_36, p_36, f_36, c_36, a_38, p_38, f_38, c_38, a_40, p_40, f_40, c_40, a_44, p_44, f_44, c_44, a_46, p_46, f_46, c_46, a_48, p_48, f_48, c_48, a_50, p_50, f_50, c_50, a_53, p_53, f_53, c_53, a_55, p_55, f_55, c_55, a_57, p_57, f_57, c_57, a_59, p_59, f_59, c_59, a_61, p_61, f_61, c_61, a_63, p_63, f_63, c_63, a_65, p_65, f_65, c_65, a_67, p_67, f_67, c_67, a_69, p_69, f_69, c_69, a_71, p_71, f_71, c_71, a_73, p_73, f_73, c_73, c_1, i_1, w_1, z0_1, z1_1, c_2, i_2, w_2, z0_2, z1_2, c_4, i_4, w_4, z0_4, z1_4, c_6, i_6, w_6, z0_6, z1_6, c_13, i_13, w_13, z0_13, z1_13, c_20, i_20, w_20, z0_20, z1_20, c_27, i_27, w_27, z0_27, z1_27, c_28, i_28, w_28, z0_28, z1_28, c_29, i_29, w_29, z0_29, z1_29, c_42, i_42, w_42, z0_42, z1_42, c_43, i_43, w_43, z0_43, z1_43, c_52, i_52, w_52, z0_52, z1_52, X1_size, X1_literal, X1_numberOfStep, X1_ofFormula, X1_inAll, X1_user, X9_codeOf, X1_firstUse, X1_endOfUses, X2_open, X2_at, X2_add, X2_drop, X2_clear, X4_fuelLeft, X4_isActive, X4_isMarked, X4_mark, X4_usedCount, X4_usedAt, X4_setActive, X4_forget, X4_truthOf, if_neg h]
theorem textM_end {v : zV} {J : Nat → Nat → Int64} {I : Nat → Nat → Int32} (h : I 75 8 ≠ 0) (m : Nat) : fX10_readText_0 (m + 1) 75 (st I v J) = some (st I v J) := by
  conv => lhs; unfold fX10_readText_0
  simp only [bnd_x, gd_0, gd_1, gd_o0, gd_o1, ite_self, rf_75_1, rf_75_3, rf_75_12, rf_75_13, rf_75_14, rf_75_15, rf_75_16, rf_75_17, rf_75_18, rf_75_22, rf_75_23, rf_75_24, rf_75_25, rf_75_31, rf_75_32, rf_75_41, rf_75_42, rf_75_43, rf_75_44, rf_75_45, rf_75_46, rf_75_47, rf_75_48, rf_75_53, rf_75_54, rf_75_55, rf_75_57, c_75, i_75, w_75, z0_75, z1_75, if_neg h]
theorem sk_self {P pos : Nat} (h : sk T L pos = P) (hP : P < L) : sk T L P = P := by
  have := sk_bl (T := T) (n := L) L pos (by omega) (by rw [h]; exact hP)
  rw [h] at this
  rw [sk_eq, if_pos hP, if_neg this.2, if_neg (by rw [this.1]; decide)]
theorem text_loop {v v' : zV} {J J' : Nat → Nat → Int64} {b : Nat} (hv : VV v b f) : ∀ (k n m m' t pos : Nat) (I I' : Nat → Nat → Int32) (e : Nat → Nat) (w : Nat → Int32) (d : Nat → Bool), n + k = 300 → k + 1 < m → k + 1 < m' → RST I I' b T L f n e w d t pos → I' 75 30 = nI 150 →
    PEND v v' J J' f (fX5_readTextProof_10 m 27 (nI (n + 1)) (st I v J)) (fX10_readText_0 m' 75 (st I' v' J')) I I' := by
  obtain ⟨v1, v2, v3, hb, hf⟩ := hv
  have hv : VV v b f := ⟨v1, v2, v3, hb, hf⟩
  obtain ⟨b1, b2', b3, b4, b5, b6, b7⟩ := B_f hb hf
  have hf0 : v.2.2.2.2.1 ≠ 0 := by rw [v2]; rcases isSh_i hf with q | q | q <;> rw [q] <;> decide
  intro k
  induction k with
  | zero =>
    intro n m m' t pos I I' e w d hn hm hm' h h30
    obtain ⟨m, rfl⟩ : ∃ q, m = q + 2 := ⟨m - 2, by omega⟩
    obtain ⟨m', rfl⟩ : ∃ q, m' = q + 2 := ⟨m' - 2, by omega⟩
    obtain ⟨h1, h2, h3, h4, h5, h6, h7, h8, h9, h10, h11, h12, h13⟩ := h
    have n300 : n = 300 := by omega
    have hL := h3.1
    have hnx := next_c (v := v) (J := J) v3 hb h2.1 h2.2.1 h12 h11
    have hmx := next_m (v := v') (J := J') h3 h13 h11
    generalize hP : sk T L pos = P at *
    have hPL : P ≤ L := by rw [← hP]; exact sk_le h11
    generalize hE : en T L P = E at *
    have hEL : E ≤ L := by rw [← hE]; exact en_le hPL
    generalize hA : tk I T L P = A at *
    generalize hM : tm I' T L P = M at *
    have Ane : ∀ q, q ≠ 28 → A q = I q := fun q hq => by rw [← hA]; exact tk_ne hq
    have A28 : A 28 2 = nI P ∧ A 28 3 = nI E := by rw [← hA, ← hE]; exact ⟨tk_28.1, tk_28.2.1⟩
    have FA : FCr I A f := by rw [← hA]; exact tk_F hf
    have FM : FMr I' M := by rw [← hM]; exact tm_F
    have Mne : ∀ q, q ≠ 75 → M q = I' q := fun q hq => by rw [← hM]; exact tm_ne hq
    have M75 : M 75 6 = nI P ∧ M 75 5 = nI E ∧ M 75 7 = nI E ∧ ∀ j, j ≠ 5 → j ≠ 6 → j ≠ 7 → M 75 j = I' 75 j := by rw [← hM, ← hE]; exact tm_75
    have hRC : RCl A M f n e w d := RCl_fr h1 (fun q q1 q2 => Ane q (by omega)) (M75.2.2.2 26 (by decide) (by decide) (by decide)) (M75.2.2.2 27 (by decide) (by decide) (by decide)) Mne
    have M8 : M 75 8 = 0 := by rw [M75.2.2.2 8 (by decide) (by decide) (by decide)]; exact h6
    have A7 : A 27 7 = 0 := by rw [Ane 27 (by decide)]; exact h4
    have hTA := CS_fr hb hf h2 FA
    have hRM := RT_F h3 FM
    have i301 : ¬ (301 : Int32) < nI (n + 1) := nI_nlt (a := 301) (b := n + 1) (by omega) (by decide)
    by_cases hlt : P < L
    · have hPE : P < E := by
        rw [← hE]
        apply en_gt hlt
        have := (sk_bl (T := T) (n := L) L pos (by omega) (by rw [hP]; exact hlt)).1
        rw [hP] at this; exact this
      rw [decide_eq_true hlt] at hnx hmx
      have hsp := spells_c (v := v) (J := J) (k := 2) (by decide) v3 hb hTA.1 A28.1 A28.2 hPE hEL
      have hwd := word1_m (v := v') (J := J') hRM M75.1 M75.2.2.1 hPE hEL 100
      rw [← wd_2 (T := T)] at hwd
      have i300 : ¬ nI (n + 1) ≤ (300 : Int32) := nI_ge (a := 300) (by omega) (by omega)
      have h26 : M 75 26 = 300 := by rw [hRC.2.2.2.1, n300]; rfl
      -- it ends with a fault
      have fin : ∀ (fl : Int32) (Z : Nat → Nat → Int32), fl ≠ 0 → (∀ q, q ≠ 28 → Z q = A q) → FCr A Z f → fX5_readTextProof_10 (m + 2) 27 (nI (n + 1)) (st I v J) = fX5_readTextProof_10 (m + 1) 27 (nI (n + 1 + 1)) (st (ktw Z fl (nI P)) v J) → fX10_readText_0 (m' + 2) 75 (st I' v' J') = fX10_readText_0 (m' + 1) 75 (st (wg M fl (nI P)) v' J') → PEND v v' J J' f (fX5_readTextProof_10 (m + 2) 27 (nI (n + 1)) (st I v J)) (fX10_readText_0 (m' + 2) 75 (st I' v' J')) I I' := by
        intro fl Z f0 z1 z2 y1 y2
        have k : ktw Z fl (nI P) 27 7 ≠ 0 := by unfold ktw; rw [up_at, vup_n (by decide), up_self]; exact f0
        have k' : wg M fl (nI P) 75 8 ≠ 0 := by unfold wg; rw [if_pos M8, up_at, vup_n (by decide), up_self]; exact f0
        refine ⟨ktw Z fl (nI P), wg M fl (nI P), n, e, w, d, by rw [y1, textC_end k], by rw [y2, textM_end k'], ?_, FK_blame _ _ M8 f0, FCr_t (FCr_t FA z2) (FCr_ktw hf _ _), FMr_t FM (FMr_wg _ _)⟩
        unfold wg
        rw [if_pos M8]
        exact RCl_fr hRC (fun q q1 q2 => by unfold ktw; rw [up_ne (by omega), up_ne (by omega), z1 q (by omega)]) (by rw [up_at, vup_n (by decide), up_at, vup_n (by decide)]) (by rw [up_at, vup_n (by decide), up_at, vup_n (by decide)]) (fun q hq => by rw [up_ne hq, up_ne hq])
      have w8 : ∀ y : Int32, y ≠ 0 → ∀ p, ¬ wg M y p 75 8 = 0 := fun y hy p => by
        unfold wg; rw [if_pos M8, up_at, vup_n (by decide), up_self]; exact hy
      have wgw : ∀ (y : Int32) (p x p' : Int32), y ≠ 0 → wg (wg M y p) x p' = wg M y p := fun y p x p' hy => if_neg (w8 y hy p)
      have wg6 : ∀ (y p : Int32), wg M y p 75 6 = nI P := fun y p => by
        unfold wg; rw [if_pos M8, up_at, vup_n (by decide), up_at, vup_n (by decide)]; exact M75.1
      have h70 : ∀ x : Int32, fX10_readText_70 (fX10_readText_0 (m' + 1)) 75 x (st M v' J') = fX10_readText_0 (m' + 1) 75 (st (wg M 3 (nI P)) v' J') := by
        intro x
        unfold fX10_readText_70 fX10_readText_79
        simp only [bnd_x, gd_0, gd_1, gd_o0, gd_o1, ite_self, rf_75_1, rf_75_3, rf_75_12, rf_75_13, rf_75_14, rf_75_15, rf_75_16, rf_75_17, rf_75_18, rf_75_22, rf_75_23, rf_75_24, rf_75_25, rf_75_31, rf_75_32, rf_75_41, rf_75_42, rf_75_43, rf_75_44, rf_75_45, rf_75_46, rf_75_47, rf_75_48, rf_75_53, rf_75_54, rf_75_55, rf_75_57, c_75, i_75, w_75, z0_75, z1_75, M75.1, wrong_ok, if_neg (w8 3 (by decide) (nI P)), fX10_readText_113]
      have h70w : ∀ (x y : Int32), y ≠ 0 → fX10_readText_70 (fX10_readText_0 (m' + 1)) 75 x (st (wg M y (nI P)) v' J') = fX10_readText_0 (m' + 1) 75 (st (wg M y (nI P)) v' J') := by
        intro x y hy
        unfold fX10_readText_70 fX10_readText_79
        simp only [bnd_x, gd_0, gd_1, gd_o0, gd_o1, ite_self, rf_75_1, rf_75_3, rf_75_12, rf_75_13, rf_75_14, rf_75_15, rf_75_16, rf_75_17, rf_75_18, rf_75_22, rf_75_23, rf_75_24, rf_75_25, rf_75_31, rf_75_32, rf_75_41, rf_75_42, rf_75_43, rf_75_44, rf_75_45, rf_75_46, rf_75_47, rf_75_48, rf_75_53, rf_75_54, rf_75_55, rf_75_57, c_75, i_75, w_75, z0_75, z1_75, wg6, wrong_ok, wgw y (nI P) 3 (nI P) hy, if_neg (w8 y hy (nI P)), fX10_readText_113]
      cases hd : wd T P E 2 with
      | true =>
        rw [hd] at hsp hwd
        refine fin 3 A (by decide) (fun _ _ => rfl) (FCr_r A) ?_ ?_
        · conv => lhs; unfold fX5_readTextProof_10
          rw [if_neg i301]
          simp only [bnd_x, gd_0, gd_1, gd_o0, gd_o1, ite_self, rf_1_0, rf_1_1, rf_1_5, rf_1_6, rf_1_7, rf_2_0, rf_4_0, rf_6_0, rf_6_1, rf_6_2, rf_7_0, rf_9_0, rf_11_0, rf_13_0, rf_13_1, rf_13_2, rf_14_0, rf_16_0, rf_18_0, rf_20_0, rf_20_1, rf_20_2, rf_21_0, rf_23_0, rf_25_0, rf_27_0, rf_29_0, rf_29_1, rf_29_2, rf_29_3, rf_29_4, rf_29_5, rf_30_0, rf_32_0, rf_34_0, rf_36_0, rf_38_0, rf_40_0, rf_42_0, rf_42_1, rf_42_2, rf_42_3, rf_43_0, rf_43_1, rf_43_2, rf_44_0, rf_46_0, rf_48_0, rf_50_0, rf_52_0, rf_52_1, rf_52_2, rf_52_3, rf_52_4, rf_52_5, rf_52_6, rf_52_7, rf_52_8, rf_52_9, rf_52_10, rf_52_11, rf_53_0, rf_55_0, rf_57_0, rf_59_0, rf_61_0, rf_63_0, rf_65_0, rf_67_0, rf_69_0, rf_71_0, rf_73_0, a_7, p_7, f_7, c_7, a_9, p_9, f_9, c_9, a_11, p_11, f_11, c_11, a_14, p_14, f_14, c_14, a_16, p_16, f_16, c_16, a_18, p_18, f_18, c_18, a_21, p_21, f_21, c_21, a_23, p_23, f_23, c_23, a_25, p_25, f_25, c_25, a_30, p_30, f_30, c_30, a_32, p_32, f_32, c_32, a_34, p_34, f_34, c_34, a_36, p_36, f_36, c_36, a_38, p_38, f_38, c_38, a_40, p_40, f_40, c_40, a_44, p_44, f_44, c_44, a_46, p_46, f_46, c_46, a_48, p_48, f_48, c_48, a_50, p_50, f_50, c_50, a_53, p_53, f_53, c_53, a_55, p_55, f_55, c_55, a_57, p_57, f_57, c_57, a_59, p_59, f_59, c_59, a_61, p_61, f_61, c_61, a_63, p_63, f_63, c_63, a_65, p_65, f_65, c_65, a_67, p_67, f_67, c_67, a_69, p_69, f_69, c_69, a_71, p_71, f_71, c_71, a_73, p_73, f_73, c_73, c_1, i_1, w_1, z0_1, z1_1, c_2, i_2, w_2, z0_2, z1_2, c_4, i_4, w_4, z0_4, z1_4, c_6, i_6, w_6, z0_6, z1_6, c_13, i_13, w_13, z0_13, z1_13, c_20, i_20, w_20, z0_20, z1_20, c_27, i_27, w_27, z0_27, z1_27, c_28, i_28, w_28, z0_28, z1_28, c_29, i_29, w_29, z0_29, z1_29, c_42, i_42, w_42, z0_42, z1_42, c_43, i_43, w_43, z0_43, z1_43, c_52, i_52, w_52, z0_52, z1_52, X1_size, X1_literal, X1_numberOfStep, X1_ofFormula, X1_inAll, X1_user, X9_codeOf, X1_firstUse, X1_endOfUses, X2_open, X2_at, X2_add, X2_drop, X2_clear, X4_fuelLeft, X4_isActive, X4_isMarked, X4_mark, X4_usedCount, X4_usedAt, X4_setActive, X4_forget, X4_truthOf, h4, if_pos, hnx, show b2 true = 1 from rfl, if_neg (show ¬ (1 : Int32) = 0 by decide), hsp, fX5_readTextProof_58, if_neg i300, fX5_blameStepTooMany, fX5_blameStepTooMany_24, fX5_blameStepTooMany_34, start_c, A28.1, blame_ok, fX5_readTextProof_91, nI_1]
        · conv => lhs; unfold fX10_readText_0
          simp only [bnd_x, gd_0, gd_1, gd_o0, gd_o1, ite_self, rf_75_1, rf_75_3, rf_75_12, rf_75_13, rf_75_14, rf_75_15, rf_75_16, rf_75_17, rf_75_18, rf_75_22, rf_75_23, rf_75_24, rf_75_25, rf_75_31, rf_75_32, rf_75_41, rf_75_42, rf_75_43, rf_75_44, rf_75_45, rf_75_46, rf_75_47, rf_75_48, rf_75_53, rf_75_54, rf_75_55, rf_75_57, c_75, i_75, w_75, z0_75, z1_75, h6, if_pos, hmx, show b2 true = 1 from rfl, if_neg (show ¬ (1 : Int32) = 0 by decide), hwd, h26, fX10_readText_46, if_neg (show ¬ (0 : Int32) < -150 by decide), if_pos (show (0 : Int32) ≤ 150 by decide), h70]
      | false =>
        rw [hd] at hsp hwd
        generalize hZ : up A 28 3 (nI P) = Z
        have z1 : ∀ q, q ≠ 28 → Z q = A q := fun q hq => by rw [← hZ, up_ne hq]
        have z2 : FCr A Z f := by rw [← hZ]; exact FCr_28 hf (by decide)
        have Z28 : Z 28 3 = nI P ∧ Z 28 2 = nI P := by rw [← hZ]; exact ⟨up_self .., by rw [up_at, vup_n (by decide)]; exact A28.1⟩
        have hTZ := CS_fr hb hf hTA z2
        have hnz := next_c (v := v) (J := J) v3 hb hTZ.1 hTZ.2.1 Z28.1 (show P ≤ L by omega)
        rw [sk_self hP hlt, decide_eq_true hlt] at hnz
        generalize hY : tk Z T L P = Y at *
        have y1 : ∀ q, q ≠ 28 → Y q = A q := fun q hq => by rw [← hY, tk_ne hq, z1 q hq]
        have y2 : FCr A Y f := by rw [← hY]; exact FCr_t z2 (tk_F hf)
        have Y28 : Y 28 2 = nI P ∧ Y 28 3 = nI E := by rw [← hY, ← hE]; exact ⟨tk_28.1, tk_28.2.1⟩
        have hTY := CS_fr hb hf hTA y2
        have hfl := fault_c (v := v) (J := J) v3 hb hTY.1 Y28.1 Y28.2 hPE hEL 150
        obtain ⟨x, n1, n2⟩ := num_m (v := v') (J := J') hRM M8 M75.1 M75.2.2.1 hPE hEL
        have hCl : ∀ fl : Int32, fX5_faultOfToken 27 150 (st Y v J) = some (fl, st Y v J) → fX5_readTextProof_10 (m + 2) 27 (nI (n + 1)) (st I v J) = fX5_readTextProof_10 (m + 1) 27 (nI (n + 1 + 1)) (st (ktw Y (if fl = 0 then 3 else fl) (nI P)) v J) := by
          intro fl hfl'
          have h24 : fX5_blameStepTooMany_24 27 fl (st Y v J) = some (st (ktw Y (if fl = 0 then 3 else fl) (nI P)) v J) := by
            unfold fX5_blameStepTooMany_24 fX5_blameStepTooMany_34
            simp only [bnd_x, gd_0, gd_1, gd_o0, gd_o1, ite_self, rf_1_0, rf_1_1, rf_1_5, rf_1_6, rf_1_7, rf_2_0, rf_4_0, rf_6_0, rf_6_1, rf_6_2, rf_7_0, rf_9_0, rf_11_0, rf_13_0, rf_13_1, rf_13_2, rf_14_0, rf_16_0, rf_18_0, rf_20_0, rf_20_1, rf_20_2, rf_21_0, rf_23_0, rf_25_0, rf_27_0, rf_29_0, rf_29_1, rf_29_2, rf_29_3, rf_29_4, rf_29_5, rf_30_0, rf_32_0, rf_34_0, rf_36_0, rf_38_0, rf_40_0, rf_42_0, rf_42_1, rf_42_2, rf_42_3, rf_43_0, rf_43_1, rf_43_2, rf_44_0, rf_46_0, rf_48_0, rf_50_0, rf_52_0, rf_52_1, rf_52_2, rf_52_3, rf_52_4, rf_52_5, rf_52_6, rf_52_7, rf_52_8, rf_52_9, rf_52_10, rf_52_11, rf_53_0, rf_55_0, rf_57_0, rf_59_0, rf_61_0, rf_63_0, rf_65_0, rf_67_0, rf_69_0, rf_71_0, rf_73_0, a_7, p_7, f_7, c_7, a_9, p_9, f_9, c_9, a_11, p_11, f_11, c_11, a_14, p_14, f_14, c_14, a_16, p_16, f_16, c_16, a_18, p_18, f_18, c_18, a_21, p_21, f_21, c_21, a_23, p_23, f_23, c_23, a_25, p_25, f_25, c_25, a_30, p_30, f_30, c_30, a_32, p_32, f_32, c_32, a_34, p_34, f_34, c_34, a_36, p_36, f_36, c_36, a_38, p_38, f_38, c_38, a_40, p_40, f_40, c_40, a_44, p_44, f_44, c_44, a_46, p_46, f_46, c_46, a_48, p_48, f_48, c_48, a_50, p_50, f_50, c_50, a_53, p_53, f_53, c_53, a_55, p_55, f_55, c_55, a_57, p_57, f_57, c_57, a_59, p_59, f_59, c_59, a_61, p_61, f_61, c_61, a_63, p_63, f_63, c_63, a_65, p_65, f_65, c_65, a_67, p_67, f_67, c_67, a_69, p_69, f_69, c_69, a_71, p_71, f_71, c_71, a_73, p_73, f_73, c_73, c_1, i_1, w_1, z0_1, z1_1, c_2, i_2, w_2, z0_2, z1_2, c_4, i_4, w_4, z0_4, z1_4, c_6, i_6, w_6, z0_6, z1_6, c_13, i_13, w_13, z0_13, z1_13, c_20, i_20, w_20, z0_20, z1_20, c_27, i_27, w_27, z0_27, z1_27, c_28, i_28, w_28, z0_28, z1_28, c_29, i_29, w_29, z0_29, z1_29, c_42, i_42, w_42, z0_42, z1_42, c_43, i_43, w_43, z0_43, z1_43, c_52, i_52, w_52, z0_52, z1_52, X1_size, X1_literal, X1_numberOfStep, X1_ofFormula, X1_inAll, X1_user, X9_codeOf, X1_firstUse, X1_endOfUses, X2_open, X2_at, X2_add, X2_drop, X2_clear, X4_fuelLeft, X4_isActive, X4_isMarked, X4_mark, X4_usedCount, X4_usedAt, X4_setActive, X4_forget, X4_truthOf, start_c, Y28.1, blame_ok]
            split <;> rfl
          conv => lhs; unfold fX5_readTextProof_10
          rw [if_neg i301]
          simp only [bnd_x, gd_0, gd_1, gd_o0, gd_o1, ite_self, rf_1_0, rf_1_1, rf_1_5, rf_1_6, rf_1_7, rf_2_0, rf_4_0, rf_6_0, rf_6_1, rf_6_2, rf_7_0, rf_9_0, rf_11_0, rf_13_0, rf_13_1, rf_13_2, rf_14_0, rf_16_0, rf_18_0, rf_20_0, rf_20_1, rf_20_2, rf_21_0, rf_23_0, rf_25_0, rf_27_0, rf_29_0, rf_29_1, rf_29_2, rf_29_3, rf_29_4, rf_29_5, rf_30_0, rf_32_0, rf_34_0, rf_36_0, rf_38_0, rf_40_0, rf_42_0, rf_42_1, rf_42_2, rf_42_3, rf_43_0, rf_43_1, rf_43_2, rf_44_0, rf_46_0, rf_48_0, rf_50_0, rf_52_0, rf_52_1, rf_52_2, rf_52_3, rf_52_4, rf_52_5, rf_52_6, rf_52_7, rf_52_8, rf_52_9, rf_52_10, rf_52_11, rf_53_0, rf_55_0, rf_57_0, rf_59_0, rf_61_0, rf_63_0, rf_65_0, rf_67_0, rf_69_0, rf_71_0, rf_73_0, a_7, p_7, f_7, c_7, a_9, p_9, f_9, c_9, a_11, p_11, f_11, c_11, a_14, p_14, f_14, c_14, a_16, p_16, f_16, c_16, a_18, p_18, f_18, c_18, a_21, p_21, f_21, c_21, a_23, p_23, f_23, c_23, a_25, p_25, f_25, c_25, a_30, p_30, f_30, c_30, a_32, p_32, f_32, c_32, a_34, p_34, f_34, c_34, a_36, p_36, f_36, c_36, a_38, p_38, f_38, c_38, a_40, p_40, f_40, c_40, a_44, p_44, f_44, c_44, a_46, p_46, f_46, c_46, a_48, p_48, f_48, c_48, a_50, p_50, f_50, c_50, a_53, p_53, f_53, c_53, a_55, p_55, f_55, c_55, a_57, p_57, f_57, c_57, a_59, p_59, f_59, c_59, a_61, p_61, f_61, c_61, a_63, p_63, f_63, c_63, a_65, p_65, f_65, c_65, a_67, p_67, f_67, c_67, a_69, p_69, f_69, c_69, a_71, p_71, f_71, c_71, a_73, p_73, f_73, c_73, c_1, i_1, w_1, z0_1, z1_1, c_2, i_2, w_2, z0_2, z1_2, c_4, i_4, w_4, z0_4, z1_4, c_6, i_6, w_6, z0_6, z1_6, c_13, i_13, w_13, z0_13, z1_13, c_20, i_20, w_20, z0_20, z1_20, c_27, i_27, w_27, z0_27, z1_27, c_28, i_28, w_28, z0_28, z1_28, c_29, i_29, w_29, z0_29, z1_29, c_42, i_42, w_42, z0_42, z1_42, c_43, i_43, w_43, z0_43, z1_43, c_52, i_52, w_52, z0_52, z1_52, X1_size, X1_literal, X1_numberOfStep, X1_ofFormula, X1_inAll, X1_user, X9_codeOf, X1_firstUse, X1_endOfUses, X2_open, X2_at, X2_add, X2_drop, X2_clear, X4_fuelLeft, X4_isActive, X4_isMarked, X4_mark, X4_usedCount, X4_usedAt, X4_setActive, X4_forget, X4_truthOf, h4, if_pos, hnx, show b2 true = 1 from rfl, show b2 false = 0 from rfl, if_neg (show ¬ (1 : Int32) = 0 by decide), hsp, fX8_putBack, A28.1, hZ, fX5_readTextProof_58, if_neg i300, fX5_blameStepTooMany, hnz, hfl', h24, fX5_readTextProof_91, nI_1]
        have hMl : fX10_readText_0 (m' + 2) 75 (st I' v' J') = bnd (fX10_number 75 (st M v' J')) fun q13 => fX10_readText_46 (fX10_readText_0 (m' + 1)) 75 0 q13.1 q13.2 := by
          conv => lhs; unfold fX10_readText_0
          simp only [bnd_x, gd_0, gd_1, gd_o0, gd_o1, ite_self, rf_75_1, rf_75_3, rf_75_12, rf_75_13, rf_75_14, rf_75_15, rf_75_16, rf_75_17, rf_75_18, rf_75_22, rf_75_23, rf_75_24, rf_75_25, rf_75_31, rf_75_32, rf_75_41, rf_75_42, rf_75_43, rf_75_44, rf_75_45, rf_75_46, rf_75_47, rf_75_48, rf_75_53, rf_75_54, rf_75_55, rf_75_57, c_75, i_75, w_75, z0_75, z1_75, h6, if_pos, hmx, show b2 true = 1 from rfl, show b2 false = 0 from rfl, if_neg (show ¬ (1 : Int32) = 0 by decide), hwd, h26]
        rw [n1, bnd_x] at hMl
        have h61 : ∀ (y : Int32) (X : Nat → Nat → Int32), X = M ∨ (y ≠ 0 ∧ X = wg M y (nI P)) → fX10_readText_61 (fX10_readText_0 (m' + 1)) 75 0 (st X v' J') = fX10_readText_0 (m' + 1) 75 (st (if X 75 8 = 0 then wg M 2 (nI P) else X) v' J') := by
          intro y X hX
          unfold fX10_readText_61
          rcases hX with rfl | ⟨hy, rfl⟩
          · simp only [bnd_x, gd_0, gd_1, gd_o0, gd_o1, ite_self, rf_75_1, rf_75_3, rf_75_12, rf_75_13, rf_75_14, rf_75_15, rf_75_16, rf_75_17, rf_75_18, rf_75_22, rf_75_23, rf_75_24, rf_75_25, rf_75_31, rf_75_32, rf_75_41, rf_75_42, rf_75_43, rf_75_44, rf_75_45, rf_75_46, rf_75_47, rf_75_48, rf_75_53, rf_75_54, rf_75_55, rf_75_57, c_75, i_75, w_75, z0_75, z1_75, M75.1, wrong_ok, h70w 0 2 (by decide), M8, if_pos]
          · simp only [bnd_x, gd_0, gd_1, gd_o0, gd_o1, ite_self, rf_75_1, rf_75_3, rf_75_12, rf_75_13, rf_75_14, rf_75_15, rf_75_16, rf_75_17, rf_75_18, rf_75_22, rf_75_23, rf_75_24, rf_75_25, rf_75_31, rf_75_32, rf_75_41, rf_75_42, rf_75_43, rf_75_44, rf_75_45, rf_75_46, rf_75_47, rf_75_48, rf_75_53, rf_75_54, rf_75_55, rf_75_57, c_75, i_75, w_75, z0_75, z1_75, wg6, wrong_ok, wgw y (nI P) 2 (nI P) hy, h70w 0 y hy, if_neg (w8 y hy (nI P))]
        by_cases hok : okN T P E = true
        · rw [if_pos hok] at hfl hMl
          obtain ⟨bb, c1, c2⟩ := vN_b hok
          have hx := n2 hok
          obtain ⟨g1, g2, g3⟩ := val_facts c1 c2
          obtain ⟨⟨g4, g5, g6⟩, g7⟩ := g3 150 (by omega)
          rw [g1] at hfl
          have e150 : nI 150 = (150 : Int32) := rfl
          rw [e150] at g4 g5 g6
          rw [hx] at hMl
          simp only at hMl
          unfold fX10_readText_46 at hMl
          by_cases hle : bb ≤ 150
          · rw [if_pos (g4.mpr hle)] at hfl
            rw [if_neg (fun q => by have := (g5.mp q).2; omega), if_pos (g6.mpr (Or.inl hle)), h70] at hMl
            exact fin 3 Y (by decide) y1 y2 (hCl 0 hfl) hMl
          · rw [if_neg (fun q => hle (g4.mp q))] at hfl
            have h61' := h61 1 M (Or.inl rfl)
            rw [if_pos M8] at h61'
            have hM2 : fX10_readText_0 (m' + 2) 75 (st I' v' J') = fX10_readText_0 (m' + 1) 75 (st (wg M 2 (nI P)) v' J') := by
              rw [hMl]
              split
              · exact h61'
              · rename_i q
                rw [if_neg, h61']
                intro q'
                rcases g6.mp q' with y | y
                · exact hle y
                · exact q (g5.mpr ⟨y, by omega⟩)
            exact fin 2 Y (by decide) y1 y2 (hCl 2 hfl) hM2
        · rw [if_neg hok] at hfl hMl
          have h61' := h61 1 (wg M 1 (nI P)) (Or.inr ⟨by decide, rfl⟩)
          rw [if_neg (w8 1 (by decide) (nI P))] at h61'
          have hM2 : fX10_readText_0 (m' + 2) 75 (st I' v' J') = fX10_readText_0 (m' + 1) 75 (st (wg M 1 (nI P)) v' J') := by
            rw [hMl]
            simp only
            unfold fX10_readText_46
            rw [h61', h70w 0 1 (by decide)]
            simp only [ite_self]
          exact fin 1 Y (by decide) y1 y2 (hCl 1 hfl) hM2
    · rw [decide_eq_false hlt] at hnx hmx
      refine ⟨A, M, n, e, w, d, ?_, ?_, hRC, ?_, FA, FM⟩
      · conv => lhs; unfold fX5_readTextProof_10
        rw [if_neg i301]
        simp only [bnd_x, gd_0, gd_1, gd_o0, gd_o1, ite_self, rf_1_0, rf_1_1, rf_1_5, rf_1_6, rf_1_7, rf_2_0, rf_4_0, rf_6_0, rf_6_1, rf_6_2, rf_7_0, rf_9_0, rf_11_0, rf_13_0, rf_13_1, rf_13_2, rf_14_0, rf_16_0, rf_18_0, rf_20_0, rf_20_1, rf_20_2, rf_21_0, rf_23_0, rf_25_0, rf_27_0, rf_29_0, rf_29_1, rf_29_2, rf_29_3, rf_29_4, rf_29_5, rf_30_0, rf_32_0, rf_34_0, rf_36_0, rf_38_0, rf_40_0, rf_42_0, rf_42_1, rf_42_2, rf_42_3, rf_43_0, rf_43_1, rf_43_2, rf_44_0, rf_46_0, rf_48_0, rf_50_0, rf_52_0, rf_52_1, rf_52_2, rf_52_3, rf_52_4, rf_52_5, rf_52_6, rf_52_7, rf_52_8, rf_52_9, rf_52_10, rf_52_11, rf_53_0, rf_55_0, rf_57_0, rf_59_0, rf_61_0, rf_63_0, rf_65_0, rf_67_0, rf_69_0, rf_71_0, rf_73_0, a_7, p_7, f_7, c_7, a_9, p_9, f_9, c_9, a_11, p_11, f_11, c_11, a_14, p_14, f_14, c_14, a_16, p_16, f_16, c_16, a_18, p_18, f_18, c_18, a_21, p_21, f_21, c_21, a_23, p_23, f_23, c_23, a_25, p_25, f_25, c_25, a_30, p_30, f_30, c_30, a_32, p_32, f_32, c_32, a_34, p_34, f_34, c_34, a_36, p_36, f_36, c_36, a_38, p_38, f_38, c_38, a_40, p_40, f_40, c_40, a_44, p_44, f_44, c_44, a_46, p_46, f_46, c_46, a_48, p_48, f_48, c_48, a_50, p_50, f_50, c_50, a_53, p_53, f_53, c_53, a_55, p_55, f_55, c_55, a_57, p_57, f_57, c_57, a_59, p_59, f_59, c_59, a_61, p_61, f_61, c_61, a_63, p_63, f_63, c_63, a_65, p_65, f_65, c_65, a_67, p_67, f_67, c_67, a_69, p_69, f_69, c_69, a_71, p_71, f_71, c_71, a_73, p_73, f_73, c_73, c_1, i_1, w_1, z0_1, z1_1, c_2, i_2, w_2, z0_2, z1_2, c_4, i_4, w_4, z0_4, z1_4, c_6, i_6, w_6, z0_6, z1_6, c_13, i_13, w_13, z0_13, z1_13, c_20, i_20, w_20, z0_20, z1_20, c_27, i_27, w_27, z0_27, z1_27, c_28, i_28, w_28, z0_28, z1_28, c_29, i_29, w_29, z0_29, z1_29, c_42, i_42, w_42, z0_42, z1_42, c_43, i_43, w_43, z0_43, z1_43, c_52, i_52, w_52, z0_52, z1_52, X1_size, X1_literal, X1_numberOfStep, X1_ofFormula, X1_inAll, X1_user, X9_codeOf, X1_firstUse, X1_endOfUses, X2_open, X2_at, X2_add, X2_drop, X2_clear, X4_fuelLeft, X4_isActive, X4_isMarked, X4_mark, X4_usedCount, X4_usedAt, X4_setActive, X4_forget, X4_truthOf, h4, if_pos, hnx, show b2 false = 0 from rfl]
      · conv => lhs; unfold fX10_readText_0
        simp only [bnd_x, gd_0, gd_1, gd_o0, gd_o1, ite_self, rf_75_1, rf_75_3, rf_75_12, rf_75_13, rf_75_14, rf_75_15, rf_75_16, rf_75_17, rf_75_18, rf_75_22, rf_75_23, rf_75_24, rf_75_25, rf_75_31, rf_75_32, rf_75_41, rf_75_42, rf_75_43, rf_75_44, rf_75_45, rf_75_46, rf_75_47, rf_75_48, rf_75_53, rf_75_54, rf_75_55, rf_75_57, c_75, i_75, w_75, z0_75, z1_75, h6, if_pos, hmx, show b2 false = 0 from rfl]
      · exact ⟨by rw [A7, M8], fun _ => by rw [Ane 27 (by decide)]; exact h5, fun q => absurd A7 q⟩
  | succ k ih =>
    intro n m m' t pos I I' e w d hn hm hm' h h30
    obtain ⟨m, rfl⟩ : ∃ q, m = q + 2 := ⟨m - 2, by omega⟩
    obtain ⟨m', rfl⟩ : ∃ q, m' = q + 2 := ⟨m' - 2, by omega⟩
    obtain ⟨h1, h2, h3, h4, h5, h6, h7, h8, h9, h10, h11, h12, h13⟩ := h
    have hL := h3.1
    have hnx := next_c (v := v) (J := J) v3 hb h2.1 h2.2.1 h12 h11
    have hmx := next_m (v := v') (J := J') h3 h13 h11
    generalize hP : sk T L pos = P at *
    have hPL : P ≤ L := by rw [← hP]; exact sk_le h11
    generalize hE : en T L P = E at *
    have hEL : E ≤ L := by rw [← hE]; exact en_le hPL
    generalize hA : tk I T L P = A at *
    generalize hM : tm I' T L P = M at *
    have Ane : ∀ q, q ≠ 28 → A q = I q := fun q hq => by rw [← hA]; exact tk_ne hq
    have A28 : A 28 2 = nI P ∧ A 28 3 = nI E := by rw [← hA, ← hE]; exact ⟨tk_28.1, tk_28.2.1⟩
    have FA : FCr I A f := by rw [← hA]; exact tk_F hf
    have FM : FMr I' M := by rw [← hM]; exact tm_F
    have Mne : ∀ q, q ≠ 75 → M q = I' q := fun q hq => by rw [← hM]; exact tm_ne hq
    have M75 : M 75 6 = nI P ∧ M 75 5 = nI E ∧ M 75 7 = nI E ∧ ∀ j, j ≠ 5 → j ≠ 6 → j ≠ 7 → M 75 j = I' 75 j := by rw [← hM, ← hE]; exact tm_75
    have hRC : RCl A M f n e w d := RCl_fr h1 (fun q q1 q2 => Ane q (by omega)) (M75.2.2.2 26 (by decide) (by decide) (by decide)) (M75.2.2.2 27 (by decide) (by decide) (by decide)) Mne
    have M8 : M 75 8 = 0 := by rw [M75.2.2.2 8 (by decide) (by decide) (by decide)]; exact h6
    have A7 : A 27 7 = 0 := by rw [Ane 27 (by decide)]; exact h4
    have A8 : A 27 8 = -1 := by rw [Ane 27 (by decide)]; exact h5
    have A6 : A 27 6 = nI t := by rw [Ane 27 (by decide)]; exact h7
    have M28 : M 75 28 = nI t := by rw [M75.2.2.2 28 (by decide) (by decide) (by decide)]; exact h8
    have M30 : M 75 30 = nI 150 := by rw [M75.2.2.2 30 (by decide) (by decide) (by decide)]; exact h30
    have hTA := CS_fr hb hf h2 FA
    have hRM := RT_F h3 FM
    have i301 : ¬ (301 : Int32) < nI (n + 1) := nI_nlt (a := 301) (b := n + 1) (by omega) (by decide)
    by_cases hlt : P < L
    · have hPE : P < E := by
        rw [← hE]
        apply en_gt hlt
        have := (sk_bl (T := T) (n := L) L pos (by omega) (by rw [hP]; exact hlt)).1
        rw [hP] at this; exact this
      rw [decide_eq_true hlt] at hnx hmx
      have hsp := spells_c (v := v) (J := J) (k := 2) (by decide) v3 hb hTA.1 A28.1 A28.2 hPE hEL
      have hwd := word1_m (v := v') (J := J') hRM M75.1 M75.2.2.1 hPE hEL 100
      rw [← wd_2 (T := T)] at hwd
      have i300 : nI (n + 1) ≤ (300 : Int32) := nI_le (b := 300) (by omega) (by decide)
      have h26 : ¬ M 75 26 = 300 := by rw [hRC.2.2.2.1]; exact fun q => absurd ((nI_eq (a := n) (b := 300) (by omega) (by decide)).mp q) (by omega)
      have hop := open_m (v := v') (J := J') hRC.2.2.2.1 hRC.2.2.2.2.1 (show n < 300 by omega)
      have op26 : opn M n (e n) 75 26 = nI (n + 1) := by unfold opn; rw [up_at, vup_n (by decide), up_ne (by decide), up_ne (by decide), up_ne (by decide), up_self]
      -- the rest, behind the row
      have rest : ∀ (Z : Nat → Nat → Int32) (B : Option zS) (x : Bool), FCr I Z f → RWD v v' J J' b T L f n (fX5_readRow 27 (nI 150) (st Z v J)) (b2 x) B Z M → fX5_readTextProof_10 (m + 2) 27 (nI (n + 1)) (st I v J) = (bnd (fX5_readRow 27 (nI 150) (st Z v J)) fun q19 => bnd (qR q19 5 27 2) fun x22 => bnd (cl q19 7 x22 (fX7_closeRow x22 (b2 x) q19)) fun q25 => fX5_readTextProof_10 (m + 1) 27 (nI (n + 1 + 1)) q25) → fX10_readText_0 (m' + 2) 75 (st I' v' J') = (bnd B fun q28 => fX10_readText_0 (m' + 1) 75 q28) → PEND v v' J J' f (fX5_readTextProof_10 (m + 2) 27 (nI (n + 1)) (st I v J)) (fX10_readText_0 (m' + 2) 75 (st I' v' J')) I I' := by
        intro Z B x fz hw y1 y2
        obtain ⟨X, I1, I2, e', w', d', r1, r2, r3, r4, r5, r6, r7, r8⟩ := hw
        have y1' : fX5_readTextProof_10 (m + 2) 27 (nI (n + 1)) (st I v J) = fX5_readTextProof_10 (m + 1) 27 (nI (n + 1 + 1)) (st I1 v J) := by
          rw [y1, r1]
          simp only [bnd_x, rv_27_2 hf0, v2, cl_st (sh_f hf).1, r2]
        have y2' : fX10_readText_0 (m' + 2) 75 (st I' v' J') = fX10_readText_0 (m' + 1) 75 (st I2 v' J') := by
          rw [y2, r3]
          simp only [bnd_x]
        rw [y1', y2']
        rcases r8 with z | ⟨t', pos', z⟩
        · exact ⟨I1, I2, n + 1, e', w', d', textC_end z m _, textM_end (by rw [← r7.1]; exact z) m', r6, r7, FCr_t fz r4, FMr_t FM r5⟩
        · exact PEND_t (ih (n + 1) (m + 1) (m' + 1) t' pos' I1 I2 e' w' d' (by omega) (by omega) (by omega) z (by rw [r5.2 30 (by omega)]; exact M30)) (FCr_t fz r4) (FMr_t FM r5)
      cases hd : wd T P E 2 with
      | true =>
        rw [hd] at hsp hwd
        have hRS : RST A M b T L f n e w d t E := ⟨hRC, hTA, hRM, A7, A8, M8, A6, M28, h9, h10, hEL, A28.2, M75.2.1⟩
        have hrw := row_of (v := v) (v' := v') (J := J) (J' := J') (bd := 150) hv (by omega) hRS M30 (show n < 300 by omega) true
        refine rest A _ true FA hrw ?_ ?_
        · conv => lhs; unfold fX5_readTextProof_10
          rw [if_neg i301]
          simp only [bnd_x, gd_0, gd_1, gd_o0, gd_o1, ite_self, rf_1_0, rf_1_1, rf_1_5, rf_1_6, rf_1_7, rf_2_0, rf_4_0, rf_6_0, rf_6_1, rf_6_2, rf_7_0, rf_9_0, rf_11_0, rf_13_0, rf_13_1, rf_13_2, rf_14_0, rf_16_0, rf_18_0, rf_20_0, rf_20_1, rf_20_2, rf_21_0, rf_23_0, rf_25_0, rf_27_0, rf_29_0, rf_29_1, rf_29_2, rf_29_3, rf_29_4, rf_29_5, rf_30_0, rf_32_0, rf_34_0, rf_36_0, rf_38_0, rf_40_0, rf_42_0, rf_42_1, rf_42_2, rf_42_3, rf_43_0, rf_43_1, rf_43_2, rf_44_0, rf_46_0, rf_48_0, rf_50_0, rf_52_0, rf_52_1, rf_52_2, rf_52_3, rf_52_4, rf_52_5, rf_52_6, rf_52_7, rf_52_8, rf_52_9, rf_52_10, rf_52_11, rf_53_0, rf_55_0, rf_57_0, rf_59_0, rf_61_0, rf_63_0, rf_65_0, rf_67_0, rf_69_0, rf_71_0, rf_73_0, a_7, p_7, f_7, c_7, a_9, p_9, f_9, c_9, a_11, p_11, f_11, c_11, a_14, p_14, f_14, c_14, a_16, p_16, f_16, c_16, a_18, p_18, f_18, c_18, a_21, p_21, f_21, c_21, a_23, p_23, f_23, c_23, a_25, p_25, f_25, c_25, a_30, p_30, f_30, c_30, a_32, p_32, f_32, c_32, a_34, p_34, f_34, c_34, a_36, p_36, f_36, c_36, a_38, p_38, f_38, c_38, a_40, p_40, f_40, c_40, a_44, p_44, f_44, c_44, a_46, p_46, f_46, c_46, a_48, p_48, f_48, c_48, a_50, p_50, f_50, c_50, a_53, p_53, f_53, c_53, a_55, p_55, f_55, c_55, a_57, p_57, f_57, c_57, a_59, p_59, f_59, c_59, a_61, p_61, f_61, c_61, a_63, p_63, f_63, c_63, a_65, p_65, f_65, c_65, a_67, p_67, f_67, c_67, a_69, p_69, f_69, c_69, a_71, p_71, f_71, c_71, a_73, p_73, f_73, c_73, c_1, i_1, w_1, z0_1, z1_1, c_2, i_2, w_2, z0_2, z1_2, c_4, i_4, w_4, z0_4, z1_4, c_6, i_6, w_6, z0_6, z1_6, c_13, i_13, w_13, z0_13, z1_13, c_20, i_20, w_20, z0_20, z1_20, c_27, i_27, w_27, z0_27, z1_27, c_28, i_28, w_28, z0_28, z1_28, c_29, i_29, w_29, z0_29, z1_29, c_42, i_42, w_42, z0_42, z1_42, c_43, i_43, w_43, z0_43, z1_43, c_52, i_52, w_52, z0_52, z1_52, X1_size, X1_literal, X1_numberOfStep, X1_ofFormula, X1_inAll, X1_user, X9_codeOf, X1_firstUse, X1_endOfUses, X2_open, X2_at, X2_add, X2_drop, X2_clear, X4_fuelLeft, X4_isActive, X4_isMarked, X4_mark, X4_usedCount, X4_usedAt, X4_setActive, X4_forget, X4_truthOf, h4, if_pos, hnx, show b2 true = 1 from rfl, if_neg (show ¬ (1 : Int32) = 0 by decide), hsp, fX5_readTextProof_58, if_pos i300, fX5_readTextProof_91, nI_1]
          rfl
        · conv => lhs; unfold fX10_readText_0
          simp only [bnd_x, gd_0, gd_1, gd_o0, gd_o1, ite_self, rf_75_1, rf_75_3, rf_75_12, rf_75_13, rf_75_14, rf_75_15, rf_75_16, rf_75_17, rf_75_18, rf_75_22, rf_75_23, rf_75_24, rf_75_25, rf_75_31, rf_75_32, rf_75_41, rf_75_42, rf_75_43, rf_75_44, rf_75_45, rf_75_46, rf_75_47, rf_75_48, rf_75_53, rf_75_54, rf_75_55, rf_75_57, c_75, i_75, w_75, z0_75, z1_75, h6, if_pos, hmx, show b2 true = 1 from rfl, if_neg (show ¬ (1 : Int32) = 0 by decide), hwd, if_neg h26, fX10_readText_79, M8, hop, op26, uz_88 (show n + 1 < 301 by omega) (Or.inr rfl), fX10_readText_110, fX10_readText_113]
      | false =>
        rw [hd] at hsp hwd
        generalize hZ : up A 28 3 (nI P) = Z
        have z1 : ∀ q, q ≠ 28 → Z q = A q := fun q hq => by rw [← hZ, up_ne hq]
        have z2 : FCr A Z f := by rw [← hZ]; exact FCr_28 hf (by decide)
        have hTZ := CS_fr hb hf hTA z2
        have hrw := row_of1 (v := v) (v' := v') (J := J) (J' := J') (bd := 150) (pos := P) hv (by omega) (RCl_fr (I2 := M) hRC (fun q q1 q2 => z1 q (by omega)) rfl rfl (fun _ _ => rfl)) hTZ hRM (by rw [z1 27 (by decide)]; exact A7) (by rw [z1 27 (by decide)]; exact A8) M8 (by rw [z1 27 (by decide)]; exact A6) M28 h9 h10 hlt (sk_self hP hlt) (by rw [← hZ, up_self]) (by rw [hE]; exact M75.2.1) M75.1 (by rw [hE]; exact M75.2.2.1) M30 (show n < 300 by omega) false
        refine rest Z _ false (FCr_t FA z2) hrw ?_ ?_
        · conv => lhs; unfold fX5_readTextProof_10
          rw [if_neg i301]
          simp only [bnd_x, gd_0, gd_1, gd_o0, gd_o1, ite_self, rf_1_0, rf_1_1, rf_1_5, rf_1_6, rf_1_7, rf_2_0, rf_4_0, rf_6_0, rf_6_1, rf_6_2, rf_7_0, rf_9_0, rf_11_0, rf_13_0, rf_13_1, rf_13_2, rf_14_0, rf_16_0, rf_18_0, rf_20_0, rf_20_1, rf_20_2, rf_21_0, rf_23_0, rf_25_0, rf_27_0, rf_29_0, rf_29_1, rf_29_2, rf_29_3, rf_29_4, rf_29_5, rf_30_0, rf_32_0, rf_34_0, rf_36_0, rf_38_0, rf_40_0, rf_42_0, rf_42_1, rf_42_2, rf_42_3, rf_43_0, rf_43_1, rf_43_2, rf_44_0, rf_46_0, rf_48_0, rf_50_0, rf_52_0, rf_52_1, rf_52_2, rf_52_3, rf_52_4, rf_52_5, rf_52_6, rf_52_7, rf_52_8, rf_52_9, rf_52_10, rf_52_11, rf_53_0, rf_55_0, rf_57_0, rf_59_0, rf_61_0, rf_63_0, rf_65_0, rf_67_0, rf_69_0, rf_71_0, rf_73_0, a_7, p_7, f_7, c_7, a_9, p_9, f_9, c_9, a_11, p_11, f_11, c_11, a_14, p_14, f_14, c_14, a_16, p_16, f_16, c_16, a_18, p_18, f_18, c_18, a_21, p_21, f_21, c_21, a_23, p_23, f_23, c_23, a_25, p_25, f_25, c_25, a_30, p_30, f_30, c_30, a_32, p_32, f_32, c_32, a_34, p_34, f_34, c_34, a_36, p_36, f_36, c_36, a_38, p_38, f_38, c_38, a_40, p_40, f_40, c_40, a_44, p_44, f_44, c_44, a_46, p_46, f_46, c_46, a_48, p_48, f_48, c_48, a_50, p_50, f_50, c_50, a_53, p_53, f_53, c_53, a_55, p_55, f_55, c_55, a_57, p_57, f_57, c_57, a_59, p_59, f_59, c_59, a_61, p_61, f_61, c_61, a_63, p_63, f_63, c_63, a_65, p_65, f_65, c_65, a_67, p_67, f_67, c_67, a_69, p_69, f_69, c_69, a_71, p_71, f_71, c_71, a_73, p_73, f_73, c_73, c_1, i_1, w_1, z0_1, z1_1, c_2, i_2, w_2, z0_2, z1_2, c_4, i_4, w_4, z0_4, z1_4, c_6, i_6, w_6, z0_6, z1_6, c_13, i_13, w_13, z0_13, z1_13, c_20, i_20, w_20, z0_20, z1_20, c_27, i_27, w_27, z0_27, z1_27, c_28, i_28, w_28, z0_28, z1_28, c_29, i_29, w_29, z0_29, z1_29, c_42, i_42, w_42, z0_42, z1_42, c_43, i_43, w_43, z0_43, z1_43, c_52, i_52, w_52, z0_52, z1_52, X1_size, X1_literal, X1_numberOfStep, X1_ofFormula, X1_inAll, X1_user, X9_codeOf, X1_firstUse, X1_endOfUses, X2_open, X2_at, X2_add, X2_drop, X2_clear, X4_fuelLeft, X4_isActive, X4_isMarked, X4_mark, X4_usedCount, X4_usedAt, X4_setActive, X4_forget, X4_truthOf, h4, if_pos, hnx, show b2 true = 1 from rfl, show b2 false = 0 from rfl, if_neg (show ¬ (1 : Int32) = 0 by decide), hsp, fX8_putBack, A28.1, hZ, fX5_readTextProof_58, if_pos i300, fX5_readTextProof_91, nI_1]
          rfl
        · conv => lhs; unfold fX10_readText_0
          simp only [bnd_x, gd_0, gd_1, gd_o0, gd_o1, ite_self, rf_75_1, rf_75_3, rf_75_12, rf_75_13, rf_75_14, rf_75_15, rf_75_16, rf_75_17, rf_75_18, rf_75_22, rf_75_23, rf_75_24, rf_75_25, rf_75_31, rf_75_32, rf_75_41, rf_75_42, rf_75_43, rf_75_44, rf_75_45, rf_75_46, rf_75_47, rf_75_48, rf_75_53, rf_75_54, rf_75_55, rf_75_57, c_75, i_75, w_75, z0_75, z1_75, h6, if_pos, hmx, show b2 true = 1 from rfl, show b2 false = 0 from rfl, if_neg (show ¬ (1 : Int32) = 0 by decide), hwd, if_neg h26, fX10_readText_79, M8, hop, op26, uz_88 (show n + 1 < 301 by omega) (Or.inl rfl), fX10_readText_110, fX10_readText_113]
    · rw [decide_eq_false hlt] at hnx hmx
      refine ⟨A, M, n, e, w, d, ?_, ?_, hRC, ?_, FA, FM⟩
      · conv => lhs; unfold fX5_readTextProof_10
        rw [if_neg i301]
        simp only [bnd_x, gd_0, gd_1, gd_o0, gd_o1, ite_self, rf_1_0, rf_1_1, rf_1_5, rf_1_6, rf_1_7, rf_2_0, rf_4_0, rf_6_0, rf_6_1, rf_6_2, rf_7_0, rf_9_0, rf_11_0, rf_13_0, rf_13_1, rf_13_2, rf_14_0, rf_16_0, rf_18_0, rf_20_0, rf_20_1, rf_20_2, rf_21_0, rf_23_0, rf_25_0, rf_27_0, rf_29_0, rf_29_1, rf_29_2, rf_29_3, rf_29_4, rf_29_5, rf_30_0, rf_32_0, rf_34_0, rf_36_0, rf_38_0, rf_40_0, rf_42_0, rf_42_1, rf_42_2, rf_42_3, rf_43_0, rf_43_1, rf_43_2, rf_44_0, rf_46_0, rf_48_0, rf_50_0, rf_52_0, rf_52_1, rf_52_2, rf_52_3, rf_52_4, rf_52_5, rf_52_6, rf_52_7, rf_52_8, rf_52_9, rf_52_10, rf_52_11, rf_53_0, rf_55_0, rf_57_0, rf_59_0, rf_61_0, rf_63_0, rf_65_0, rf_67_0, rf_69_0, rf_71_0, rf_73_0, a_7, p_7, f_7, c_7, a_9, p_9, f_9, c_9, a_11, p_11, f_11, c_11, a_14, p_14, f_14, c_14, a_16, p_16, f_16, c_16, a_18, p_18, f_18, c_18, a_21, p_21, f_21, c_21, a_23, p_23, f_23, c_23, a_25, p_25, f_25, c_25, a_30, p_30, f_30, c_30, a_32, p_32, f_32, c_32, a_34, p_34, f_34, c_34, a_36, p_36, f_36, c_36, a_38, p_38, f_38, c_38, a_40, p_40, f_40, c_40, a_44, p_44, f_44, c_44, a_46, p_46, f_46, c_46, a_48, p_48, f_48, c_48, a_50, p_50, f_50, c_50, a_53, p_53, f_53, c_53, a_55, p_55, f_55, c_55, a_57, p_57, f_57, c_57, a_59, p_59, f_59, c_59, a_61, p_61, f_61, c_61, a_63, p_63, f_63, c_63, a_65, p_65, f_65, c_65, a_67, p_67, f_67, c_67, a_69, p_69, f_69, c_69, a_71, p_71, f_71, c_71, a_73, p_73, f_73, c_73, c_1, i_1, w_1, z0_1, z1_1, c_2, i_2, w_2, z0_2, z1_2, c_4, i_4, w_4, z0_4, z1_4, c_6, i_6, w_6, z0_6, z1_6, c_13, i_13, w_13, z0_13, z1_13, c_20, i_20, w_20, z0_20, z1_20, c_27, i_27, w_27, z0_27, z1_27, c_28, i_28, w_28, z0_28, z1_28, c_29, i_29, w_29, z0_29, z1_29, c_42, i_42, w_42, z0_42, z1_42, c_43, i_43, w_43, z0_43, z1_43, c_52, i_52, w_52, z0_52, z1_52, X1_size, X1_literal, X1_numberOfStep, X1_ofFormula, X1_inAll, X1_user, X9_codeOf, X1_firstUse, X1_endOfUses, X2_open, X2_at, X2_add, X2_drop, X2_clear, X4_fuelLeft, X4_isActive, X4_isMarked, X4_mark, X4_usedCount, X4_usedAt, X4_setActive, X4_forget, X4_truthOf, h4, if_pos, hnx, show b2 false = 0 from rfl]
      · conv => lhs; unfold fX10_readText_0
        simp only [bnd_x, gd_0, gd_1, gd_o0, gd_o1, ite_self, rf_75_1, rf_75_3, rf_75_12, rf_75_13, rf_75_14, rf_75_15, rf_75_16, rf_75_17, rf_75_18, rf_75_22, rf_75_23, rf_75_24, rf_75_25, rf_75_31, rf_75_32, rf_75_41, rf_75_42, rf_75_43, rf_75_44, rf_75_45, rf_75_46, rf_75_47, rf_75_48, rf_75_53, rf_75_54, rf_75_55, rf_75_57, c_75, i_75, w_75, z0_75, z1_75, h6, if_pos, hmx, show b2 false = 0 from rfl]
      · exact ⟨by rw [A7, M8], fun _ => A8, fun q => absurd A7 q⟩
end
