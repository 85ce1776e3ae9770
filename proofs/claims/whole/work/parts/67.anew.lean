/-! All anew: numbers, users, nothing weighed. -/
section
variable {nf : Nat} {ef : Nat → Nat} {wf : Nat → Int32} {df : Nat → Bool} {np : Nat} {ep : Nat → Nat} {wp : Nat → Int32} {dp : Nat → Bool}
/-- nothing is weighed yet -/
def NW (I : Nat → Nat → Int32) : Prop := I 42 6 = -1 ∧ I 42 7 = -1 ∧ I 42 8 = -1 ∧ I 42 9 = 0 ∧ I 42 10 = 0 ∧ I 52 17 = 0 ∧ I 43 3 = 0 ∧ (∀ j, j < 601 → I 56 j = 0 ∧ I 47 j = 0 ∧ I 49 j = 0) ∧ (∀ j, j < 301 → I 51 j = 0)
theorem cfg_NW (I : Nat → Nat → Int32) : NW (cfg I) := by
  obtain ⟨c6, c7, c8, c9, c10, cj⟩ := cfg_42 (I := I)
  obtain ⟨r52, r43, r56, r51⟩ := cfg_r (I := I)
  exact ⟨c6, c7, c8, c9, c10, by rw [r52, vup_s], r43, r56, r51⟩
theorem OKD_of {I' : Nat → Nat → Int32} (hF : OKS nf ef wf) (hP : OKS np ep wp) {N : Nat} (hN : N ≤ 600) {E : Nat → Nat} {W : Nat → Int32} (h : ∀ k, 1 ≤ k → k ≤ N → DK I' nf ef wf np ep wp E W k) : OKD N (fun k => E k - E (k - 1)) (fun k j => W (E (k - 1) + j)) := by
  refine ⟨hN, fun k k1 k2 => ?_⟩
  obtain ⟨h1, h2, h3⟩ := h k k1 k2
  have key : ∀ (n : Nat) (e : Nat → Nat) (w : Nat → Int32) (i : Nat), OKS n e w → 1 ≤ i → i ≤ n → E k - E (k - 1) = e i - e (i - 1) → (∀ j, j < E k - E (k - 1) → W (E (k - 1) + j) = w (e (i - 1) + j)) → E k - E (k - 1) ≤ 40 ∧ (∀ j, j < E k - E (k - 1) → isL (W (E (k - 1) + j))) ∧ (∀ i j, i < j → j < E k - E (k - 1) → W (E (k - 1) + i) ≠ W (E (k - 1) + j)) := by
    intro n e w i hS i1 i2 hs hw
    obtain ⟨q1, q2, q3, q4⟩ := hS.2.2.2 i i1 i2
    refine ⟨by omega, fun j hj => by rw [hw j hj]; exact q3 _ (by omega) (by omega), fun a b hab hb => ?_⟩
    rw [hw a (by omega), hw b hb]
    exact q4 _ _ (by omega) (by omega) (by omega)
  by_cases c : k ≤ nf
  · obtain ⟨a1, a2⟩ := h2 c
    exact key nf ef wf k hF k1 c a1 a2
  · obtain ⟨i, i1, i2, i3, i4, i5⟩ := h3 (by omega)
    exact key np ep wp i hP i1 i2 i4 i5
theorem DBC_of {I : Nat → Nat → Int32} {N : Nat} {E : Nat → Nat} {W : Nat → Int32} (hN : N ≤ 600) (hC : CL I N E W) (hE : E N ≤ 4000) (hm : ∀ k, 1 ≤ k → k ≤ N → E (k - 1) ≤ E k) (hmo : ∀ k, k ≤ N → E k ≤ E N) : DBC I N (fun k => E k - E (k - 1)) (fun k j => W (E (k - 1) + j)) ∧ DBE I N (fun k => E k - E (k - 1)) (fun k j => W (E (k - 1) + j)) := by
  obtain ⟨c1, c2, c3, c4⟩ := hC
  have s : ∀ k, 1 ≤ k → k ≤ N → rd I 32 (nI k) = nI (E k) ∧ rd I 32 (nI k - 1) = nI (E (k - 1)) ∧ clSize I (nI k) = nI (E k - E (k - 1)) := by
    intro k k1 k2
    have a1 : rd I 32 (nI k) = nI (E k) := by rw [rd_32 (show k < 601 by omega)]; exact c3 k k2
    have a2 : rd I 32 (nI k - 1) = nI (E (k - 1)) := by rw [zz_p k1, rd_32 (show k - 1 < 601 by omega)]; exact c3 (k - 1) (by omega)
    exact ⟨a1, a2, by unfold clSize; rw [a1, a2, nI_sub (hm k k1 k2)]⟩
  refine ⟨⟨c1, fun k k1 k2 => (s k k1 k2).2.2, fun k j k1 k2 hj => ?_⟩, E, fun k k1 k2 => ⟨c3 (k - 1) (by omega), c3 k k2, by have := hm k k1 k2; show E k = E (k - 1) + (E k - E (k - 1)); omega, by have := hmo k k2; omega, fun j hj => c4 _ (by have := hmo k k2; simp only at hj; omega)⟩⟩
  simp only at hj
  have hb := hmo k k2
  unfold clLit
  rw [if_neg (nI_pos (by omega)), (s k k1 k2).2.2, if_neg (nI_ge hj (by omega)), (s k k1 k2).2.1, nI_add, rd_30 (by omega)]
  exact c4 _ (by omega)
theorem anew_lock {v v' : zV} {J J' : Nat → Nat → Int64} {I I' : Nat → Nat → Int32} (hf : isSh v.1 = true) (hp : isSh v.2.1 = true) (hFO : OKS nf ef wf) (hPO : OKS np ep wp) (hF : SHC I v.1 nf ef wf df) (hP : SHC I v.2.1 np ep wp dp) (rF : SHR I' 78 79 80 nf ef wf) (h19 : I' 75 19 = nI nf) (rP : SHR I' 81 82 83 np ep wp) (h20 : I' 75 20 = nI np) (h84 : ∀ q, 1 ≤ q → q ≤ np → I' 84 q = b2 (dp q)) (h33 : I 33 0 = 0) :
    ∃ I1 I2 N sz lt, fX9_startAnew 1 (st I v J) = some (st I1 (v.1, v.2.1, v.2.2.1, v.2.2.2.1, v.2.2.2.2.1, v.2.2.2.2.2.1, v.2.1) J) ∧ fX10_number0 75 (st I' v' J') = some (st I2 v' J') ∧ S0 I1 I2 v.2.1 N sz lt np ∧ NW I1 ∧ nf ≤ N ∧ I1 29 8 = nI nf ∧ I1 33 0 = 0 ∧ (∀ a, a < 29 ∨ 74 < a → I1 a = I a) ∧ (∀ j, j ≠ 33 → I2 75 j = I' 75 j) ∧ (∀ a, a ≠ 75 → a ≠ 89 → a ≠ 90 → I2 a = I' a) := by
  have hz := zfu_big
  have hf0 : v.1 ≠ 0 := by rcases isSh_i hf with q | q | q <;> rw [q] <;> decide
  have hp0 : v.2.1 ≠ 0 := by rcases isSh_i hp with q | q | q <;> rw [q] <;> decide
  have hfl : v.1 + 6 < 29 := by rcases isSh_i hf with q | q | q <;> omega
  have hpl : v.2.1 + 6 < 29 := by rcases isSh_i hp with q | q | q <;> omega
  have hn := hFO.1
  have hnp := hPO.1
  generalize hw : (v.1, v.2.1, v.2.2.1, v.2.2.2.1, v.2.2.2.2.1, v.2.2.2.2.2.1, v.2.1) = w
  have hw7 : w.2.2.2.2.2.2 = v.2.1 := by rw [← hw]
  generalize hB : up (up (up I 29 7 0) 29 9 0) 29 8 (nI nf) = B
  have Bne : ∀ a, a ≠ 29 → B a = I a := fun a ha => by rw [← hB, up_ne ha, up_ne ha, up_ne ha]
  have B29 : B 29 7 = nI 0 ∧ B 29 9 = nI 0 ∧ B 29 8 = nI nf := by
    rw [← hB]
    refine ⟨?_, ?_, up_self ..⟩
    · rw [up_at, vup_n (by decide), up_at, vup_n (by decide), up_self]; rfl
    · rw [up_at, vup_n (by decide), up_self]; rfl
  have h330 : I 33 0 = nI 0 := h33
  have hFB : SHC B v.1 nf ef wf df := SHC_fr hF (fun r r1 r2 => Bne r (by omega))
  obtain ⟨Ia, Ea, Wa, a1, a2, a3, a4, a5, a6, a7, a8⟩ := formula_loop (v := w) (J := J) (np := np) (ep := ep) (wp := wp) hf hFO (up I' 75 33 (nI nf)) nf 1 zfu B (fun _ => 0) (fun _ => 0) (by omega) (by omega) (by omega) hFB B29.2.2 ⟨B29.2.1, B29.1, fun k hk => by rw [show k = 0 by omega, Bne 33 (by decide)]; exact h330, fun p hp => by simp at hp⟩ (by rw [show 1 - 1 = 0 from rfl]; exact hFO.2.1.symm) rfl (fun _ _ => Nat.le_refl _) (fun k k1 k2 => by omega)
  have hPa : SHC Ia w.2.2.2.2.2.2 np ep wp dp := by
    rw [hw7]
    exact SHC_fr hP (fun r r1 r2 => by rw [a8 r (by omega) (by omega) (by omega), Bne r (by omega)])
  obtain ⟨Ib, Ib', N, E, W, b1, b2, b3, b4, b5, b6, b7, b8, b9, b10, b11, b12, b13, b14, b15⟩ := steps_loop (v := w) (v' := v') (J := J) (J' := J') (ef := ef) (wf := wf) (by rw [hw7]; exact hp) hPO hn hFO.2.2.1 np 1 zfu zfu nf Ia (up I' 75 33 (nI nf)) Ea Wa (by omega) (by omega) (by omega) (by omega) hPa (by rw [up_at, vup_n (by decide)]; exact h20) (by rw [up_ne (by decide)]; exact h84) (by rw [up_self]) (by omega) (by omega) a2 (by rw [a3, hPO.2.1] <;> have := hFO.2.2.1 <;> omega) a4 a5 a6 (fun q q1 q2 => by omega)
  rw [show nI 1 = (1 : Int32) from rfl] at a1 b1 b2
  have hm : ∀ k, 1 ≤ k → k ≤ N → E (k - 1) ≤ E k := fun k k1 k2 => (b10 k k1 k2).1
  have hOKD := OKD_of hFO hPO b3 b10
  obtain ⟨hDBC, hDBE⟩ := DBC_of b3 b6 b7 hm b9
  have hWL : ∀ p, p < E N → isL (W p) := by
    have : ∀ k, k ≤ N → ∀ p, p < E k → isL (W p) := by
      intro k
      induction k with
      | zero => intro _ p hp; rw [b8] at hp; omega
      | succ k ih =>
        intro hk p hp
        by_cases c : p < E k
        · exact ih (by omega) p c
        · have := (hOKD.2 (k + 1) (by omega) hk).2.1 (p - E k) (by simp only [Nat.add_sub_cancel]; omega)
          simp only [Nat.add_sub_cancel] at this
          rw [show E k + (p - E k) = p by omega] at this
          exact this
    exact this N (Nat.le_refl _)
  obtain ⟨Ic, c1, c2, c3⟩ := list_ok (v := w) (J := J) hOKD hDBC b6 b7 (fun k k1 k2 => ⟨by have := hm k k1 k2; show E k = E (k - 1) + (E k - E (k - 1)); omega, fun j hj => rfl⟩) b9 hWL
  refine ⟨cfg Ic, Ib', N, _, _, ?_, ?_, ⟨hOKD, ?_, ?_, ?_, ⟨hp, ?_, hnp, ?_, ?_, ?_⟩, ?_⟩, cfg_NW Ic, b4, ?_, ?_, ?_, ?_, ?_⟩
  · unfold fX9_startAnew
    simp only [bnd_x, gd_0, gd_1, gd_o0, gd_o1, ite_self, rf_1_0, rf_1_1, rf_1_5, rf_1_6, rf_1_7, rf_2_0, rf_4_0, rf_6_0, rf_6_1, rf_6_2, rf_7_0, rf_9_0, rf_11_0, rf_13_0, rf_13_1, rf_13_2, rf_14_0, rf_16_0, rf_18_0, rf_20_0, rf_20_1, rf_20_2, rf_21_0, rf_23_0, rf_25_0, rf_27_0, rf_29_0, rf_29_1, rf_29_2, rf_29_3, rf_29_4, rf_29_5, rf_30_0, rf_32_0, rf_34_0, rf_36_0, rf_38_0, rf_40_0, rf_42_0, rf_42_1, rf_42_2, rf_42_3, rf_43_0, rf_43_1, rf_43_2, rf_44_0, rf_46_0, rf_48_0, rf_50_0, rf_52_0, rf_52_1, rf_52_2, rf_52_3, rf_52_4, rf_52_5, rf_52_6, rf_52_7, rf_52_8, rf_52_9, rf_52_10, rf_52_11, rf_53_0, rf_55_0, rf_57_0, rf_59_0, rf_61_0, rf_63_0, rf_65_0, rf_67_0, rf_69_0, rf_71_0, rf_73_0, a_7, p_7, f_7, c_7, a_9, p_9, f_9, c_9, a_11, p_11, f_11, c_11, a_14, p_14, f_14, c_14, a_16, p_16, f_16, c_16, a_18, p_18, f_18, c_18, a_21, p_21, f_21, c_21, a_23, p_23, f_23, c_23, a_25, p_25, f_25, c_25, a_30, p_30, f_30, c_30, a_32, p_32, f_32, c_32, a_34, p_34, f_34, c_34, a_36, p_36, f_36, c_36, a_38, p_38, f_38, c_38, a_40, p_40, f_40, c_40, a_44, p_44, f_44, c_44, a_46, p_46, f_46, c_46, a_48, p_48, f_48, c_48, a_50, p_50, f_50, c_50, a_53, p_53, f_53, c_53, a_55, p_55, f_55, c_55, a_57, p_57, f_57, c_57, a_59, p_59, f_59, c_59, a_61, p_61, f_61, c_61, a_63, p_63, f_63, c_63, a_65, p_65, f_65, c_65, a_67, p_67, f_67, c_67, a_69, p_69, f_69, c_69, a_71, p_71, f_71, c_71, a_73, p_73, f_73, c_73, c_1, i_1, w_1, z0_1, z1_1, c_2, i_2, w_2, z0_2, z1_2, c_4, i_4, w_4, z0_4, z1_4, c_6, i_6, w_6, z0_6, z1_6, c_13, i_13, w_13, z0_13, z1_13, c_20, i_20, w_20, z0_20, z1_20, c_27, i_27, w_27, z0_27, z1_27, c_28, i_28, w_28, z0_28, z1_28, c_29, i_29, w_29, z0_29, z1_29, c_42, i_42, w_42, z0_42, z1_42, c_43, i_43, w_43, z0_43, z1_43, c_52, i_52, w_52, z0_52, z1_52, X1_size, X1_literal, X1_numberOfStep, X1_ofFormula, X1_inAll, X1_user, X9_codeOf, X1_firstUse, X1_endOfUses, X2_open, X2_at, X2_add, X2_drop, X2_clear, X4_fuelLeft, X4_isActive, X4_isMarked, X4_mark, X4_usedCount, X4_usedAt, X4_setActive, X4_forget, X4_truthOf, rv_1_2 hf0, rv_1_3 hp0]
    have hnum : fX1_numberAll 29 v.1 v.2.1 (st I v J) = some (st Ic w J) := by
      unfold fX1_numberAll
      simp only [wv_29_6 hp0, hw, bnd_x, gd_0, gd_1, gd_o0, gd_o1, ite_self, rf_1_0, rf_1_1, rf_1_5, rf_1_6, rf_1_7, rf_2_0, rf_4_0, rf_6_0, rf_6_1, rf_6_2, rf_7_0, rf_9_0, rf_11_0, rf_13_0, rf_13_1, rf_13_2, rf_14_0, rf_16_0, rf_18_0, rf_20_0, rf_20_1, rf_20_2, rf_21_0, rf_23_0, rf_25_0, rf_27_0, rf_29_0, rf_29_1, rf_29_2, rf_29_3, rf_29_4, rf_29_5, rf_30_0, rf_32_0, rf_34_0, rf_36_0, rf_38_0, rf_40_0, rf_42_0, rf_42_1, rf_42_2, rf_42_3, rf_43_0, rf_43_1, rf_43_2, rf_44_0, rf_46_0, rf_48_0, rf_50_0, rf_52_0, rf_52_1, rf_52_2, rf_52_3, rf_52_4, rf_52_5, rf_52_6, rf_52_7, rf_52_8, rf_52_9, rf_52_10, rf_52_11, rf_53_0, rf_55_0, rf_57_0, rf_59_0, rf_61_0, rf_63_0, rf_65_0, rf_67_0, rf_69_0, rf_71_0, rf_73_0, a_7, p_7, f_7, c_7, a_9, p_9, f_9, c_9, a_11, p_11, f_11, c_11, a_14, p_14, f_14, c_14, a_16, p_16, f_16, c_16, a_18, p_18, f_18, c_18, a_21, p_21, f_21, c_21, a_23, p_23, f_23, c_23, a_25, p_25, f_25, c_25, a_30, p_30, f_30, c_30, a_32, p_32, f_32, c_32, a_34, p_34, f_34, c_34, a_36, p_36, f_36, c_36, a_38, p_38, f_38, c_38, a_40, p_40, f_40, c_40, a_44, p_44, f_44, c_44, a_46, p_46, f_46, c_46, a_48, p_48, f_48, c_48, a_50, p_50, f_50, c_50, a_53, p_53, f_53, c_53, a_55, p_55, f_55, c_55, a_57, p_57, f_57, c_57, a_59, p_59, f_59, c_59, a_61, p_61, f_61, c_61, a_63, p_63, f_63, c_63, a_65, p_65, f_65, c_65, a_67, p_67, f_67, c_67, a_69, p_69, f_69, c_69, a_71, p_71, f_71, c_71, a_73, p_73, f_73, c_73, c_1, i_1, w_1, z0_1, z1_1, c_2, i_2, w_2, z0_2, z1_2, c_4, i_4, w_4, z0_4, z1_4, c_6, i_6, w_6, z0_6, z1_6, c_13, i_13, w_13, z0_13, z1_13, c_20, i_20, w_20, z0_20, z1_20, c_27, i_27, w_27, z0_27, z1_27, c_28, i_28, w_28, z0_28, z1_28, c_29, i_29, w_29, z0_29, z1_29, c_42, i_42, w_42, z0_42, z1_42, c_43, i_43, w_43, z0_43, z1_43, c_52, i_52, w_52, z0_52, z1_52, X1_size, X1_literal, X1_numberOfStep, X1_ofFormula, X1_inAll, X1_user, X9_codeOf, X1_firstUse, X1_endOfUses, X2_open, X2_at, X2_add, X2_drop, X2_clear, X4_fuelLeft, X4_isActive, X4_isMarked, X4_mark, X4_usedCount, X4_usedAt, X4_setActive, X4_forget, X4_truthOf, cl_st (sh_f hf).1, X7_rows hf]
      rw [show up (up I 29 7 0) 29 9 0 v.1 3 = nI nf from by rw [up_ne (by omega), up_ne (by omega)]; exact hF.1, hB, a1, b1, c1]
      rfl
    rw [hnum]
    simp only [bnd_x, gd_0, gd_1, gd_o0, gd_o1, ite_self, rf_1_0, rf_1_1, rf_1_5, rf_1_6, rf_1_7, rf_2_0, rf_4_0, rf_6_0, rf_6_1, rf_6_2, rf_7_0, rf_9_0, rf_11_0, rf_13_0, rf_13_1, rf_13_2, rf_14_0, rf_16_0, rf_18_0, rf_20_0, rf_20_1, rf_20_2, rf_21_0, rf_23_0, rf_25_0, rf_27_0, rf_29_0, rf_29_1, rf_29_2, rf_29_3, rf_29_4, rf_29_5, rf_30_0, rf_32_0, rf_34_0, rf_36_0, rf_38_0, rf_40_0, rf_42_0, rf_42_1, rf_42_2, rf_42_3, rf_43_0, rf_43_1, rf_43_2, rf_44_0, rf_46_0, rf_48_0, rf_50_0, rf_52_0, rf_52_1, rf_52_2, rf_52_3, rf_52_4, rf_52_5, rf_52_6, rf_52_7, rf_52_8, rf_52_9, rf_52_10, rf_52_11, rf_53_0, rf_55_0, rf_57_0, rf_59_0, rf_61_0, rf_63_0, rf_65_0, rf_67_0, rf_69_0, rf_71_0, rf_73_0, a_7, p_7, f_7, c_7, a_9, p_9, f_9, c_9, a_11, p_11, f_11, c_11, a_14, p_14, f_14, c_14, a_16, p_16, f_16, c_16, a_18, p_18, f_18, c_18, a_21, p_21, f_21, c_21, a_23, p_23, f_23, c_23, a_25, p_25, f_25, c_25, a_30, p_30, f_30, c_30, a_32, p_32, f_32, c_32, a_34, p_34, f_34, c_34, a_36, p_36, f_36, c_36, a_38, p_38, f_38, c_38, a_40, p_40, f_40, c_40, a_44, p_44, f_44, c_44, a_46, p_46, f_46, c_46, a_48, p_48, f_48, c_48, a_50, p_50, f_50, c_50, a_53, p_53, f_53, c_53, a_55, p_55, f_55, c_55, a_57, p_57, f_57, c_57, a_59, p_59, f_59, c_59, a_61, p_61, f_61, c_61, a_63, p_63, f_63, c_63, a_65, p_65, f_65, c_65, a_67, p_67, f_67, c_67, a_69, p_69, f_69, c_69, a_71, p_71, f_71, c_71, a_73, p_73, f_73, c_73, c_1, i_1, w_1, z0_1, z1_1, c_2, i_2, w_2, z0_2, z1_2, c_4, i_4, w_4, z0_4, z1_4, c_6, i_6, w_6, z0_6, z1_6, c_13, i_13, w_13, z0_13, z1_13, c_20, i_20, w_20, z0_20, z1_20, c_27, i_27, w_27, z0_27, z1_27, c_28, i_28, w_28, z0_28, z1_28, c_29, i_29, w_29, z0_29, z1_29, c_42, i_42, w_42, z0_42, z1_42, c_43, i_43, w_43, z0_43, z1_43, c_52, i_52, w_52, z0_52, z1_52, X1_size, X1_literal, X1_numberOfStep, X1_ofFormula, X1_inAll, X1_user, X9_codeOf, X1_firstUse, X1_endOfUses, X2_open, X2_at, X2_add, X2_drop, X2_clear, X4_fuelLeft, X4_isActive, X4_isMarked, X4_mark, X4_usedCount, X4_usedAt, X4_setActive, X4_forget, X4_truthOf, forget_ok]
  · unfold fX10_number0
    simp only [bnd_x, gd_0, gd_1, gd_o0, gd_o1, ite_self, rf_75_1, rf_75_3, rf_75_12, rf_75_13, rf_75_14, rf_75_15, rf_75_16, rf_75_17, rf_75_18, rf_75_22, rf_75_23, rf_75_24, rf_75_25, rf_75_31, rf_75_32, rf_75_41, rf_75_42, rf_75_43, rf_75_44, rf_75_45, rf_75_46, rf_75_47, rf_75_48, rf_75_53, rf_75_54, rf_75_55, rf_75_57, c_75, i_75, w_75, z0_75, z1_75, h19]
    exact b2
  · exact DBC_fr hDBC (by rw [cfg_fr (by decide), c3 _ (by decide) (by decide) (by decide)]) (by rw [cfg_fr (by decide), c3 _ (by decide) (by decide) (by decide)]) (by rw [cfg_fr (by decide), c3 _ (by decide) (by decide) (by decide)])
  · exact USC_fr c2 (cfg_fr (by decide)) (cfg_fr (by decide)) (cfg_fr (by decide))
  · refine ⟨b5, nf, by rw [b14 19 (by decide), up_at, vup_n (by decide)]; exact h19, hn, fun k k1 k2 => ⟨fun c => ?_, fun c => ?_⟩⟩
    · obtain ⟨d1, d2⟩ := (b10 k k1 k2).2.1 c
      obtain ⟨r1, r2⟩ := rF.1 k k1 c
      have hle := OKS_le hFO c
      have h2000 := hFO.2.2.1
      have hmf := (hFO.2.2.2 k k1 c).1
      rw [b15 79 (by decide) (by decide) (by decide), b15 78 (by decide) (by decide) (by decide), b15 80 (by decide) (by decide) (by decide), up_ne (by decide), up_ne (by decide), up_ne (by decide)]
      refine ⟨by simp only; rw [d1]; exact r2, ef (k - 1), r1, by simp only; omega, fun j hj => ?_⟩
      simp only at hj ⊢
      rw [d2 j hj]
      exact rF.2 _ (by omega)
    · obtain ⟨i, i1, i2, i3, i4, i5⟩ := (b10 k k1 k2).2.2 c
      obtain ⟨r1, r2⟩ := rP.1 i i1 i2
      have hle := OKS_le hPO i2
      have h2000 := hPO.2.2.1
      have hmf := (hPO.2.2.2 i i1 i2).1
      rw [b15 82 (by decide) (by decide) (by decide), b15 81 (by decide) (by decide) (by decide), b15 83 (by decide) (by decide) (by decide), up_ne (by decide), up_ne (by decide), up_ne (by decide)]
      refine ⟨i, i3, by omega, by simp only; rw [i4]; exact r2, ep (i - 1), r1, by simp only; omega, fun j hj => ?_⟩
      simp only at hj ⊢
      rw [i5 j hj]
      exact rP.2 _ (by omega)
  · exact DBE_fr hDBE (by rw [cfg_fr (by decide), c3 _ (by decide) (by decide) (by decide)]) (by rw [cfg_fr (by decide), c3 _ (by decide) (by decide) (by decide)])
  · rw [cfg_fr (by simp only [List.mem_cons, List.not_mem_nil, or_false]; omega), c3 _ (by omega) (by omega) (by omega), b13 _ (by omega) (by omega) (by omega) (by omega)]
    rw [hw7] at hPa
    exact hPa.1
  · rw [b14 20 (by decide), up_at, vup_n (by decide)]; exact h20
  · intro i i1 i2
    have hPc : SHC (cfg Ic) v.2.1 np ep wp dp := by
      rw [hw7] at hPa
      refine SHC_fr hPa (fun r r1 r2 => ?_)
      rw [cfg_fr (by simp only [List.mem_cons, List.not_mem_nil, or_false]; omega), c3 _ (by omega) (by omega) (by omega), b13 _ (by omega) (by omega) (by omega) (by omega)]
    obtain ⟨u, u1, u2, u3, u4⟩ := b11 i i1 (by omega)
    obtain ⟨r1, r2⟩ := rP.1 i i1 i2
    have hle := OKS_le hPO i2
    have h2000 := hPO.2.2.1
    obtain ⟨q1, q2, q3, q4⟩ := hPO.2.2.2 i i1 i2
    refine ⟨ep i - ep (i - 1), fun j => wp (ep (i - 1) + j), dp i, u, by omega, (SHC_size hp hPc hPO i1 i2).2.2, fun j hj => SHC_lit hp hPc hPO i1 i2 hj, ?_, ⟨ep (i - 1), ?_, by omega, fun j hj => ?_⟩, SHC_del hp hPc hPO i1 i2, ?_, ?_, u2, u3, u4⟩
    · rw [b15 82 (by decide) (by decide) (by decide), up_ne (by decide)]; exact r2
    · rw [b15 81 (by decide) (by decide) (by decide), up_ne (by decide)]; exact r1
    · rw [b15 83 (by decide) (by decide) (by decide), up_ne (by decide)]; exact rP.2 _ (by omega)
    · rw [b15 84 (by decide) (by decide) (by decide), up_ne (by decide)]; exact h84 i i1 i2
    · rw [cfg_fr (by decide), c3 _ (by decide) (by decide) (by decide)]; exact u1
  · rw [b14 19 (by decide), up_at, vup_n (by decide), cfg_fr (by decide), c3 _ (by decide) (by decide) (by decide), b12 8 (by decide) (by decide), a7 8 (by decide) (by decide), B29.2.2]; exact h19
  · rw [cfg_fr (by decide), c3 _ (by decide) (by decide) (by decide), b12 8 (by decide) (by decide), a7 8 (by decide) (by decide)]; exact B29.2.2
  · rw [cfg_fr (by decide), c3 _ (by decide) (by decide) (by decide), b6.2.2.1 0 (by omega), b8]; rfl
  · intro a ha
    rw [cfg_fr (by simp only [List.mem_cons, List.not_mem_nil, or_false]; omega), c3 a (by omega) (by omega) (by omega), b13 a (by omega) (by omega) (by omega) (by omega), a8 a (by omega) (by omega) (by omega), Bne a (by omega)]
  · intro j hj; rw [b14 j hj, up_at, vup_n hj]
  · intro a x1 x2 x3; rw [b15 a x1 x2 x3, up_ne x1]
end
