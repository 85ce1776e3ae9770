/-! A run with assumptions: class and reference. -/
section
variable {N : Nat} {sz : Nat → Nat} {lt : Nat → Nat → Int32}
/-- the reference's assumption of l -/
def ma (I : Nat → Nat → Int32) (l : Int32) : Nat → Nat → Int32 :=
  if I 75 52 = 0 then (if I 75 51 = 0 then (if tv (I 96) l = 1 then I else if tv (I 96) l = -1 then up I 75 51 1 else if I 75 38 = 0 then up I 75 52 1 else mb I (I 75 49).toNatClampNeg ((I 75 38).toNatClampNeg - 1) l 0) else I) else I
def mas (I : Nat → Nat → Int32) (L : List Int32) : Nat → Nat → Int32 := L.foldl ma I
def MI (I : Nat → Nat → Int32) : Prop := ∃ n f, I 75 49 = nI n ∧ n + cn (fun i => I 96 (i + 1) == 0) 150 = 150 ∧ vv (I 96) ∧ f < 2 ^ 30 ∧ I 75 38 = nI f
theorem mb_FrM (I : Nat → Nat → Int32) (n f : Nat) (l r : Int32) : FrM I (mb I n f l r) := by
  refine ⟨fun a a1 a2 a3 a4 => by unfold mb; rw [up_ne a1, up_ne a4, up_ne a3, up_ne a2, up_ne a1], fun j j1 j2 j3 j4 j5 => ?_⟩
  unfold mb; rw [up_at, vup_n j2, up_ne (by decide), up_ne (by decide), up_ne (by decide), up_at, vup_n j1]
theorem u51_FrM (I : Nat → Nat → Int32) (x : Int32) : FrM I (up I 75 51 x) := ⟨fun a a1 _ _ _ => up_ne a1, fun j _ _ _ j4 _ => by rw [up_at, vup_n j4]⟩
theorem u52_FrM (I : Nat → Nat → Int32) (x : Int32) : FrM I (up I 75 52 x) := ⟨fun a a1 _ _ _ => up_ne a1, fun j _ _ _ _ j5 => by rw [up_at, vup_n j5]⟩
theorem ma_FrM (I : Nat → Nat → Int32) (l : Int32) : FrM I (ma I l) := by
  unfold ma
  split
  · split
    · split
      · exact FrM_r I
      · split
        · exact u51_FrM I 1
        · split
          · exact u52_FrM I 1
          · exact mb_FrM ..
    · exact FrM_r I
  · exact FrM_r I
theorem mas_FrM : ∀ (L : List Int32) (I : Nat → Nat → Int32), FrM I (mas I L)
  | [], I => FrM_r I
  | l :: L, I => FrM_t (ma_FrM I l) (mas_FrM L (ma I l))
theorem ma_ok {v : zV} {J : Nat → Nat → Int64} {I : Nat → Nat → Int32} (h : MI I) {l : Int32} (hl : isL l) : fX10_assume 75 l (st I v J) = some (st (ma I l) v J) ∧ MI (ma I l) := by
  obtain ⟨n, f, h1, h2, h3, h4, h5⟩ := h
  have hav := L_av hl
  have keep : ∀ j x, j ≠ 49 → j ≠ 38 → MI (up I 75 j x) := by
    intro j x j1 j2
    refine ⟨n, f, ?_, ?_, ?_, h4, ?_⟩
    · rw [up_at, vup_n (fun q => j1 q.symm)]; exact h1
    · rw [up_ne (by decide)]; exact h2
    · rw [up_ne (by decide)]; exact h3
    · rw [up_at, vup_n (fun q => j2 q.symm)]; exact h5
  have hI : MI I := ⟨n, f, h1, h2, h3, h4, h5⟩
  unfold ma
  simp only [fX10_assume, bnd_x, gd_0, gd_1, gd_o0, gd_o1, ite_self, rf_75_1, rf_75_3, rf_75_12, rf_75_13, rf_75_14, rf_75_15, rf_75_16, rf_75_17, rf_75_18, rf_75_22, rf_75_23, rf_75_24, rf_75_25, rf_75_31, rf_75_32, rf_75_41, rf_75_42, rf_75_43, rf_75_44, rf_75_45, rf_75_46, rf_75_47, rf_75_48, rf_75_53, rf_75_54, rf_75_55, rf_75_57, c_75, i_75, w_75, z0_75, z1_75, value_ok hl]
  by_cases c52 : I 75 52 = 0
  · rw [if_pos c52, if_pos c52]
    by_cases c51 : I 75 51 = 0
    · rw [if_pos c51, if_pos c51]
      by_cases t1 : tv (I 96) l = 1
      · rw [if_pos t1, if_pos t1]
        exact ⟨rfl, hI⟩
      · rw [if_neg t1, if_neg t1]
        by_cases t2 : tv (I 96) l = -1
        · rw [if_pos t2, if_pos t2]
          exact ⟨rfl, keep 51 1 (by decide) (by decide)⟩
        · rw [if_neg t2, if_neg t2]
          have t0 : tv (I 96) l = 0 := by
            rcases tv_v h3 hl with q | q | q
            · exact q
            · exact absurd q t1
            · exact absurd q t2
          have hv0 := tv_i0 t0
          by_cases f0 : I 75 38 = 0
          · rw [if_pos f0, becomes_out (by rw [f0]; rfl), bnd_x]
            exact ⟨rfl, keep 52 1 (by decide) (by decide)⟩
          · rw [if_neg f0]
            cases f with
            | zero => exact absurd h5 f0
            | succ f =>
              have e1 : (I 75 49).toNatClampNeg = n := by rw [h1, nI_clamp (by omega)]
              have e2 : (I 75 38).toNatClampNeg - 1 = f := by rw [h5, nI_clamp (by omega)]; omega
              rw [e1, e2, becomes_ok hl h5 (by omega) h1 (by omega), bnd_x]
              refine ⟨rfl, n + 1, f, ?_, ?_, ?_, by omega, ?_⟩
              · unfold mb; rw [up_self]
              · have e96 : mb I n f l 0 96 = vup (I 96) (av l) (sg l) := by unfold mb; rw [up_ne (by decide), up_ne (by decide), up_ne (by decide), up_at, up_ne (by decide)]
                rw [e96]
                have : cn (fun i => I 96 (i + 1) == 0) 150 = cn (fun i => vup (I 96) (av l) (sg l) (i + 1) == 0) 150 + 1 := by
                  apply cn_one (i0 := av l - 1) (by omega)
                  · show (I 96 (av l - 1 + 1) == 0) = true
                    rw [show av l - 1 + 1 = av l by omega, hv0]; rfl
                  · show (vup (I 96) (av l) (sg l) (av l - 1 + 1) == 0) = false
                    rw [show av l - 1 + 1 = av l by omega, vup_s]
                    simpa using sg_ne l
                  · intro i hi hne
                    show (I 96 (i + 1) == 0) = (vup (I 96) (av l) (sg l) (i + 1) == 0)
                    rw [vup_n (by omega)]
                omega
              · have e96 : mb I n f l 0 96 = vup (I 96) (av l) (sg l) := by unfold mb; rw [up_ne (by decide), up_ne (by decide), up_ne (by decide), up_at, up_ne (by decide)]
                rw [e96]
                intro x hx0 hx
                unfold vup
                split
                · unfold sg; split <;> simp
                · exact h3 x hx0 hx
              · unfold mb; rw [up_at, vup_n (by decide), up_ne (by decide), up_ne (by decide), up_ne (by decide), up_self]
    · rw [if_neg c51, if_neg c51]
      exact ⟨rfl, hI⟩
  · rw [if_neg c52, if_neg c52]
    exact ⟨rfl, hI⟩
theorem mas_MI : ∀ (L : List Int32) (I : Nat → Nat → Int32), MI I → (∀ l ∈ L, isL l) → MI (mas I L)
  | [], _, h, _ => h
  | l :: L, I, h, hL => mas_MI L (ma I l) ((ma_ok (v := v0) (J := fun _ _ => 0) h (hL l (List.mem_cons_self ..))).2) (fun q hq => hL q (List.mem_cons_of_mem _ hq))
theorem mas_stop : ∀ (L : List Int32) (I : Nat → Nat → Int32), (I 75 51 ≠ 0 ∨ I 75 52 ≠ 0) → mas I L = I
  | [], _, _ => rfl
  | l :: L, I, h => by
    have e : ma I l = I := by
      unfold ma
      rcases h with h | h
      · rw [if_neg h]; split <;> rfl
      · rw [if_neg h]
    show mas (ma I l) L = I
    rw [e]; exact mas_stop L I h
theorem RN_MI {I I' : Nat → Nat → Int32} {n : Nat} (h : RN I I' n N sz lt) : MI I' := by
  obtain ⟨hD, hU, hB, hA, hT, hL, hP, hS⟩ := h
  obtain ⟨f, f1, f2⟩ := hP.2.2.2.2.2
  refine ⟨n, f, hP.2.1, ?_, vv_c hP.1 hT.2.2.1, f1, by rw [hP.2.2.2.1]; exact f2⟩
  have e : cn (fun i => I' 96 (i + 1) == 0) 150 = cn (fun i => I 64 (i + 1) == 0) 150 := by
    apply cn_congr
    intro i hi
    show (I' 96 (i + 1) == 0) = (I 64 (i + 1) == 0)
    rw [hP.1 (i + 1) (by omega) (by omega)]
  rw [e]; exact hT.2.1
theorem prop_stop {v : zV} {J : Nat → Nat → Int64} {I : Nat → Nat → Int32} (h : I 75 51 ≠ 0 ∨ I 75 52 ≠ 0) : fX10_propagate 75 (st I v J) = some (st I v J) := by
  unfold fX10_propagate
  obtain ⟨f, hf⟩ : ∃ f, zfu = f + 1 := ⟨zfu - 1, by have := zfu_big; omega⟩
  rw [hf]
  unfold fX10_propagate_0
  simp only [bnd_x, gd_0, gd_1, gd_o0, gd_o1, ite_self, rf_75_1, rf_75_3, rf_75_12, rf_75_13, rf_75_14, rf_75_15, rf_75_16, rf_75_17, rf_75_18, rf_75_22, rf_75_23, rf_75_24, rf_75_25, rf_75_31, rf_75_32, rf_75_41, rf_75_42, rf_75_43, rf_75_44, rf_75_45, rf_75_46, rf_75_47, rf_75_48, rf_75_53, rf_75_54, rf_75_55, rf_75_57, c_75, i_75, w_75, z0_75, z1_75]
  by_cases c52 : I 75 52 = 0
  · rw [if_pos c52]
    rcases h with h | h
    · rw [if_neg h]
    · exact absurd c52 h
  · rw [if_neg c52]
theorem runs_lock {v v' : zV} {J J' : Nat → Nat → Int64} (hO : OKD N sz lt) {A : List Int32} : ∀ (L : List Int32) (i m n : Nat) (I I' : Nat → Nat → Int32), AS I A → i ≤ 80 → A.drop i = L → (∀ l ∈ L, isL l) → RN I I' n N sz lt → RI I N sz lt → I' 75 51 = 0 → I' 75 52 = 0 → I 52 16 = 0 → L.length < m →
    ∃ I1 I2 n1 r, fX4_run_2 m 52 (nI i) (st I v J) = some (nI r, st I1 v J) ∧ fX10_propagate 75 (st (mas I' L) v' J') = some (st I2 v' J') ∧ RN I1 I2 n1 N sz lt ∧ Fr I I1 ∧ FrM I' I2 ∧ RES I1 I2 N sz lt r := by
  have hN := hO.1
  have hz := zfu_big
  intro L
  induction L with
  | nil =>
    intro i m n I I' hAS hi80 hdrop hLl hRN hRI h51 h52 h16 hm
    obtain ⟨m, rfl⟩ : ∃ q, m = q + 1 := ⟨m - 1, by have : 0 < m := hm; omega⟩
    obtain ⟨a1, a2, a3⟩ := hAS
    have hle : A.length ≤ i := by
      have := congrArg List.length hdrop
      simp at this; omega
    have hpot : pot I N sz lt ≤ 600 := Nat.le_trans (cn_le _ _) hN
    have hi : i < 2 ^ 31 := by omega
    · obtain ⟨I1, I2, n1, r, g1, g2, g3⟩ := run_lock hO 600 0 zfu zfu n I I' v v' J J' hRN hRI h51 h52 h16 hpot (by omega) (by omega) (by omega)
      refine ⟨I1, I2, n1, r, ?_, ?_, g3⟩
      · unfold fX4_run_2
        simp only [bnd_x, gd_0, gd_1, gd_o0, gd_o1, ite_self, rf_1_0, rf_1_1, rf_1_5, rf_1_6, rf_1_7, rf_2_0, rf_4_0, rf_6_0, rf_6_1, rf_6_2, rf_7_0, rf_9_0, rf_11_0, rf_13_0, rf_13_1, rf_13_2, rf_14_0, rf_16_0, rf_18_0, rf_20_0, rf_20_1, rf_20_2, rf_21_0, rf_23_0, rf_25_0, rf_27_0, rf_29_0, rf_29_1, rf_29_2, rf_29_3, rf_29_4, rf_29_5, rf_30_0, rf_32_0, rf_34_0, rf_36_0, rf_38_0, rf_40_0, rf_42_0, rf_42_1, rf_42_2, rf_42_3, rf_43_0, rf_43_1, rf_43_2, rf_44_0, rf_46_0, rf_48_0, rf_50_0, rf_52_0, rf_52_1, rf_52_2, rf_52_3, rf_52_4, rf_52_5, rf_52_6, rf_52_7, rf_52_8, rf_52_9, rf_52_10, rf_52_11, rf_53_0, rf_55_0, rf_57_0, rf_59_0, rf_61_0, rf_63_0, rf_65_0, rf_67_0, rf_69_0, rf_71_0, rf_73_0, a_7, p_7, f_7, c_7, a_9, p_9, f_9, c_9, a_11, p_11, f_11, c_11, a_14, p_14, f_14, c_14, a_16, p_16, f_16, c_16, a_18, p_18, f_18, c_18, a_21, p_21, f_21, c_21, a_23, p_23, f_23, c_23, a_25, p_25, f_25, c_25, a_30, p_30, f_30, c_30, a_32, p_32, f_32, c_32, a_34, p_34, f_34, c_34, a_36, p_36, f_36, c_36, a_38, p_38, f_38, c_38, a_40, p_40, f_40, c_40, a_44, p_44, f_44, c_44, a_46, p_46, f_46, c_46, a_48, p_48, f_48, c_48, a_50, p_50, f_50, c_50, a_53, p_53, f_53, c_53, a_55, p_55, f_55, c_55, a_57, p_57, f_57, c_57, a_59, p_59, f_59, c_59, a_61, p_61, f_61, c_61, a_63, p_63, f_63, c_63, a_65, p_65, f_65, c_65, a_67, p_67, f_67, c_67, a_69, p_69, f_69, c_69, a_71, p_71, f_71, c_71, a_73, p_73, f_73, c_73, c_1, i_1, w_1, z0_1, z1_1, c_2, i_2, w_2, z0_2, z1_2, c_4, i_4, w_4, z0_4, z1_4, c_6, i_6, w_6, z0_6, z1_6, c_13, i_13, w_13, z0_13, z1_13, c_20, i_20, w_20, z0_20, z1_20, c_27, i_27, w_27, z0_27, z1_27, c_28, i_28, w_28, z0_28, z1_28, c_29, i_29, w_29, z0_29, z1_29, c_42, i_42, w_42, z0_42, z1_42, c_43, i_43, w_43, z0_43, z1_43, c_52, i_52, w_52, z0_52, z1_52, X1_size, X1_literal, X1_numberOfStep, X1_ofFormula, X1_inAll, X1_user, X9_codeOf, X1_firstUse, X1_endOfUses, X2_open, X2_at, X2_add, X2_drop, X2_clear, X4_fuelLeft, X4_isActive, X4_isMarked, X4_mark, X4_usedCount, X4_usedAt, X4_setActive, X4_forget, X4_truthOf]
        rw [a1, if_pos (nI_le hle hi)]
        rw [nI_0] at g1
        exact g1
      · unfold fX10_propagate
        exact g2

  | cons l L ih =>
    intro i m n I I' hAS hi80 hdrop hLl hRN hRI h51 h52 h16 hm
    obtain ⟨m, rfl⟩ : ∃ q, m = q + 1 := ⟨m - 1, by have : 0 < m := Nat.lt_of_le_of_lt (Nat.zero_le _) hm; omega⟩
    have hAS' := hAS
    obtain ⟨a1, a2, a3⟩ := hAS
    have hil : i < A.length := by
      have := congrArg List.length hdrop
      simp at this; omega
    have hgi : I 66 i = l := by
      rw [a3 i hil, List.getD_eq_getElem?_getD]
      have := congrArg (fun x => x[0]?) hdrop
      simp at this
      simp [this]
    have hdrop' : A.drop (i + 1) = L := by
      rw [← List.drop_drop, hdrop]; rfl
    have hl := hLl l (List.mem_cons_self ..)
    have hL' : ∀ q ∈ L, isL q := fun q hq => hLl q (List.mem_cons_of_mem _ hq)
    have hm' : L.length < m := by simp at hm; omega
    have hRN' := hRN
    obtain ⟨hD, hU, hB, hA, hT, hLI, hP, hS⟩ := hRN
    have htv : tv (I' 96) l = tv (I 64) l := tv_c hP.1 hl
    have hstep : fX4_run_2 (m + 1) 52 (nI i) (st I v J) = if 0 ≤ tv (I 64) l then (if tv (I 64) l = 0 then bnd (fX4_makeTrue 52 l 0 (st I v J)) fun q13 => if q13.1 = 0 then some (2, q13.2) else fX4_run_2 m 52 (nI (i + 1)) q13.2 else fX4_run_2 m 52 (nI (i + 1)) (st I v J)) else some (1, st I v J) := by
      conv => lhs; unfold fX4_run_2
      simp only [bnd_x, gd_0, gd_1, gd_o0, gd_o1, ite_self, rf_1_0, rf_1_1, rf_1_5, rf_1_6, rf_1_7, rf_2_0, rf_4_0, rf_6_0, rf_6_1, rf_6_2, rf_7_0, rf_9_0, rf_11_0, rf_13_0, rf_13_1, rf_13_2, rf_14_0, rf_16_0, rf_18_0, rf_20_0, rf_20_1, rf_20_2, rf_21_0, rf_23_0, rf_25_0, rf_27_0, rf_29_0, rf_29_1, rf_29_2, rf_29_3, rf_29_4, rf_29_5, rf_30_0, rf_32_0, rf_34_0, rf_36_0, rf_38_0, rf_40_0, rf_42_0, rf_42_1, rf_42_2, rf_42_3, rf_43_0, rf_43_1, rf_43_2, rf_44_0, rf_46_0, rf_48_0, rf_50_0, rf_52_0, rf_52_1, rf_52_2, rf_52_3, rf_52_4, rf_52_5, rf_52_6, rf_52_7, rf_52_8, rf_52_9, rf_52_10, rf_52_11, rf_53_0, rf_55_0, rf_57_0, rf_59_0, rf_61_0, rf_63_0, rf_65_0, rf_67_0, rf_69_0, rf_71_0, rf_73_0, a_7, p_7, f_7, c_7, a_9, p_9, f_9, c_9, a_11, p_11, f_11, c_11, a_14, p_14, f_14, c_14, a_16, p_16, f_16, c_16, a_18, p_18, f_18, c_18, a_21, p_21, f_21, c_21, a_23, p_23, f_23, c_23, a_25, p_25, f_25, c_25, a_30, p_30, f_30, c_30, a_32, p_32, f_32, c_32, a_34, p_34, f_34, c_34, a_36, p_36, f_36, c_36, a_38, p_38, f_38, c_38, a_40, p_40, f_40, c_40, a_44, p_44, f_44, c_44, a_46, p_46, f_46, c_46, a_48, p_48, f_48, c_48, a_50, p_50, f_50, c_50, a_53, p_53, f_53, c_53, a_55, p_55, f_55, c_55, a_57, p_57, f_57, c_57, a_59, p_59, f_59, c_59, a_61, p_61, f_61, c_61, a_63, p_63, f_63, c_63, a_65, p_65, f_65, c_65, a_67, p_67, f_67, c_67, a_69, p_69, f_69, c_69, a_71, p_71, f_71, c_71, a_73, p_73, f_73, c_73, c_1, i_1, w_1, z0_1, z1_1, c_2, i_2, w_2, z0_2, z1_2, c_4, i_4, w_4, z0_4, z1_4, c_6, i_6, w_6, z0_6, z1_6, c_13, i_13, w_13, z0_13, z1_13, c_20, i_20, w_20, z0_20, z1_20, c_27, i_27, w_27, z0_27, z1_27, c_28, i_28, w_28, z0_28, z1_28, c_29, i_29, w_29, z0_29, z1_29, c_42, i_42, w_42, z0_42, z1_42, c_43, i_43, w_43, z0_43, z1_43, c_52, i_52, w_52, z0_52, z1_52, X1_size, X1_literal, X1_numberOfStep, X1_ofFormula, X1_inAll, X1_user, X9_codeOf, X1_firstUse, X1_endOfUses, X2_open, X2_at, X2_add, X2_drop, X2_clear, X4_fuelLeft, X4_isActive, X4_isMarked, X4_mark, X4_usedCount, X4_usedAt, X4_setActive, X4_forget, X4_truthOf, fX4_run_46]
      rw [a1, if_neg (nI_ge hil (by omega)), rd_65 (by omega), hgi, truth_tv hl, nI_1]
    have hmas : mas I' (l :: L) = mas (ma I' l) L := rfl
    rcases tv_v hT.2.2.1 hl with t | t | t
    · have hstep2 : fX4_run_2 (m + 1) 52 (nI i) (st I v J) = bnd (fX4_makeTrue 52 l 0 (st I v J)) fun q13 => if q13.1 = 0 then some (2, q13.2) else fX4_run_2 m 52 (nI (i + 1)) q13.2 := by
        rw [hstep, t, if_pos (by decide), if_pos rfl]
      obtain ⟨f, ff1, ff2⟩ := hP.2.2.2.2.2
      cases f with
      | zero =>
        have e : ma I' l = up I' 75 52 1 := by
          unfold ma
          rw [if_pos h52, if_pos h51, htv, t, if_neg (by decide), if_neg (by decide), if_pos (by rw [hP.2.2.2.1, ff2]; rfl)]
        have hst : (up I' 75 52 1) 75 51 ≠ 0 ∨ (up I' 75 52 1) 75 52 ≠ 0 := Or.inr (by rw [up_self]; decide)
        refine ⟨I, up I' 75 52 1, n, 2, ?_, ?_, ?_, Fr_r I, u52_FrM I' 1, Or.inr (Or.inr ⟨rfl, by rw [← h51]; simp [up], up_self ..⟩)⟩
        · rw [hstep2, makeTrue_out ff2]
          simp only [bnd_x]
          rfl
        · rw [hmas, e, mas_stop L _ hst, prop_stop hst]
        · have g2 : FrM I' (up I' 75 52 1) := u52_FrM I' 1
          refine ⟨hD, hU, FrM_DBR g2 hB, Fr_AM (Fr_r I) g2 hA, hT, hLI, ⟨?_, ?_, ?_, ?_, ?_, ?_⟩, hS⟩
          · rw [up_ne (show (96 : Nat) ≠ 75 by decide)]; exact hP.1
          · rw [show up I' 75 52 1 75 49 = I' 75 49 by simp [up]]; exact hP.2.1
          · rw [up_ne (show (97 : Nat) ≠ 75 by decide), up_ne (show (98 : Nat) ≠ 75 by decide)]; exact hP.2.2.1
          · rw [show up I' 75 52 1 75 38 = I' 75 38 by simp [up]]; exact hP.2.2.2.1
          · rw [show up I' 75 52 1 75 50 = I' 75 50 by simp [up]]; exact hP.2.2.2.2.1
          · exact hP.2.2.2.2.2
      | succ f =>
        obtain ⟨I3, t1, t2, t3, t4, t5, t6, t7, t8, t9, t10⟩ := step_ok (v := v) (v' := v') (J := J) (J' := J') hO hRN' hRI (r := 0) (Or.inl rfl) hl t ff2 (by omega) (Or.inl rfl)
        have e : ma I' l = mb I' n f l (nI 0) := by
          unfold ma
          rw [if_pos h52, if_pos h51, htv, t, if_neg (by decide), if_neg (by decide), if_neg (by rw [hP.2.2.2.1, ff2]; exact nI_ne0 (by omega) (by omega)), hP.2.1, nI_clamp (by have := hT.2.1; omega), hP.2.2.2.1, ff2, nI_clamp (by omega)]
          rfl
        have hAS3 : AS I3 A := by
          refine ⟨by rw [t5.2 13 (by decide) (by decide) (by decide)]; exact a1, a2, ?_⟩
          rw [t5.1 66 (by decide) (by decide) (by decide) (by decide) (by decide) (by decide)]; exact a3
        obtain ⟨I1, I2, n1, r, g1, g2, g3, g4, g5, g6⟩ := ih (i + 1) m (n + 1) I3 _ hAS3 (by omega) hdrop' hL' t3 t4 (by rw [t8]; exact h51) (by rw [t9]; exact h52) (by rw [t7]; exact h16) hm'
        refine ⟨I1, I2, n1, r, ?_, ?_, g3, Fr_t t5 g4, FrM_t t6 g5, g6⟩
        · rw [hstep2, show (0 : Int32) = nI 0 from rfl, t1]
          simp only [bnd_x]
          rw [if_neg (by decide), g1]
        · rw [hmas, e, g2]
    · have e : ma I' l = I' := by
        unfold ma
        rw [if_pos h52, if_pos h51, htv, if_pos t]
      obtain ⟨I1, I2, n1, r, g1, g2, g3⟩ := ih (i + 1) m n I I' hAS' (by omega) hdrop' hL' hRN' hRI h51 h52 h16 hm'
      refine ⟨I1, I2, n1, r, ?_, ?_, g3⟩
      · rw [hstep, t, if_pos (by decide), if_neg (by decide), g1]
      · rw [hmas, e, g2]
    · have e : ma I' l = up I' 75 51 1 := by
        unfold ma
        rw [if_pos h52, if_pos h51, htv, t, if_neg (by decide), if_pos rfl]
      have hst : (up I' 75 51 1) 75 51 ≠ 0 ∨ (up I' 75 51 1) 75 52 ≠ 0 := Or.inl (by rw [up_self]; decide)
      refine ⟨I, up I' 75 51 1, n, 1, ?_, ?_, ?_, Fr_r I, u51_FrM I' 1, Or.inr (Or.inl ⟨rfl, up_self .., by rw [← h52]; simp [up], 0, h16, by omega, Or.inl rfl⟩)⟩
      · rw [hstep, t, if_neg (by decide)]; rfl
      · rw [hmas, e, mas_stop L _ hst, prop_stop hst]
      · have g2 : FrM I' (up I' 75 51 1) := u51_FrM I' 1
        refine ⟨hD, hU, FrM_DBR g2 hB, Fr_AM (Fr_r I) g2 hA, hT, hLI, ⟨?_, ?_, ?_, ?_, ?_, ?_⟩, hS⟩
        · rw [up_ne (show (96 : Nat) ≠ 75 by decide)]; exact hP.1
        · rw [show up I' 75 51 1 75 49 = I' 75 49 by simp [up]]; exact hP.2.1
        · rw [up_ne (show (97 : Nat) ≠ 75 by decide), up_ne (show (98 : Nat) ≠ 75 by decide)]; exact hP.2.2.1
        · rw [show up I' 75 51 1 75 38 = I' 75 38 by simp [up]]; exact hP.2.2.2.1
        · rw [show up I' 75 51 1 75 50 = I' 75 50 by simp [up]]; exact hP.2.2.2.2.1
        · exact hP.2.2.2.2.2
end
