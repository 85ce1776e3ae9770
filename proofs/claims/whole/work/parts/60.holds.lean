/-! An addition is weighed: class and reference. -/
section
variable {N : Nat} {sz : Nat → Nat} {lt : Nat → Nat → Int32}
theorem up_id {I : Nat → Nat → Int32} {r k : Nat} {x : Int32} (h : I r k = x) : up I r k x = I := by
  funext a j
  unfold up
  split
  · rename_i q; rw [q.1, q.2, h]
  · rfl
def GCh (I I1 : Nat → Nat → Int32) : Prop := (∀ a, a < 42 ∨ a = 51 ∨ a = 54 ∨ a = 60 ∨ 74 < a → I1 a = I a) ∧ (∀ j, j ≠ 6 → j ≠ 7 → j ≠ 9 → j ≠ 10 → I1 42 j = I 42 j)
def GMh (I I1 : Nat → Nat → Int32) : Prop := (∀ a, (a < 92 ∧ a ≠ 75) ∨ a = 95 ∨ 101 < a → I1 a = I a) ∧ (∀ j, j < 38 ∨ 56 < j → I1 75 j = I 75 j)
theorem hold_lock {v v' : zV} {J J' : Nat → Nat → Int64} (hO : OKD N sz lt) {I I' : Nat → Nat → Int32} (h : RJ I I' N sz lt) (h52 : I' 75 52 = 0) (h39 : I' 75 39 = I 42 9) (h40 : I' 75 40 = I 42 10) {k : Nat} (k1 : 1 ≤ k) (k2 : k ≤ N) (stp : Int32) :
    ∃ I1 I2 r w, Z0 I I1 ∧ fX3_holds 42 stp (nI k) (st I v J) = some (r, st I1 v J) ∧ fX10_weighed 75 (nI k) (I 42 4) (st I' v' J') = some (w, st I2 v' J') ∧ RJ I1 I2 N sz lt ∧ I2 75 39 = I1 42 9 ∧ I2 75 40 = I1 42 10 ∧ GCh I I1 ∧ GMh I' I2 ∧
      ((r = 1 ∧ w = 0 ∧ I2 75 52 = 0 ∧ I1 42 6 = I 42 6 ∧ I1 42 7 = I 42 7) ∨ (r = 0 ∧ (w = 1 ∨ w = 2) ∧ I1 42 6 = w ∧ I1 42 7 = stp)) := by
  have hN := hO.1
  have hz := zfu_big
  have hRJ := h
  obtain ⟨hD, hU, hB, hA, hT, hL, hS, hF, hH⟩ := h
  obtain ⟨h, x1, x2, x3, x4, x5⟩ := hH
  obtain ⟨s40, hlit, hnd⟩ := hO.2 k k1 k2
  -- the hints are opened
  generalize hI0 : up (up I 47 k (nI h)) 49 k (nI h) = I0
  generalize hM0 : up (up I' 100 k (nI h)) 101 k 0 = M0
  have f0 : ∀ a, a ≠ 47 → a ≠ 49 → I0 a = I a := fun a a1 a2 => by rw [← hI0, up_ne a2, up_ne a1]
  have g0 : ∀ a, a ≠ 100 → a ≠ 101 → M0 a = I' a := fun a a1 a2 => by rw [← hM0, up_ne a2, up_ne a1]
  have e47 : I0 47 = vup (I 47) k (nI h) := by rw [← hI0, up_ne (by decide), up_at]
  have e49 : I0 49 = vup (I 49) k (nI h) := by rw [← hI0, up_at, up_ne (by decide)]
  have e100 : M0 100 = vup (I' 100) k (nI h) := by rw [← hM0, up_ne (by decide), up_at]
  have e101 : M0 101 = vup (I' 101) k 0 := by rw [← hM0, up_at, up_ne (by decide)]
  have hopen : fX2_open 43 (nI k) (st I v J) = some (st I0 v J) := by
    rw [X2_open, x2, wr_46 (by omega), wr_48 (by omega), hI0]
  have hH0 : HR I0 M0 N := by
    refine ⟨h, x1, by rw [f0 43 (by decide) (by decide)]; exact x2, by rw [g0 75 (by decide) (by decide)]; exact x3, ?_, ?_⟩
    · rw [f0 45 (by decide) (by decide), g0 99 (by decide) (by decide)]; exact x4
    · intro q hq
      rw [e47, e49, e100, e101]
      by_cases e : q = k
      · subst e
        exact ⟨h, 0, vup_s .., by rw [vup_s]; rfl, by omega, by rw [vup_s]; rfl, fun c => absurd rfl c⟩
      · rw [vup_n e, vup_n e, vup_n e, vup_n e]; exact x5 q hq
  have hOP0 : OP I0 M0 k := ⟨h, 0, by rw [e47, vup_s], by rw [e100, vup_s], by rw [f0 43 (by decide) (by decide)]; exact x2, by rw [e49, vup_s]; rfl, by rw [e101, vup_s]; rfl, by omega⟩
  have hOB0 : OB I0 N k h := by
    refine ⟨by rw [e47, vup_s], x1, fun q hq hne => ?_⟩
    rw [e47, e49, vup_n hne, vup_n hne]
    obtain ⟨b, m, y1, y2, y3, -⟩ := x5 q hq
    exact ⟨b, m, y1, y2, y3⟩
  have hRJ0 : RJ I0 M0 N sz lt := by
    apply RJ_fr hRJ
    · intro a ha; exact f0 a (fun q => by subst q; exact absurd ha (by decide)) (fun q => by subst q; exact absurd ha (by decide))
    · intro j _; rw [f0 52 (by decide) (by decide)]
    · intro a ha; exact g0 a (fun q => by subst q; exact absurd ha (by decide)) (fun q => by subst q; exact absurd ha (by decide))
    · intro j _; rw [g0 75 (by decide) (by decide)]
    · exact hH0
  obtain ⟨Ia, Ib, Id, Ie, r, t1, t2, t4, t5, ⟨n, t6⟩, t7, t8, t9, t10, t11⟩ := try1 (v := v) (v' := v') (J := J) (J' := J') hO hRJ0 (by rw [g0 75 (by decide) (by decide)]; exact h52) k1 k2
  have hmb : MI (mbeg M0) := by
    obtain ⟨Iz, z1, z2, z3⟩ := restart_lock (v := v) (J := J) hO hRJ0
    exact RN_MI z2
  have hB0 := hRJ0.2.2.1
  obtain ⟨f', l29⟩ := w29_loop (v := v') (J := J') hO k1 k2 (I 42 4) (nI h) (sz k) 0 zfu (mbeg M0) (by omega) (by omega) (FrM_DBR (mbeg_FrM M0) hB0) hmb
  rw [nI_0] at l29
  have hBm : DBR (mas (mbeg M0) (ops lt k 0 (sz k) 0)) N sz lt := FrM_DBR (FrM_t (mbeg_FrM M0) (mas_FrM _ _)) hB0
  have hBe : DBR Ie N sz lt := FrM_DBR t10 hB0
  have hDd : DBC Id N sz lt := t6.1
  have T9 : ∀ a, a ≠ 52 → a ≠ 58 → a ≠ 62 → a ≠ 64 → a ≠ 66 → a ≠ 68 → a ≠ 70 → Id a = I0 a := t9
  have d42 : Id 42 = I 42 := by rw [T9 42 (by decide) (by decide) (by decide) (by decide) (by decide) (by decide) (by decide), f0 42 (by decide) (by decide)]
  have hOPe : OP Id Ie k := OP_fr hOP0 (by rw [T9 43 (by decide) (by decide) (by decide) (by decide) (by decide) (by decide) (by decide)]) (T9 47 (by decide) (by decide) (by decide) (by decide) (by decide) (by decide) (by decide)) (T9 49 (by decide) (by decide) (by decide) (by decide) (by decide) (by decide) (by decide)) (t10.1 100 (by decide) (by decide) (by decide) (by decide)) (t10.1 101 (by decide) (by decide) (by decide) (by decide))
  have hOBe : OB Id N k h := OB_fr hOB0 (T9 47 (by decide) (by decide) (by decide) (by decide) (by decide) (by decide) (by decide)) (fun q _ => by rw [T9 49 (by decide) (by decide) (by decide) (by decide) (by decide) (by decide) (by decide)])
  have hdropid : cdrop k Id = Id := by
    rw [cdrop_e (by omega) hOBe.1]
    have a1 : Id 43 3 = nI h := by rw [T9 43 (by decide) (by decide) (by decide) (by decide) (by decide) (by decide) (by decide), f0 43 (by decide) (by decide)]; exact x2
    have a2 : Id 49 k = nI h := by rw [T9 49 (by decide) (by decide) (by decide) (by decide) (by decide) (by decide) (by decide), e49, vup_s]
    rw [up_id a1, up_id a2]
  have hRJe : RJ Id Ie N sz lt := RN_RJ t6 t7 t8
  have hGCd : GC I Id := by
    intro a ha
    rw [GC_T t9 a ha, f0 a (by omega) (by omega)]
  have hGMe : GM I' Ie := by
    have := GM_F t10
    exact ⟨fun a ha => by rw [this.1 a ha, g0 a (by omega) (by omega)], fun j hj => by rw [this.2 j hj, g0 75 (by decide) (by decide)]⟩
  have e40 : Ie 75 40 = I' 75 40 := by rw [t10.2 40 (by decide) (by decide) (by decide) (by decide) (by decide), g0 75 (by decide) (by decide)]
  -- the end if it fails
  have h106 : ∀ (X : Nat → Nat → Int32) (l3 : Int32), fX3_holds_106 42 stp (nI k) l3 (st X v J) = some (0, st (up (up (cdrop k X) 42 7 stp) 42 6 (if l3 = 2 then 2 else 1)) v J) := by
    intro X l3
    unfold fX3_holds_106 fX3_holds_130
    simp only [bnd_x, gd_0, gd_1, gd_o0, gd_o1, ite_self, rf_1_0, rf_1_1, rf_1_5, rf_1_6, rf_1_7, rf_2_0, rf_4_0, rf_6_0, rf_6_1, rf_6_2, rf_7_0, rf_9_0, rf_11_0, rf_13_0, rf_13_1, rf_13_2, rf_14_0, rf_16_0, rf_18_0, rf_20_0, rf_20_1, rf_20_2, rf_21_0, rf_23_0, rf_25_0, rf_27_0, rf_29_0, rf_29_1, rf_29_2, rf_29_3, rf_29_4, rf_29_5, rf_30_0, rf_32_0, rf_34_0, rf_36_0, rf_38_0, rf_40_0, rf_42_0, rf_42_1, rf_42_2, rf_42_3, rf_43_0, rf_43_1, rf_43_2, rf_44_0, rf_46_0, rf_48_0, rf_50_0, rf_52_0, rf_52_1, rf_52_2, rf_52_3, rf_52_4, rf_52_5, rf_52_6, rf_52_7, rf_52_8, rf_52_9, rf_52_10, rf_52_11, rf_53_0, rf_55_0, rf_57_0, rf_59_0, rf_61_0, rf_63_0, rf_65_0, rf_67_0, rf_69_0, rf_71_0, rf_73_0, a_7, p_7, f_7, c_7, a_9, p_9, f_9, c_9, a_11, p_11, f_11, c_11, a_14, p_14, f_14, c_14, a_16, p_16, f_16, c_16, a_18, p_18, f_18, c_18, a_21, p_21, f_21, c_21, a_23, p_23, f_23, c_23, a_25, p_25, f_25, c_25, a_30, p_30, f_30, c_30, a_32, p_32, f_32, c_32, a_34, p_34, f_34, c_34, a_36, p_36, f_36, c_36, a_38, p_38, f_38, c_38, a_40, p_40, f_40, c_40, a_44, p_44, f_44, c_44, a_46, p_46, f_46, c_46, a_48, p_48, f_48, c_48, a_50, p_50, f_50, c_50, a_53, p_53, f_53, c_53, a_55, p_55, f_55, c_55, a_57, p_57, f_57, c_57, a_59, p_59, f_59, c_59, a_61, p_61, f_61, c_61, a_63, p_63, f_63, c_63, a_65, p_65, f_65, c_65, a_67, p_67, f_67, c_67, a_69, p_69, f_69, c_69, a_71, p_71, f_71, c_71, a_73, p_73, f_73, c_73, c_1, i_1, w_1, z0_1, z1_1, c_2, i_2, w_2, z0_2, z1_2, c_4, i_4, w_4, z0_4, z1_4, c_6, i_6, w_6, z0_6, z1_6, c_13, i_13, w_13, z0_13, z1_13, c_20, i_20, w_20, z0_20, z1_20, c_27, i_27, w_27, z0_27, z1_27, c_28, i_28, w_28, z0_28, z1_28, c_29, i_29, w_29, z0_29, z1_29, c_42, i_42, w_42, z0_42, z1_42, c_43, i_43, w_43, z0_43, z1_43, c_52, i_52, w_52, z0_52, z1_52, X1_size, X1_literal, X1_numberOfStep, X1_ofFormula, X1_inAll, X1_user, X9_codeOf, X1_firstUse, X1_endOfUses, X2_open, X2_at, X2_clear, X4_fuelLeft, X4_isActive, X4_isMarked, X4_mark, X4_usedCount, X4_usedAt, X4_setActive, X4_forget, X4_truthOf, ca_ok, cdr_ok]
    split <;> rfl
  have failed : ∀ (X M : Nat → Nat → Int32) (w : Int32), (w = 1 ∨ w = 2) → RJ (cdrop k X) M N sz lt → GC I (cdrop k X) → GM I' M → M 75 40 = I' 75 40 →
      RJ (up (up (cdrop k X) 42 7 stp) 42 6 w) M N sz lt ∧ M 75 39 = (up (up (cdrop k X) 42 7 stp) 42 6 w) 42 9 ∧ M 75 40 = (up (up (cdrop k X) 42 7 stp) 42 6 w) 42 10 ∧ GCh I (up (up (cdrop k X) 42 7 stp) 42 6 w) ∧ GMh I' M ∧
      (((0 : Int32) = 1 ∧ w = 0 ∧ M 75 52 = 0 ∧ (up (up (cdrop k X) 42 7 stp) 42 6 w) 42 6 = I 42 6 ∧ (up (up (cdrop k X) 42 7 stp) 42 6 w) 42 7 = I 42 7) ∨ ((0 : Int32) = 0 ∧ (w = 1 ∨ w = 2) ∧ (up (up (cdrop k X) 42 7 stp) 42 6 w) 42 6 = w ∧ (up (up (cdrop k X) 42 7 stp) 42 6 w) 42 7 = stp)) := by
    intro X M w hw a1 a2 a3 a4
    have d42' : cdrop k X 42 = I 42 := a2 42 (by omega)
    refine ⟨?_, ?_, ?_, ⟨?_, ?_⟩, ⟨a3.1, fun j hj => a3.2 j (by omega)⟩, Or.inr ⟨rfl, hw, up_self .., ?_⟩⟩
    · apply RJ_fr a1
      · intro a ha
        rw [up_ne (fun q => by subst q; exact absurd ha (by decide)), up_ne (fun q => by subst q; exact absurd ha (by decide))]
      · intro j _; rw [up_ne (by decide), up_ne (by decide)]
      · intro a _; rfl
      · intro j _; rfl
      · exact HR_fr a1.2.2.2.2.2.2.2.2 (by rw [up_ne (by decide), up_ne (by decide)]) (by rw [up_ne (by decide), up_ne (by decide)]) (by rw [up_ne (by decide), up_ne (by decide)]) (by rw [up_ne (by decide), up_ne (by decide)]) rfl rfl rfl rfl
    · rw [up_at, vup_n (by decide), up_at, vup_n (by decide), d42', a3.2 39 (by omega)]; exact h39
    · rw [up_at, vup_n (by decide), up_at, vup_n (by decide), d42', a4]; exact h40
    · intro a ha
      rw [up_ne (by omega), up_ne (by omega)]
      exact a2 a (by omega)
    · intro j j1 j2 j3 j4
      rw [up_at, vup_n j1, up_at, vup_n j2, d42']
    · rw [up_at, vup_n (by decide), up_self]
  have hC : fX3_holds 42 stp (nI k) (st I v J) = if nI r = 1 then bnd (fX4_gatherUsed 52 (st Id v J)) fun q46 => bnd (cl q46 3 42 (fX3_keepUsed 42 (nI k) q46)) fun q49 => bnd (qI q49 3 42 9) fun x52 => bnd (wI q49 3 42 9 (x52 + 1)) fun s55 => some (1, s55) else if nI r = 0 then (if I 42 4 = 0 then fX3_holds_106 42 stp (nI k) (nI r) (st Id v J) else if nI (sz k) ≤ 0 then fX3_holds_106 42 stp (nI k) (nI r) (st Id v J) else bnd (fX3_weighPartners 42 (nI k) (st Id v J)) fun q34 => if q34.1 = 1 then bnd (qI q34.2 3 42 10) fun x37 => bnd (wI q34.2 3 42 10 (x37 + 1)) fun s40 => some (1, s40) else fX3_holds_106 42 stp (nI k) q34.1 q34.2) else fX3_holds_106 42 stp (nI k) (nI r) (st Id v J) := by
    unfold fX3_holds
    simp only [bnd_x, gd_0, gd_1, gd_o0, gd_o1, ite_self, rf_1_0, rf_1_1, rf_1_5, rf_1_6, rf_1_7, rf_2_0, rf_4_0, rf_6_0, rf_6_1, rf_6_2, rf_7_0, rf_9_0, rf_11_0, rf_13_0, rf_13_1, rf_13_2, rf_14_0, rf_16_0, rf_18_0, rf_20_0, rf_20_1, rf_20_2, rf_21_0, rf_23_0, rf_25_0, rf_27_0, rf_29_0, rf_29_1, rf_29_2, rf_29_3, rf_29_4, rf_29_5, rf_30_0, rf_32_0, rf_34_0, rf_36_0, rf_38_0, rf_40_0, rf_42_0, rf_42_1, rf_42_2, rf_42_3, rf_43_0, rf_43_1, rf_43_2, rf_44_0, rf_46_0, rf_48_0, rf_50_0, rf_52_0, rf_52_1, rf_52_2, rf_52_3, rf_52_4, rf_52_5, rf_52_6, rf_52_7, rf_52_8, rf_52_9, rf_52_10, rf_52_11, rf_53_0, rf_55_0, rf_57_0, rf_59_0, rf_61_0, rf_63_0, rf_65_0, rf_67_0, rf_69_0, rf_71_0, rf_73_0, a_7, p_7, f_7, c_7, a_9, p_9, f_9, c_9, a_11, p_11, f_11, c_11, a_14, p_14, f_14, c_14, a_16, p_16, f_16, c_16, a_18, p_18, f_18, c_18, a_21, p_21, f_21, c_21, a_23, p_23, f_23, c_23, a_25, p_25, f_25, c_25, a_30, p_30, f_30, c_30, a_32, p_32, f_32, c_32, a_34, p_34, f_34, c_34, a_36, p_36, f_36, c_36, a_38, p_38, f_38, c_38, a_40, p_40, f_40, c_40, a_44, p_44, f_44, c_44, a_46, p_46, f_46, c_46, a_48, p_48, f_48, c_48, a_50, p_50, f_50, c_50, a_53, p_53, f_53, c_53, a_55, p_55, f_55, c_55, a_57, p_57, f_57, c_57, a_59, p_59, f_59, c_59, a_61, p_61, f_61, c_61, a_63, p_63, f_63, c_63, a_65, p_65, f_65, c_65, a_67, p_67, f_67, c_67, a_69, p_69, f_69, c_69, a_71, p_71, f_71, c_71, a_73, p_73, f_73, c_73, c_1, i_1, w_1, z0_1, z1_1, c_2, i_2, w_2, z0_2, z1_2, c_4, i_4, w_4, z0_4, z1_4, c_6, i_6, w_6, z0_6, z1_6, c_13, i_13, w_13, z0_13, z1_13, c_20, i_20, w_20, z0_20, z1_20, c_27, i_27, w_27, z0_27, z1_27, c_28, i_28, w_28, z0_28, z1_28, c_29, i_29, w_29, z0_29, z1_29, c_42, i_42, w_42, z0_42, z1_42, c_43, i_43, w_43, z0_43, z1_43, c_52, i_52, w_52, z0_52, z1_52, X1_size, X1_literal, X1_numberOfStep, X1_ofFormula, X1_inAll, X1_user, X9_codeOf, X1_firstUse, X1_endOfUses, X2_open, X2_at, X2_clear, X4_fuelLeft, X4_isActive, X4_isMarked, X4_mark, X4_usedCount, X4_usedAt, X4_setActive, X4_forget, X4_truthOf, ca_ok, cdr_ok, hopen, t1, t2, t4, hDd.2.1 k k1 k2, d42]
  have hM : fX10_weighed 75 (nI k) (I 42 4) (st I' v' J') = if Ie 75 52 = 0 then (if Ie 75 51 = 0 then (if I 42 4 = 0 then some (1, st Ie v' J') else if nI (sz k) = 0 then some (1, st Ie v' J') else bnd (fX10_literalOf 75 (nI k) 0 (st Ie v' J')) fun q37 => fX10_weighed_119 zfu 75 (nI k) (nI h) q37.1 1 q37.2) else bnd (fX10_uses 75 (nI k) (st Ie v' J')) fun q40 => bnd (qI q40 10 75 39) fun x43 => bnd (wI q40 10 75 39 (x43 + 1)) fun s46 => some (0, s46)) else some (2, st Ie v' J') := by
    unfold fX10_weighed
    simp only [bnd_x, gd_0, gd_1, gd_o0, gd_o1, ite_self, rf_75_1, rf_75_3, rf_75_12, rf_75_13, rf_75_14, rf_75_15, rf_75_16, rf_75_17, rf_75_18, rf_75_22, rf_75_23, rf_75_24, rf_75_25, rf_75_31, rf_75_32, rf_75_41, rf_75_42, rf_75_43, rf_75_44, rf_75_45, rf_75_46, rf_75_47, rf_75_48, rf_75_53, rf_75_54, rf_75_55, rf_75_57, c_75, i_75, w_75, z0_75, z1_75, ua_100 (show k < 601 by omega), ua_101 (show k < 601 by omega), up_ne (show (75 : Nat) ≠ 100 by decide), x3, hM0, begin_ok, l29]
    conv => lhs; unfold fX10_weighed_29
    simp only [long_ok hO.1 hBm k1 k2, bnd_x, gd_0, gd_1, gd_o0, gd_o1, ite_self, rf_75_1, rf_75_3, rf_75_12, rf_75_13, rf_75_14, rf_75_15, rf_75_16, rf_75_17, rf_75_18, rf_75_22, rf_75_23, rf_75_24, rf_75_25, rf_75_31, rf_75_32, rf_75_41, rf_75_42, rf_75_43, rf_75_44, rf_75_45, rf_75_46, rf_75_47, rf_75_48, rf_75_53, rf_75_54, rf_75_55, rf_75_57, c_75, i_75, w_75, z0_75, z1_75, if_pos (nI_le (Nat.le_refl (sz k)) (show sz k < 2 ^ 31 by omega)), t5, long_ok hO.1 hBe k1 k2]
  have failD : ∀ w : Int32, (w = 1 ∨ w = 2) → RJ (up (up (cdrop k Id) 42 7 stp) 42 6 w) Ie N sz lt ∧ Ie 75 39 = (up (up (cdrop k Id) 42 7 stp) 42 6 w) 42 9 ∧ Ie 75 40 = (up (up (cdrop k Id) 42 7 stp) 42 6 w) 42 10 ∧ GCh I (up (up (cdrop k Id) 42 7 stp) 42 6 w) ∧ GMh I' Ie ∧ (((0 : Int32) = 1 ∧ w = 0 ∧ Ie 75 52 = 0 ∧ (up (up (cdrop k Id) 42 7 stp) 42 6 w) 42 6 = I 42 6 ∧ (up (up (cdrop k Id) 42 7 stp) 42 6 w) 42 7 = I 42 7) ∨ ((0 : Int32) = 0 ∧ (w = 1 ∨ w = 2) ∧ (up (up (cdrop k Id) 42 7 stp) 42 6 w) 42 6 = w ∧ (up (up (cdrop k Id) 42 7 stp) 42 6 w) 42 7 = stp)) :=
    fun w hw => failed Id Ie w hw (by rw [hdropid]; exact hRJe) (by rw [hdropid]; exact hGCd) hGMe e40
  have z0d : Z0 I Id := by
    apply Z0_t (I1 := I0) _ (Z0_T t9)
    exact ⟨by rw [e47, vup_n (by omega)], by rw [e49, vup_n (by omega)]⟩
  have z0f : ∀ (X : Nat → Nat → Int32) (w : Int32), Z0 I X → Z0 I (up (up (cdrop k X) 42 7 stp) 42 6 w) := by
    intro X w hx
    refine ⟨?_, ?_⟩
    · rw [up_ne (by decide), up_ne (by decide)]
      unfold cdrop
      rw [wr_ne (by decide), up_ne (by decide)]; exact hx.1
    · rw [up_ne (by decide), up_ne (by decide)]
      unfold cdrop
      rw [wr_48 (show k < 601 by omega), up_at, vup_n (by omega), up_ne (by decide)]; exact hx.2
  rcases t11 with ⟨r0, s51, s52, s16⟩ | ⟨r0, s51, s52, c, s16, cN, hc⟩ | ⟨r0, s51, s52⟩
  · -- quiet
    subst r0
    rw [if_neg (by decide), if_pos (by rfl)] at hC
    rw [if_pos s52, if_pos s51] at hM
    by_cases hrat : I 42 4 = 0
    · rw [if_pos hrat] at hC hM
      rw [h106, if_neg (by decide)] at hC
      exact ⟨_, _, _, _, z0f _ _ z0d, hC, hM, failD 1 (Or.inl rfl)⟩
    · rw [if_neg hrat] at hC hM
      by_cases hs0 : sz k = 0
      · rw [hs0, if_pos (by decide), h106, if_neg (by decide)] at hC
        rw [hs0, if_pos (by rfl)] at hM
        exact ⟨_, _, _, _, z0f _ _ z0d, hC, hM, failD 1 (Or.inl rfl)⟩
      · rw [if_neg (nI_nle (show 0 < sz k by omega) (by omega))] at hC
        have l0 := lit_ok (v := v') (J := J') hO.1 hBe k1 k2 (show 0 < sz k by omega)
        rw [nI_0] at l0
        rw [if_neg (nI_ne0 (show 0 < sz k by omega) (by omega)), l0] at hM
        simp only [bnd_x] at hM
        have hp := hlit 0 (by omega)
        obtain ⟨a, u1, u2, u3, u4⟩ := t6.2.1 (-lt k 0) (L_neg hp)
        obtain ⟨I1, I2, r', w, p0, p1, p2, p3, p4, p5⟩ := partners (v := v) (v' := v') (J := J) (J' := J') hO (k := k) (was := h) (a0 := a) (b0 := a + (ul N sz lt (-lt k 0)).length) k1 k2 (p := lt k 0) u3 N 1 a zfu zfu Id Ie (ul N sz lt (-lt k 0)) (by omega) (by omega) rfl rfl u4 hRJe s52 hOPe hOBe (by omega) (by omega)
        have hwp : fX3_weighPartners 42 (nI k) (st Id v J) = some (nI r', st I1 v J) := by
          unfold fX3_weighPartners
          have hl0 := hDd.2.2 k 0 k1 k2 (by omega)
          rw [nI_0] at hl0
          simp only [bnd_x, gd_0, gd_1, gd_o0, gd_o1, ite_self, rf_1_0, rf_1_1, rf_1_5, rf_1_6, rf_1_7, rf_2_0, rf_4_0, rf_6_0, rf_6_1, rf_6_2, rf_7_0, rf_9_0, rf_11_0, rf_13_0, rf_13_1, rf_13_2, rf_14_0, rf_16_0, rf_18_0, rf_20_0, rf_20_1, rf_20_2, rf_21_0, rf_23_0, rf_25_0, rf_27_0, rf_29_0, rf_29_1, rf_29_2, rf_29_3, rf_29_4, rf_29_5, rf_30_0, rf_32_0, rf_34_0, rf_36_0, rf_38_0, rf_40_0, rf_42_0, rf_42_1, rf_42_2, rf_42_3, rf_43_0, rf_43_1, rf_43_2, rf_44_0, rf_46_0, rf_48_0, rf_50_0, rf_52_0, rf_52_1, rf_52_2, rf_52_3, rf_52_4, rf_52_5, rf_52_6, rf_52_7, rf_52_8, rf_52_9, rf_52_10, rf_52_11, rf_53_0, rf_55_0, rf_57_0, rf_59_0, rf_61_0, rf_63_0, rf_65_0, rf_67_0, rf_69_0, rf_71_0, rf_73_0, a_7, p_7, f_7, c_7, a_9, p_9, f_9, c_9, a_11, p_11, f_11, c_11, a_14, p_14, f_14, c_14, a_16, p_16, f_16, c_16, a_18, p_18, f_18, c_18, a_21, p_21, f_21, c_21, a_23, p_23, f_23, c_23, a_25, p_25, f_25, c_25, a_30, p_30, f_30, c_30, a_32, p_32, f_32, c_32, a_34, p_34, f_34, c_34, a_36, p_36, f_36, c_36, a_38, p_38, f_38, c_38, a_40, p_40, f_40, c_40, a_44, p_44, f_44, c_44, a_46, p_46, f_46, c_46, a_48, p_48, f_48, c_48, a_50, p_50, f_50, c_50, a_53, p_53, f_53, c_53, a_55, p_55, f_55, c_55, a_57, p_57, f_57, c_57, a_59, p_59, f_59, c_59, a_61, p_61, f_61, c_61, a_63, p_63, f_63, c_63, a_65, p_65, f_65, c_65, a_67, p_67, f_67, c_67, a_69, p_69, f_69, c_69, a_71, p_71, f_71, c_71, a_73, p_73, f_73, c_73, c_1, i_1, w_1, z0_1, z1_1, c_2, i_2, w_2, z0_2, z1_2, c_4, i_4, w_4, z0_4, z1_4, c_6, i_6, w_6, z0_6, z1_6, c_13, i_13, w_13, z0_13, z1_13, c_20, i_20, w_20, z0_20, z1_20, c_27, i_27, w_27, z0_27, z1_27, c_28, i_28, w_28, z0_28, z1_28, c_29, i_29, w_29, z0_29, z1_29, c_42, i_42, w_42, z0_42, z1_42, c_43, i_43, w_43, z0_43, z1_43, c_52, i_52, w_52, z0_52, z1_52, X1_size, X1_literal, X1_numberOfStep, X1_ofFormula, X1_inAll, X1_user, X9_codeOf, X1_firstUse, X1_endOfUses, X2_open, X2_at, X2_clear, X4_fuelLeft, X4_isActive, X4_isMarked, X4_mark, X4_usedCount, X4_usedAt, X4_setActive, X4_forget, X4_truthOf, ca_ok, cdr_ok, hl0, u1, u2]
          exact p1
        rw [show (1 : Int32) = nI 1 from rfl, p2] at hM
        rw [hwp] at hC
        simp only [bnd_x] at hC
        have p42 : I1 42 = I 42 := by rw [p3 42 (by omega), d42]
        rcases p5 with ⟨q1, q2, q3, q4, q5⟩ | ⟨q1, q2, q3⟩
        · rw [q1, if_pos (by rfl)] at hC
          simp only [bnd_x, gd_0, gd_1, gd_o0, gd_o1, ite_self, rf_1_0, rf_1_1, rf_1_5, rf_1_6, rf_1_7, rf_2_0, rf_4_0, rf_6_0, rf_6_1, rf_6_2, rf_7_0, rf_9_0, rf_11_0, rf_13_0, rf_13_1, rf_13_2, rf_14_0, rf_16_0, rf_18_0, rf_20_0, rf_20_1, rf_20_2, rf_21_0, rf_23_0, rf_25_0, rf_27_0, rf_29_0, rf_29_1, rf_29_2, rf_29_3, rf_29_4, rf_29_5, rf_30_0, rf_32_0, rf_34_0, rf_36_0, rf_38_0, rf_40_0, rf_42_0, rf_42_1, rf_42_2, rf_42_3, rf_43_0, rf_43_1, rf_43_2, rf_44_0, rf_46_0, rf_48_0, rf_50_0, rf_52_0, rf_52_1, rf_52_2, rf_52_3, rf_52_4, rf_52_5, rf_52_6, rf_52_7, rf_52_8, rf_52_9, rf_52_10, rf_52_11, rf_53_0, rf_55_0, rf_57_0, rf_59_0, rf_61_0, rf_63_0, rf_65_0, rf_67_0, rf_69_0, rf_71_0, rf_73_0, a_7, p_7, f_7, c_7, a_9, p_9, f_9, c_9, a_11, p_11, f_11, c_11, a_14, p_14, f_14, c_14, a_16, p_16, f_16, c_16, a_18, p_18, f_18, c_18, a_21, p_21, f_21, c_21, a_23, p_23, f_23, c_23, a_25, p_25, f_25, c_25, a_30, p_30, f_30, c_30, a_32, p_32, f_32, c_32, a_34, p_34, f_34, c_34, a_36, p_36, f_36, c_36, a_38, p_38, f_38, c_38, a_40, p_40, f_40, c_40, a_44, p_44, f_44, c_44, a_46, p_46, f_46, c_46, a_48, p_48, f_48, c_48, a_50, p_50, f_50, c_50, a_53, p_53, f_53, c_53, a_55, p_55, f_55, c_55, a_57, p_57, f_57, c_57, a_59, p_59, f_59, c_59, a_61, p_61, f_61, c_61, a_63, p_63, f_63, c_63, a_65, p_65, f_65, c_65, a_67, p_67, f_67, c_67, a_69, p_69, f_69, c_69, a_71, p_71, f_71, c_71, a_73, p_73, f_73, c_73, c_1, i_1, w_1, z0_1, z1_1, c_2, i_2, w_2, z0_2, z1_2, c_4, i_4, w_4, z0_4, z1_4, c_6, i_6, w_6, z0_6, z1_6, c_13, i_13, w_13, z0_13, z1_13, c_20, i_20, w_20, z0_20, z1_20, c_27, i_27, w_27, z0_27, z1_27, c_28, i_28, w_28, z0_28, z1_28, c_29, i_29, w_29, z0_29, z1_29, c_42, i_42, w_42, z0_42, z1_42, c_43, i_43, w_43, z0_43, z1_43, c_52, i_52, w_52, z0_52, z1_52, X1_size, X1_literal, X1_numberOfStep, X1_ofFormula, X1_inAll, X1_user, X9_codeOf, X1_firstUse, X1_endOfUses, X2_open, X2_at, X2_clear, X4_fuelLeft, X4_isActive, X4_isMarked, X4_mark, X4_usedCount, X4_usedAt, X4_setActive, X4_forget, X4_truthOf, ca_ok, cdr_ok] at hC
          refine ⟨_, _, _, _, Z0_t (Z0_t z0d p0) ⟨by rw [up_ne (by decide)], by rw [up_ne (by decide)]⟩, hC, hM, ?_, ?_, ?_, ⟨?_, ?_⟩, ⟨?_, ?_⟩, Or.inl ⟨rfl, by rw [q2]; rfl, q4, ?_, ?_⟩⟩
          · apply RJ_fr q3
            · intro a ha; exact up_ne (fun q => by subst q; exact absurd ha (by decide))
            · intro j _; rw [up_ne (by decide)]
            · intro a _; rfl
            · intro j _; rfl
            · exact HR_fr q3.2.2.2.2.2.2.2.2 (by rw [up_ne (by decide)]) (up_ne (by decide)) (up_ne (by decide)) (up_ne (by decide)) rfl rfl rfl rfl
          · rw [up_at, vup_n (by decide), p42, p4.2 39 (by omega), hGMe.2 39 (by omega)]; exact h39
          · rw [up_self, q5, e40, p42, h40]
          · intro a ha; rw [up_ne (by omega), p3 a (by omega)]; exact hGCd a (by omega)
          · intro j j1 j2 j3 j4; rw [up_at, vup_n j4, p42]
          · intro a ha; rw [p4.1 a ha, hGMe.1 a ha]
          · intro j hj; rw [p4.2 j (by omega), hGMe.2 j (by omega)]
          · rw [up_at, vup_n (by decide), p42]
          · rw [up_at, vup_n (by decide), p42]
        · have hr1 : ¬ nI r' = 1 := by
            rcases q1 with ⟨q, -⟩ | ⟨q, -⟩ <;> rw [q] <;> decide
          rw [if_neg hr1, h106] at hC
          have hcd : GC I (cdrop k I1) := by
            intro a ha
            have hob1 : I1 47 k = I1 47 k := rfl
            unfold cdrop
            rw [wr_ne (by omega), up_ne (by omega), p3 a ha, hGCd a ha]
          have hw : (if nI r' = 2 then (2 : Int32) else 1) = nI w ∧ (nI w = 1 ∨ nI w = 2) := by
            rcases q1 with ⟨q, q'⟩ | ⟨q, q'⟩ <;> rw [q, q'] <;> decide
          rw [hw.1] at hC
          exact ⟨_, _, _, _, z0f _ _ (Z0_t z0d p0), hC, hM, failed I1 I2 (nI w) hw.2 q2 hcd (GM_t hGMe p4) (by rw [q3, e40])⟩
  · -- a conflict
    subst r0
    rw [if_pos (by rfl)] at hC
    rw [if_pos s52, if_neg (by rw [s51]; decide)] at hM
    obtain ⟨If, Ig, Ih, g1, g2, g3, g4, g5, g6, g49, g7, g8, g9, g10⟩ := settle (v := v) (v' := v') (J := J) (J' := J') hO t6 s16 cN hc k2 t8 hOPe
    rw [g1] at hC
    rw [g3] at hM
    simp only [bnd_x, gd_0, gd_1, gd_o0, gd_o1, ite_self, rf_1_0, rf_1_1, rf_1_5, rf_1_6, rf_1_7, rf_2_0, rf_4_0, rf_6_0, rf_6_1, rf_6_2, rf_7_0, rf_9_0, rf_11_0, rf_13_0, rf_13_1, rf_13_2, rf_14_0, rf_16_0, rf_18_0, rf_20_0, rf_20_1, rf_20_2, rf_21_0, rf_23_0, rf_25_0, rf_27_0, rf_29_0, rf_29_1, rf_29_2, rf_29_3, rf_29_4, rf_29_5, rf_30_0, rf_32_0, rf_34_0, rf_36_0, rf_38_0, rf_40_0, rf_42_0, rf_42_1, rf_42_2, rf_42_3, rf_43_0, rf_43_1, rf_43_2, rf_44_0, rf_46_0, rf_48_0, rf_50_0, rf_52_0, rf_52_1, rf_52_2, rf_52_3, rf_52_4, rf_52_5, rf_52_6, rf_52_7, rf_52_8, rf_52_9, rf_52_10, rf_52_11, rf_53_0, rf_55_0, rf_57_0, rf_59_0, rf_61_0, rf_63_0, rf_65_0, rf_67_0, rf_69_0, rf_71_0, rf_73_0, a_7, p_7, f_7, c_7, a_9, p_9, f_9, c_9, a_11, p_11, f_11, c_11, a_14, p_14, f_14, c_14, a_16, p_16, f_16, c_16, a_18, p_18, f_18, c_18, a_21, p_21, f_21, c_21, a_23, p_23, f_23, c_23, a_25, p_25, f_25, c_25, a_30, p_30, f_30, c_30, a_32, p_32, f_32, c_32, a_34, p_34, f_34, c_34, a_36, p_36, f_36, c_36, a_38, p_38, f_38, c_38, a_40, p_40, f_40, c_40, a_44, p_44, f_44, c_44, a_46, p_46, f_46, c_46, a_48, p_48, f_48, c_48, a_50, p_50, f_50, c_50, a_53, p_53, f_53, c_53, a_55, p_55, f_55, c_55, a_57, p_57, f_57, c_57, a_59, p_59, f_59, c_59, a_61, p_61, f_61, c_61, a_63, p_63, f_63, c_63, a_65, p_65, f_65, c_65, a_67, p_67, f_67, c_67, a_69, p_69, f_69, c_69, a_71, p_71, f_71, c_71, a_73, p_73, f_73, c_73, c_1, i_1, w_1, z0_1, z1_1, c_2, i_2, w_2, z0_2, z1_2, c_4, i_4, w_4, z0_4, z1_4, c_6, i_6, w_6, z0_6, z1_6, c_13, i_13, w_13, z0_13, z1_13, c_20, i_20, w_20, z0_20, z1_20, c_27, i_27, w_27, z0_27, z1_27, c_28, i_28, w_28, z0_28, z1_28, c_29, i_29, w_29, z0_29, z1_29, c_42, i_42, w_42, z0_42, z1_42, c_43, i_43, w_43, z0_43, z1_43, c_52, i_52, w_52, z0_52, z1_52, X1_size, X1_literal, X1_numberOfStep, X1_ofFormula, X1_inAll, X1_user, X9_codeOf, X1_firstUse, X1_endOfUses, X2_open, X2_at, X2_clear, X4_fuelLeft, X4_isActive, X4_isMarked, X4_mark, X4_usedCount, X4_usedAt, X4_setActive, X4_forget, X4_truthOf, ca_ok, cdr_ok, g2] at hC
    simp only [bnd_x, gd_0, gd_1, gd_o0, gd_o1, ite_self, rf_75_1, rf_75_3, rf_75_12, rf_75_13, rf_75_14, rf_75_15, rf_75_16, rf_75_17, rf_75_18, rf_75_22, rf_75_23, rf_75_24, rf_75_25, rf_75_31, rf_75_32, rf_75_41, rf_75_42, rf_75_43, rf_75_44, rf_75_45, rf_75_46, rf_75_47, rf_75_48, rf_75_53, rf_75_54, rf_75_55, rf_75_57, c_75, i_75, w_75, z0_75, z1_75] at hM
    have hSOg : SO Ig N sz := SO_fr t7 (g7 12 (by decide)) (g8 60 (by decide) (by decide) (by decide) (by decide) (by decide) (by decide) (by decide))
    have hRJg := RN_RJ g4 hSOg g5
    have g42 : Ig 42 = I 42 := by rw [g8 42 (by decide) (by decide) (by decide) (by decide) (by decide) (by decide) (by decide), d42]
    have z0g : Z0 Id Ig := ⟨by rw [g8 47 (by decide) (by decide) (by decide) (by decide) (by decide) (by decide) (by decide)], by rw [g49 0 (by omega)]⟩
    refine ⟨_, _, _, _, Z0_t (Z0_t z0d z0g) ⟨by rw [up_ne (by decide)], by rw [up_ne (by decide)]⟩, hC, hM, ?_, ?_, ?_, ⟨?_, ?_⟩, ⟨?_, ?_⟩, Or.inl ⟨rfl, rfl, ?_, ?_, ?_⟩⟩
    · apply RJ_fr hRJg
      · intro a ha; exact up_ne (fun q => by subst q; exact absurd ha (by decide))
      · intro j _; rw [up_ne (by decide)]
      · intro a ha; exact up_ne (fun q => by subst q; exact absurd ha (by decide))
      · intro j hj; rw [up_at, vup_n (fun q => by subst q; exact absurd hj (by decide))]
      · exact HR_fr g5 (by rw [up_ne (by decide)]) (up_ne (by decide)) (up_ne (by decide)) (up_ne (by decide)) (by rw [up_at, vup_n (by decide)]) (up_ne (by decide)) (up_ne (by decide)) (up_ne (by decide))
    · rw [up_self, up_self, g42, g9 39 (by decide), hGMe.2 39 (by omega), h39]
    · rw [up_at, vup_n (by decide), up_at, vup_n (by decide), g42, g9 40 (by decide), e40, h40]
    · intro a ha; rw [up_ne (by omega), g8 a (by omega) (by omega) (by omega) (by omega) (by omega) (by omega) (by omega)]; exact hGCd a (by omega)
    · intro j j1 j2 j3 j4; rw [up_at, vup_n j3, g42]
    · intro a ha; rw [up_ne (by omega), g10 a (by omega) (by omega) (by omega) (by omega) (by omega)]; exact hGMe.1 a (by omega)
    · intro j hj; rw [up_at, vup_n (by omega), g9 j (by omega), hGMe.2 j (by omega)]
    · rw [up_at, vup_n (by decide), g9 52 (by decide)]; exact s52
    · rw [up_at, vup_n (by decide), g42]
    · rw [up_at, vup_n (by decide), g42]
  · -- out of fuel
    subst r0
    rw [if_neg (by decide), if_neg (by decide), h106, if_pos (by rfl)] at hC
    rw [if_neg (by rw [s52]; decide)] at hM
    exact ⟨_, _, _, _, z0f _ _ z0d, hC, hM, failD 2 (Or.inr rfl)⟩
end
