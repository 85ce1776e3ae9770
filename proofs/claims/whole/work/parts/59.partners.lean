/-! Partners; an addition is weighed. -/
section
variable {N : Nat} {sz : Nat → Nat} {lt : Nat → Nat → Int32}
theorem ca_ok {v : zV} {J : Nat → Nat → Int64} {I : Nat → Nat → Int32} (k : Nat) (x : Int32) : fX2_add 43 (nI k) x (st I v J) = some (st (cadd k I x) v J) := X2_add (nI k) x
theorem cdr_ok {v : zV} {J : Nat → Nat → Int64} {I : Nat → Nat → Int32} (k : Nat) : fX2_drop 43 (nI k) (st I v J) = some (st (cdrop k I) v J) := X2_drop (nI k)
def GC (I I1 : Nat → Nat → Int32) : Prop := ∀ a, a ≤ 42 ∨ a = 51 ∨ a = 54 ∨ a = 60 ∨ 74 < a → I1 a = I a
def GM (I I1 : Nat → Nat → Int32) : Prop := (∀ a, (a < 92 ∧ a ≠ 75) ∨ a = 95 ∨ 101 < a → I1 a = I a) ∧ (∀ j, j < 38 ∨ 56 < j ∨ j = 39 → I1 75 j = I 75 j)
theorem GC_t {I I1 I2 : Nat → Nat → Int32} (h : GC I I1) (h' : GC I1 I2) : GC I I2 := fun a ha => by rw [h' a ha, h a ha]
theorem GM_t {I I1 I2 : Nat → Nat → Int32} (h : GM I I1) (h' : GM I1 I2) : GM I I2 := ⟨fun a ha => by rw [h'.1 a ha, h.1 a ha], fun j hj => by rw [h'.2 j hj, h.2 j hj]⟩
theorem GC_T {I I1 : Nat → Nat → Int32} (h : FrT I I1) : GC I I1 := fun a ha => h a (by omega) (by omega) (by omega) (by omega) (by omega) (by omega) (by omega)
theorem GM_F {I I1 : Nat → Nat → Int32} (h : FrM I I1) : GM I I1 := ⟨fun a ha => h.1 a (by omega) (by omega) (by omega) (by omega), fun j hj => h.2 j (by omega) (by omega) (by omega) (by omega) (by omega)⟩
/-- what adding a hint keeps -/
theorem RN_add {I I' : Nat → Nat → Int32} {n k : Nat} {x : Int32} (h : RN I I' n N sz lt) : RN (cadd k I x) (radd k I' x) n N sz lt := by
  obtain ⟨hD, hU, hB, hA, hT, hL, hP, hS⟩ := h
  obtain ⟨c1, c2⟩ := cadd_fr (k := k) (I := I) (x := x)
  obtain ⟨r1, r2⟩ := radd_fr (k := k) (I := I') (x := x)
  have c : ∀ a, a ≠ 43 → a ≠ 45 → a ≠ 49 → cadd k I x a = I a := c1
  have r : ∀ a, a ≠ 75 → a ≠ 99 → a ≠ 101 → radd k I' x a = I' a := r1
  refine ⟨DBC_fr hD (c 29 (by decide) (by decide) (by decide)) (c 31 (by decide) (by decide) (by decide)) (c 33 (by decide) (by decide) (by decide)), USC_fr hU (c 37 (by decide) (by decide) (by decide)) (c 39 (by decide) (by decide) (by decide)) (c 41 (by decide) (by decide) (by decide)), DBR_fr hB (r2 33 (by decide)) (r2 19 (by decide)) (r _ (by decide) (by decide) (by decide)) (r _ (by decide) (by decide) (by decide)) (r _ (by decide) (by decide) (by decide)) (r _ (by decide) (by decide) (by decide)) (r _ (by decide) (by decide) (by decide)) (r _ (by decide) (by decide) (by decide)) (r _ (by decide) (by decide) (by decide)), ?_, ?_, ?_, ?_, ?_⟩
  · intro q q1 q2
    rw [c 54 (by decide) (by decide) (by decide), c 56 (by decide) (by decide) (by decide), r 91 (by decide) (by decide) (by decide), r 92 (by decide) (by decide) (by decide)]; exact hA q q1 q2
  · unfold TI
    rw [c 52 (by decide) (by decide) (by decide), c 64 (by decide) (by decide) (by decide), c 68 (by decide) (by decide) (by decide)]; exact hT
  · intro q q1 q2
    rw [c 58 (by decide) (by decide) (by decide), c 64 (by decide) (by decide) (by decide)]; exact hL q q1 q2
  · unfold PE
    rw [c 52 (by decide) (by decide) (by decide), c 64 (by decide) (by decide) (by decide), c 68 (by decide) (by decide) (by decide), c 70 (by decide) (by decide) (by decide), r 96 (by decide) (by decide) (by decide), r 97 (by decide) (by decide) (by decide), r 98 (by decide) (by decide) (by decide), r2 49 (by decide), r2 38 (by decide), r2 50 (by decide)]; exact hP
  · unfold RS
    rw [c 68 (by decide) (by decide) (by decide), c 70 (by decide) (by decide) (by decide)]; exact hS
/-- the hints of number 0 stay -/
def Z0 (I I1 : Nat → Nat → Int32) : Prop := I1 47 0 = I 47 0 ∧ I1 49 0 = I 49 0
theorem Z0_t {I I1 I2 : Nat → Nat → Int32} (h : Z0 I I1) (h' : Z0 I1 I2) : Z0 I I2 := ⟨h'.1.trans h.1, h'.2.trans h.2⟩
theorem Z0_T {I I1 : Nat → Nat → Int32} (h : FrT I I1) : Z0 I I1 := ⟨by rw [h 47 (by decide) (by decide) (by decide) (by decide) (by decide) (by decide) (by decide)], by rw [h 49 (by decide) (by decide) (by decide) (by decide) (by decide) (by decide) (by decide)]⟩
theorem partners {v v' : zV} {J J' : Nat → Nat → Int64} (hO : OKD N sz lt) {k was a0 b0 : Nat} (k1 : 1 ≤ k) (k2 : k ≤ N) {p : Int32} (hb0 : b0 ≤ 4000) : ∀ (e d u m m' : Nat) (I I' : Nat → Nat → Int32) (L : List Nat), d + e = N + 1 → 1 ≤ d → L = (List.range' d e).filter (fun q => hs sz lt q (-p)) → u + L.length = b0 → (∀ t, t < L.length → I 37 (u + t) = nI (L.getD t 0)) → RJ I I' N sz lt → I' 75 52 = 0 → OP I I' k → OB I N k was → L.length < m → e < m' →
    ∃ I1 I2 r w, Z0 I I1 ∧ fX3_weighPartners_30 m 42 (nI k) (-p) (nI b0) (nI u) (st I v J) = some (nI r, st I1 v J) ∧ fX10_weighed_119 m' 75 (nI k) (nI was) p (nI d) (st I' v' J') = some (nI w, st I2 v' J') ∧ GC I I1 ∧ GM I' I2 ∧
      ((r = 1 ∧ w = 0 ∧ RJ I1 I2 N sz lt ∧ I2 75 52 = 0 ∧ I2 75 40 = I' 75 40 + 1) ∨ (((r = 0 ∧ w = 1) ∨ (r = 2 ∧ w = 2)) ∧ RJ (cdrop k I1) I2 N sz lt ∧ I2 75 40 = I' 75 40)) := by
  have hN := hO.1
  have hz := zfu_big
  intro e
  induction e with
  | zero =>
    intro d u m m' I I' L hd hd1 hL hu hus hRJ h52 hOP hOB hm hm'
    have hL0 : L = [] := by rw [hL]; rfl
    subst hL0
    obtain ⟨m, rfl⟩ : ∃ q, m = q + 1 := ⟨m - 1, by have : 0 < m := hm; omega⟩
    obtain ⟨m', rfl⟩ : ∃ q, m' = q + 1 := ⟨m' - 1, by omega⟩
    have hub : u = b0 := by simpa using hu
    refine ⟨I, up I' 75 40 (I' 75 40 + 1), 1, 0, ⟨rfl, rfl⟩, ?_, ?_, fun _ _ => rfl, ⟨fun a ha => up_ne (by omega), fun j hj => by rw [up_at, vup_n (by omega)]⟩, Or.inl ⟨rfl, rfl, ?_, ?_, ?_⟩⟩
    · unfold fX3_weighPartners_30
      rw [if_pos (nI_le (show b0 ≤ u by omega) (show u < 2 ^ 31 by omega))]; rfl
    · unfold fX10_weighed_119
      simp only [bnd_x, gd_0, gd_1, gd_o0, gd_o1, ite_self, rf_75_1, rf_75_3, rf_75_12, rf_75_13, rf_75_14, rf_75_15, rf_75_16, rf_75_17, rf_75_18, rf_75_22, rf_75_23, rf_75_24, rf_75_25, rf_75_31, rf_75_32, rf_75_41, rf_75_42, rf_75_43, rf_75_44, rf_75_45, rf_75_46, rf_75_47, rf_75_48, rf_75_53, rf_75_54, rf_75_55, rf_75_57, c_75, i_75, w_75, z0_75, z1_75, hRJ.2.2.1.1, if_pos (nI_lt (show N < d by omega) (show d < 2 ^ 31 by omega))]
      rfl
    · apply RJ_fr hRJ (fun _ _ => rfl) (fun _ _ => rfl)
      · intro a ha; exact up_ne (fun q => by subst q; exact absurd ha (by decide))
      · intro j hj; rw [up_at, vup_n (fun q => by subst q; exact absurd hj (by decide))]
      · exact HR_fr hRJ.2.2.2.2.2.2.2.2 rfl rfl rfl rfl (by rw [up_at, vup_n (by decide)]) (up_ne (by decide)) (up_ne (by decide)) (up_ne (by decide))
    · rw [up_at, vup_n (by decide)]; exact h52
    · rw [up_self]
  | succ e ih =>
    intro d u m m' I I' L hd hd1 hL hu hus hRJ h52 hOP hOB hm hm'
    obtain ⟨m', rfl⟩ : ∃ q, m' = q + 1 := ⟨m' - 1, by omega⟩
    have hd2 : d ≤ N := by omega
    have hr : List.range' d (e + 1) = d :: List.range' (d + 1) e := by simp [List.range'_succ]
    rw [hr, List.filter_cons] at hL
    have hAM := hRJ.2.2.2.1
    obtain ⟨am1, am2, am3, am4⟩ := hAM d hd1 hd2
    have hB := hRJ.2.2.1
    have hstepM : fX10_weighed_119 (m' + 1) 75 (nI k) (nI was) p (nI d) (st I' v' J') = if I 54 d = 0 then fX10_weighed_119 m' 75 (nI k) (nI was) p (nI (d + 1)) (st I' v' J') else if hs sz lt d (-p) = true then fX10_weighed_160 (fX10_weighed_119 m') zfu 75 (nI k) (nI was) p (nI d) 0 (st (mbeg I') v' J') else fX10_weighed_119 m' 75 (nI k) (nI was) p (nI (d + 1)) (st I' v' J') := by
      conv => lhs; unfold fX10_weighed_119
      simp only [bnd_x, gd_0, gd_1, gd_o0, gd_o1, ite_self, rf_75_1, rf_75_3, rf_75_12, rf_75_13, rf_75_14, rf_75_15, rf_75_16, rf_75_17, rf_75_18, rf_75_22, rf_75_23, rf_75_24, rf_75_25, rf_75_31, rf_75_32, rf_75_41, rf_75_42, rf_75_43, rf_75_44, rf_75_45, rf_75_46, rf_75_47, rf_75_48, rf_75_53, rf_75_54, rf_75_55, rf_75_57, c_75, i_75, w_75, z0_75, z1_75, hB.1, if_neg (nI_nlt hd2 (show N < 2 ^ 31 by omega)), qa_91 (show d < 601 by omega), am1, fX10_weighed_299, nI_1, has_ok hO hB hd1 hd2, begin_ok]
      cases hs sz lt d (-p) <;> simp [b2]
    by_cases hh : hs sz lt d (-p) = true
    · rw [if_pos hh] at hL
      have hlen : L.length = ((List.range' (d + 1) e).filter (fun q => hs sz lt q (-p))).length + 1 := by rw [hL]; rfl
      obtain ⟨m, rfl⟩ : ∃ q, m = q + 1 := ⟨m - 1, by omega⟩
      have hu0 : I 37 u = nI d := by
        have := hus 0 (by omega)
        rw [hL] at this
        simpa using this
      have hus' : ∀ t, t < ((List.range' (d + 1) e).filter (fun q => hs sz lt q (-p))).length → I 37 (u + 1 + t) = nI (((List.range' (d + 1) e).filter (fun q => hs sz lt q (-p))).getD t 0) := by
        intro t ht
        have := hus (t + 1) (by omega)
        rw [hL] at this
        rw [show u + 1 + t = u + (t + 1) by omega, this]
        simp
      by_cases ha : I 54 d = 0
      · obtain ⟨I1, I2, r, w, f0, f1, f2, f3⟩ := ih (d + 1) (u + 1) m m' I I' _ (by omega) (by omega) rfl (by omega) hus' hRJ h52 hOP hOB (by omega) (by omega)
        refine ⟨I1, I2, r, w, f0, ?_, by rw [hstepM, if_pos ha, f2], f3⟩
        conv => lhs; unfold fX3_weighPartners_30
        simp only [if_neg (nI_ge (show u < b0 by omega) (show b0 < 2 ^ 31 by omega)), bnd_x, gd_0, gd_1, gd_o0, gd_o1, ite_self, rf_1_0, rf_1_1, rf_1_5, rf_1_6, rf_1_7, rf_2_0, rf_4_0, rf_6_0, rf_6_1, rf_6_2, rf_7_0, rf_9_0, rf_11_0, rf_13_0, rf_13_1, rf_13_2, rf_14_0, rf_16_0, rf_18_0, rf_20_0, rf_20_1, rf_20_2, rf_21_0, rf_23_0, rf_25_0, rf_27_0, rf_29_0, rf_29_1, rf_29_2, rf_29_3, rf_29_4, rf_29_5, rf_30_0, rf_32_0, rf_34_0, rf_36_0, rf_38_0, rf_40_0, rf_42_0, rf_42_1, rf_42_2, rf_42_3, rf_43_0, rf_43_1, rf_43_2, rf_44_0, rf_46_0, rf_48_0, rf_50_0, rf_52_0, rf_52_1, rf_52_2, rf_52_3, rf_52_4, rf_52_5, rf_52_6, rf_52_7, rf_52_8, rf_52_9, rf_52_10, rf_52_11, rf_53_0, rf_55_0, rf_57_0, rf_59_0, rf_61_0, rf_63_0, rf_65_0, rf_67_0, rf_69_0, rf_71_0, rf_73_0, a_7, p_7, f_7, c_7, a_9, p_9, f_9, c_9, a_11, p_11, f_11, c_11, a_14, p_14, f_14, c_14, a_16, p_16, f_16, c_16, a_18, p_18, f_18, c_18, a_21, p_21, f_21, c_21, a_23, p_23, f_23, c_23, a_25, p_25, f_25, c_25, a_30, p_30, f_30, c_30, a_32, p_32, f_32, c_32, a_34, p_34, f_34, c_34, a_36, p_36, f_36, c_36, a_38, p_38, f_38, c_38, a_40, p_40, f_40, c_40, a_44, p_44, f_44, c_44, a_46, p_46, f_46, c_46, a_48, p_48, f_48, c_48, a_50, p_50, f_50, c_50, a_53, p_53, f_53, c_53, a_55, p_55, f_55, c_55, a_57, p_57, f_57, c_57, a_59, p_59, f_59, c_59, a_61, p_61, f_61, c_61, a_63, p_63, f_63, c_63, a_65, p_65, f_65, c_65, a_67, p_67, f_67, c_67, a_69, p_69, f_69, c_69, a_71, p_71, f_71, c_71, a_73, p_73, f_73, c_73, c_1, i_1, w_1, z0_1, z1_1, c_2, i_2, w_2, z0_2, z1_2, c_4, i_4, w_4, z0_4, z1_4, c_6, i_6, w_6, z0_6, z1_6, c_13, i_13, w_13, z0_13, z1_13, c_20, i_20, w_20, z0_20, z1_20, c_27, i_27, w_27, z0_27, z1_27, c_28, i_28, w_28, z0_28, z1_28, c_29, i_29, w_29, z0_29, z1_29, c_42, i_42, w_42, z0_42, z1_42, c_43, i_43, w_43, z0_43, z1_43, c_52, i_52, w_52, z0_52, z1_52, X1_size, X1_literal, X1_numberOfStep, X1_ofFormula, X1_inAll, X1_user, X9_codeOf, X1_firstUse, X1_endOfUses, X2_open, X2_at, X2_clear, X4_fuelLeft, X4_isActive, X4_isMarked, X4_mark, X4_usedCount, X4_usedAt, X4_setActive, X4_forget, X4_truthOf, ca_ok, cdr_ok, rd_36 (show u < 4000 by omega), hu0, rd_53 (show d < 601 by omega), fX3_weighPartners_135, nI_1]
        rw [if_pos (by rw [ha]; rfl), f1]
      · obtain ⟨Ia, Ib, Ic, Id, Ie, r, t1, t2, t3, t4, t5, ⟨n, t6⟩, t7, t8, t9, t10, t11⟩ := try2 (v := v) (v' := v') (J := J) (J' := J') hO hRJ h52 k1 k2 hd1 hd2 (-p)
        have hmb : MI (mbeg I') := by
          obtain ⟨Iz, z1, z2, z3⟩ := restart_lock (v := v) (J := J) hO hRJ
          exact RN_MI z2
        have hlit := (hO.2 k k1 k2).2.1
        have hlit2 := (hO.2 d hd1 hd2).2.1
        have h40 := (hO.2 k k1 k2).1
        have h402 := (hO.2 d hd1 hd2).1
        have hM1 : MI (mas (mbeg I') (ops lt k 0 (sz k) 0)) := mas_MI _ _ hmb (ops_L hlit (sz k) 0 (by omega))
        have hB1 : DBR (mas (mbeg I') (ops lt k 0 (sz k) 0)) N sz lt := FrM_DBR (FrM_t (mbeg_FrM I') (mas_FrM _ _)) hB
        have l160 := w160_loop (v := v') (J := J') hO k1 k2 (fX10_weighed_119 m') (nI was) p (nI d) (sz k) 0 zfu (mbeg I') (by omega) (by omega) (FrM_DBR (mbeg_FrM I') hB) hmb
        obtain ⟨f', l191⟩ := w191_loop (v := v') (J := J') hO hd1 hd2 (fX10_weighed_119 m') (nI k) (nI was) p (sz d) 0 zfu (mas (mbeg I') (ops lt k 0 (sz k) 0)) (by omega) (by omega) hB1 hM1
        rw [nI_0] at l160 l191
        have hB2 : DBR (mas (mas (mbeg I') (ops lt k 0 (sz k) 0)) (ops lt d (-p) (sz d) 0)) N sz lt := FrM_DBR (mas_FrM _ _) hB1
        have hOPe : OP Id Ie k := OP_fr hOP (by rw [t9 43 (by decide) (by decide) (by decide) (by decide) (by decide) (by decide) (by decide)]) (t9 47 (by decide) (by decide) (by decide) (by decide) (by decide) (by decide) (by decide)) (t9 49 (by decide) (by decide) (by decide) (by decide) (by decide) (by decide) (by decide)) (t10.1 100 (by decide) (by decide) (by decide) (by decide)) (t10.1 101 (by decide) (by decide) (by decide) (by decide))
        have hOBe : OB Id N k was := OB_fr hOB (t9 47 (by decide) (by decide) (by decide) (by decide) (by decide) (by decide) (by decide)) (fun q _ => by rw [t9 49 (by decide) (by decide) (by decide) (by decide) (by decide) (by decide) (by decide)])
        have hstepC : fX3_weighPartners_30 (m + 1) 42 (nI k) (-p) (nI b0) (nI u) (st I v J) = if nI r = 1 then bnd (fX4_gatherUsed 52 (st (cadd k Id (-nI d)) v J)) fun q64 => bnd (cl q64 3 42 (fX3_keepUsed 42 (nI k) q64)) fun q67 => bnd (qR q67 3 42 1) fun x70 => bnd (cl q67 4 x70 (fX4_mark x70 (nI d) q67)) fun q73 => fX3_weighPartners_30 m 42 (nI k) (-p) (nI b0) (nI (u + 1)) q73 else some (nI r, st Id v J) := by
          conv => lhs; unfold fX3_weighPartners_30
          simp only [if_neg (nI_ge (show u < b0 by omega) (show b0 < 2 ^ 31 by omega)), bnd_x, gd_0, gd_1, gd_o0, gd_o1, ite_self, rf_1_0, rf_1_1, rf_1_5, rf_1_6, rf_1_7, rf_2_0, rf_4_0, rf_6_0, rf_6_1, rf_6_2, rf_7_0, rf_9_0, rf_11_0, rf_13_0, rf_13_1, rf_13_2, rf_14_0, rf_16_0, rf_18_0, rf_20_0, rf_20_1, rf_20_2, rf_21_0, rf_23_0, rf_25_0, rf_27_0, rf_29_0, rf_29_1, rf_29_2, rf_29_3, rf_29_4, rf_29_5, rf_30_0, rf_32_0, rf_34_0, rf_36_0, rf_38_0, rf_40_0, rf_42_0, rf_42_1, rf_42_2, rf_42_3, rf_43_0, rf_43_1, rf_43_2, rf_44_0, rf_46_0, rf_48_0, rf_50_0, rf_52_0, rf_52_1, rf_52_2, rf_52_3, rf_52_4, rf_52_5, rf_52_6, rf_52_7, rf_52_8, rf_52_9, rf_52_10, rf_52_11, rf_53_0, rf_55_0, rf_57_0, rf_59_0, rf_61_0, rf_63_0, rf_65_0, rf_67_0, rf_69_0, rf_71_0, rf_73_0, a_7, p_7, f_7, c_7, a_9, p_9, f_9, c_9, a_11, p_11, f_11, c_11, a_14, p_14, f_14, c_14, a_16, p_16, f_16, c_16, a_18, p_18, f_18, c_18, a_21, p_21, f_21, c_21, a_23, p_23, f_23, c_23, a_25, p_25, f_25, c_25, a_30, p_30, f_30, c_30, a_32, p_32, f_32, c_32, a_34, p_34, f_34, c_34, a_36, p_36, f_36, c_36, a_38, p_38, f_38, c_38, a_40, p_40, f_40, c_40, a_44, p_44, f_44, c_44, a_46, p_46, f_46, c_46, a_48, p_48, f_48, c_48, a_50, p_50, f_50, c_50, a_53, p_53, f_53, c_53, a_55, p_55, f_55, c_55, a_57, p_57, f_57, c_57, a_59, p_59, f_59, c_59, a_61, p_61, f_61, c_61, a_63, p_63, f_63, c_63, a_65, p_65, f_65, c_65, a_67, p_67, f_67, c_67, a_69, p_69, f_69, c_69, a_71, p_71, f_71, c_71, a_73, p_73, f_73, c_73, c_1, i_1, w_1, z0_1, z1_1, c_2, i_2, w_2, z0_2, z1_2, c_4, i_4, w_4, z0_4, z1_4, c_6, i_6, w_6, z0_6, z1_6, c_13, i_13, w_13, z0_13, z1_13, c_20, i_20, w_20, z0_20, z1_20, c_27, i_27, w_27, z0_27, z1_27, c_28, i_28, w_28, z0_28, z1_28, c_29, i_29, w_29, z0_29, z1_29, c_42, i_42, w_42, z0_42, z1_42, c_43, i_43, w_43, z0_43, z1_43, c_52, i_52, w_52, z0_52, z1_52, X1_size, X1_literal, X1_numberOfStep, X1_ofFormula, X1_inAll, X1_user, X9_codeOf, X1_firstUse, X1_endOfUses, X2_open, X2_at, X2_clear, X4_fuelLeft, X4_isActive, X4_isMarked, X4_mark, X4_usedCount, X4_usedAt, X4_setActive, X4_forget, X4_truthOf, ca_ok, cdr_ok, rd_36 (show u < 4000 by omega), hu0, rd_53 (show d < 601 by omega), fX3_weighPartners_135, nI_1, nz, if_neg ha, if_neg (show ¬ (1 : Int32) = 0 by decide), t1, t2, t3, t4]
        have hM : fX10_weighed_119 (m' + 1) 75 (nI k) (nI was) p (nI d) (st I' v' J') = if Ie 75 52 = 0 then (if Ie 75 51 = 0 then fX10_weighed_253 75 (nI k) (nI was) (st Ie v' J') else bnd (fX10_keepHint 75 (-nI d) (nI k) (st Ie v' J')) fun q76 => bnd (cl q76 10 75 (fX10_uses 75 (nI k) q76)) fun q79 => bnd (qR q79 10 75 42) fun x82 => bnd (uZ q79 x82 (nI d) 1) fun s85 => fX10_weighed_119 m' 75 (nI k) (nI was) p (nI (d + 1)) s85) else fX10_weighed_253 75 (nI k) (nI was) (st Ie v' J') := by
          rw [hstepM, if_neg ha, if_pos hh, l160, l191]
          conv => lhs; unfold fX10_weighed_191
          simp only [long_ok hO.1 hB2 hd1 hd2, bnd_x, gd_0, gd_1, gd_o0, gd_o1, ite_self, rf_75_1, rf_75_3, rf_75_12, rf_75_13, rf_75_14, rf_75_15, rf_75_16, rf_75_17, rf_75_18, rf_75_22, rf_75_23, rf_75_24, rf_75_25, rf_75_31, rf_75_32, rf_75_41, rf_75_42, rf_75_43, rf_75_44, rf_75_45, rf_75_46, rf_75_47, rf_75_48, rf_75_53, rf_75_54, rf_75_55, rf_75_57, c_75, i_75, w_75, z0_75, z1_75, if_pos (nI_le (Nat.le_refl (sz d)) (show sz d < 2 ^ 31 by omega)), t5, fX10_weighed_299, nI_1]
        have h253 : fX10_weighed_253 75 (nI k) (nI was) (st Ie v' J') = some (if Ie 75 52 = 0 then 1 else 2, st (up (up Ie 75 56 (nI was)) 101 k 0) v' J') := by
          unfold fX10_weighed_253
          simp only [bnd_x, gd_0, gd_1, gd_o0, gd_o1, ite_self, rf_75_1, rf_75_3, rf_75_12, rf_75_13, rf_75_14, rf_75_15, rf_75_16, rf_75_17, rf_75_18, rf_75_22, rf_75_23, rf_75_24, rf_75_25, rf_75_31, rf_75_32, rf_75_41, rf_75_42, rf_75_43, rf_75_44, rf_75_45, rf_75_46, rf_75_47, rf_75_48, rf_75_53, rf_75_54, rf_75_55, rf_75_57, c_75, i_75, w_75, z0_75, z1_75, ua_101 (show k < 601 by omega)]
          rw [up_ne (show (75 : Nat) ≠ 101 by decide), up_at, vup_n (by decide)]
          split <;> rfl
        have hfail : RJ (cdrop k Id) (up (up Ie 75 56 (nI was)) 101 k 0) N sz lt ∧ GM I' (up (up Ie 75 56 (nI was)) 101 k 0) ∧ (up (up Ie 75 56 (nI was)) 101 k 0) 75 40 = I' 75 40 := by
          refine ⟨?_, ?_, ?_⟩
          · have hrj := RN_RJ t6 t7 t8
            apply RJ_fr hrj
            · intro a ha
              rw [cdrop_e (by omega) hOBe.1, up_ne (fun q => by subst q; exact absurd ha (by decide)), up_ne (fun q => by subst q; exact absurd ha (by decide))]
            · intro j hj
              rw [cdrop_e (by omega) hOBe.1, up_ne (by decide), up_ne (by decide)]
            · intro a ha
              rw [up_ne (fun q => by subst q; exact absurd ha (by decide)), up_ne (fun q => by subst q; exact absurd ha (by decide))]
            · intro j hj
              rw [up_ne (by decide), up_at, vup_n (fun q => by subst q; exact absurd hj (by decide))]
            · exact drop_HR hN k2 t8 hOBe hOPe
          · apply GM_t (GM_F t10)
            exact ⟨fun a ha => by rw [up_ne (by omega), up_ne (by omega)], fun j hj => by rw [up_ne (by decide), up_at, vup_n (by omega)]⟩
          · rw [up_ne (by decide), up_at, vup_n (by decide)]
            exact t10.2 40 (by decide) (by decide) (by decide) (by decide) (by decide)
        rcases t11 with ⟨r0, s51, s52, s16⟩ | ⟨r0, s51, s52, c, s16, cN, hc⟩ | ⟨r0, s51, s52⟩
        · refine ⟨Id, _, 0, 1, Z0_T t9, ?_, ?_, GC_T t9, hfail.2.1, Or.inr ⟨Or.inl ⟨rfl, rfl⟩, hfail.1, hfail.2.2⟩⟩
          · rw [hstepC, r0, if_neg (by decide)]
          · rw [hM, if_pos s52, if_pos s51, h253, if_pos s52]; rfl
        · have hadd := add_lock hN k2 (-nI d) t8 hOPe
          have hRNa : RN (cadd k Id (-nI d)) (radd k Ie (-nI d)) n N sz lt := RN_add t6
          obtain ⟨c1, c2⟩ := cadd_fr (k := k) (I := Id) (x := -nI d)
          obtain ⟨r1, r2⟩ := radd_fr (k := k) (I := Ie) (x := -nI d)
          obtain ⟨If, Ig, Ih, g1, g2, g3, g4, g5, g6, g49, g7, g8, g9, g10⟩ := settle (v := v) (v' := v') (J := J) (J' := J') hO hRNa (by rw [c1 52 (by decide) (by decide) (by decide)]; exact s16) cN (by rw [c1 64 (by decide) (by decide) (by decide)]; exact hc) k2 hadd.1 hadd.2
          have hhb : hb Ie := by obtain ⟨h, x1, -, x2, -⟩ := t8; exact ⟨h, x1, x2⟩
          obtain ⟨kh1, kh2⟩ := radd_ok (v := v') (J := J') (show k < 601 by omega) hhb (-nI d)
          have hAMg := g4.2.2.2.1
          have hSOg : SO Ig N sz := SO_fr t7 (by rw [g7 12 (by decide), c1 52 (by decide) (by decide) (by decide)]) (by rw [g8 60 (by decide) (by decide) (by decide) (by decide) (by decide) (by decide) (by decide), c1 60 (by decide) (by decide) (by decide)])
          have hRJg := RN_RJ g4 hSOg g5
          have hRJ2 : RJ (up Ig 56 d 1) (up Ih 92 d 1) N sz lt := by
            apply RJ_am hRJg
            · intro a ha; exact up_ne (fun q => by subst q; exact absurd ha (by decide))
            · intro j _; rw [up_ne (by decide)]
            · intro a ha; exact up_ne (fun q => by subst q; exact absurd ha (by decide))
            · intro j _; rw [up_ne (by decide)]
            · intro q q1 q2
              obtain ⟨x1, x2, x3, x4⟩ := hAMg q q1 q2
              rw [up_ne (show (54 : Nat) ≠ 56 by decide), up_ne (show (91 : Nat) ≠ 92 by decide), up_at, up_at]
              by_cases e : q = d
              · subst e; rw [vup_s, vup_s]; exact ⟨x1, rfl, x3, Or.inr rfl⟩
              · rw [vup_n e, vup_n e]; exact ⟨x1, x2, x3, x4⟩
            · exact HR_fr g5 (by rw [up_ne (by decide)]) (up_ne (by decide)) (up_ne (by decide)) (up_ne (by decide)) (by rw [up_ne (by decide)]) (up_ne (by decide)) (up_ne (by decide)) (up_ne (by decide))
          have hGC : GC I (up Ig 56 d 1) := by
            intro a ha
            rw [up_ne (by omega), g8 a (by omega) (by omega) (by omega) (by omega) (by omega) (by omega) (by omega), c1 a (by omega) (by omega) (by omega)]
            exact GC_T t9 a ha
          have hGM : GM I' (up Ih 92 d 1) := by
            apply GM_t (GM_F t10)
            refine ⟨fun a ha => ?_, fun j hj => ?_⟩
            · rw [up_ne (by omega), g10 a (by omega) (by omega) (by omega) (by omega) (by omega), r1 a (by omega) (by omega) (by omega)]
            · rw [up_ne (by decide), g9 j (by omega), r2 j (by omega)]
          obtain ⟨I1, I2, r', w, f0, f1, f2, f3, f4, f5⟩ := ih (d + 1) (u + 1) m m' (up Ig 56 d 1) (up Ih 92 d 1) _ (by omega) (by omega) rfl (by omega) (by rw [hGC 37 (by omega)]; exact hus') hRJ2 (by rw [up_ne (by decide), g9 52 (by decide), r2 52 (by decide)]; exact s52) (OP_fr g6 (by rw [up_ne (by decide)]) (up_ne (by decide)) (up_ne (by decide)) (up_ne (by decide)) (up_ne (by decide))) (OB_fr (OB_fr hOBe (by rw [g8 47 (by decide) (by decide) (by decide) (by decide) (by decide) (by decide) (by decide), c1 47 (by decide) (by decide) (by decide)]) (fun q hq => by rw [g49 q hq, cadd_49 (by omega) hq])) (up_ne (by decide)) (fun q _ => by rw [up_ne (by decide)])) (by omega) (by omega)
          have h40e : up Ih 92 d 1 75 40 = I' 75 40 := by
            rw [up_ne (by decide), g9 40 (by decide), r2 40 (by decide)]
            exact t10.2 40 (by decide) (by decide) (by decide) (by decide) (by decide)
          rw [h40e] at f5
          have hz0 : Z0 I (up Ig 56 d 1) := by
            apply Z0_t (Z0_T t9)
            refine ⟨?_, ?_⟩
            · rw [up_ne (by decide), g8 47 (by decide) (by decide) (by decide) (by decide) (by decide) (by decide) (by decide), c1 47 (by decide) (by decide) (by decide)]
            · rw [up_ne (by decide), g49 0 (by omega), cadd_49 (by omega) (by omega)]
          refine ⟨I1, I2, r', w, Z0_t hz0 f0, ?_, ?_, GC_t hGC f3, GM_t hGM f4, f5⟩
          · rw [hstepC, r0, if_pos (by decide), g1]
            simp only [bnd_x, gd_0, gd_1, gd_o0, gd_o1, ite_self, rf_1_0, rf_1_1, rf_1_5, rf_1_6, rf_1_7, rf_2_0, rf_4_0, rf_6_0, rf_6_1, rf_6_2, rf_7_0, rf_9_0, rf_11_0, rf_13_0, rf_13_1, rf_13_2, rf_14_0, rf_16_0, rf_18_0, rf_20_0, rf_20_1, rf_20_2, rf_21_0, rf_23_0, rf_25_0, rf_27_0, rf_29_0, rf_29_1, rf_29_2, rf_29_3, rf_29_4, rf_29_5, rf_30_0, rf_32_0, rf_34_0, rf_36_0, rf_38_0, rf_40_0, rf_42_0, rf_42_1, rf_42_2, rf_42_3, rf_43_0, rf_43_1, rf_43_2, rf_44_0, rf_46_0, rf_48_0, rf_50_0, rf_52_0, rf_52_1, rf_52_2, rf_52_3, rf_52_4, rf_52_5, rf_52_6, rf_52_7, rf_52_8, rf_52_9, rf_52_10, rf_52_11, rf_53_0, rf_55_0, rf_57_0, rf_59_0, rf_61_0, rf_63_0, rf_65_0, rf_67_0, rf_69_0, rf_71_0, rf_73_0, a_7, p_7, f_7, c_7, a_9, p_9, f_9, c_9, a_11, p_11, f_11, c_11, a_14, p_14, f_14, c_14, a_16, p_16, f_16, c_16, a_18, p_18, f_18, c_18, a_21, p_21, f_21, c_21, a_23, p_23, f_23, c_23, a_25, p_25, f_25, c_25, a_30, p_30, f_30, c_30, a_32, p_32, f_32, c_32, a_34, p_34, f_34, c_34, a_36, p_36, f_36, c_36, a_38, p_38, f_38, c_38, a_40, p_40, f_40, c_40, a_44, p_44, f_44, c_44, a_46, p_46, f_46, c_46, a_48, p_48, f_48, c_48, a_50, p_50, f_50, c_50, a_53, p_53, f_53, c_53, a_55, p_55, f_55, c_55, a_57, p_57, f_57, c_57, a_59, p_59, f_59, c_59, a_61, p_61, f_61, c_61, a_63, p_63, f_63, c_63, a_65, p_65, f_65, c_65, a_67, p_67, f_67, c_67, a_69, p_69, f_69, c_69, a_71, p_71, f_71, c_71, a_73, p_73, f_73, c_73, c_1, i_1, w_1, z0_1, z1_1, c_2, i_2, w_2, z0_2, z1_2, c_4, i_4, w_4, z0_4, z1_4, c_6, i_6, w_6, z0_6, z1_6, c_13, i_13, w_13, z0_13, z1_13, c_20, i_20, w_20, z0_20, z1_20, c_27, i_27, w_27, z0_27, z1_27, c_28, i_28, w_28, z0_28, z1_28, c_29, i_29, w_29, z0_29, z1_29, c_42, i_42, w_42, z0_42, z1_42, c_43, i_43, w_43, z0_43, z1_43, c_52, i_52, w_52, z0_52, z1_52, X1_size, X1_literal, X1_numberOfStep, X1_ofFormula, X1_inAll, X1_user, X9_codeOf, X1_firstUse, X1_endOfUses, X2_open, X2_at, X2_clear, X4_fuelLeft, X4_isActive, X4_isMarked, X4_mark, X4_usedCount, X4_usedAt, X4_setActive, X4_forget, X4_truthOf, ca_ok, cdr_ok, g2, wr_55 (show d < 601 by omega)]
            rw [f1]
          · rw [hM, if_pos s52, if_neg (by rw [s51]; decide), kh1]
            simp only [bnd_x, gd_0, gd_1, gd_o0, gd_o1, ite_self, rf_75_1, rf_75_3, rf_75_12, rf_75_13, rf_75_14, rf_75_15, rf_75_16, rf_75_17, rf_75_18, rf_75_22, rf_75_23, rf_75_24, rf_75_25, rf_75_31, rf_75_32, rf_75_41, rf_75_42, rf_75_43, rf_75_44, rf_75_45, rf_75_46, rf_75_47, rf_75_48, rf_75_53, rf_75_54, rf_75_55, rf_75_57, c_75, i_75, w_75, z0_75, z1_75, g3, uz_92 (show d < 601 by omega) (Or.inr rfl)]
            rw [f2]
        · refine ⟨Id, _, 2, 2, Z0_T t9, ?_, ?_, GC_T t9, hfail.2.1, Or.inr ⟨Or.inr ⟨rfl, rfl⟩, hfail.1, hfail.2.2⟩⟩
          · rw [hstepC, r0, if_neg (by decide)]
          · rw [hM, if_neg (by rw [s52]; decide), h253, if_neg (by rw [s52]; decide)]; rfl
    · rw [if_neg hh] at hL
      obtain ⟨I1, I2, r, w, f0, f1, f2, f3⟩ := ih (d + 1) u m m' I I' L (by omega) (by omega) hL hu hus hRJ h52 hOP hOB hm (by omega)
      refine ⟨I1, I2, r, w, f0, f1, ?_, f3⟩
      rw [hstepM]
      split
      · exact f2
      · exact f2
end
