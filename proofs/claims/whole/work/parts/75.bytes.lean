/-! A proof in bytes: class and reference. -/
section
variable {f n : Nat} {e : Nat → Nat} {d : Nat → Bool} {T : Nat → Int32} {L : Nat}
theorem byte_i (x : Int32) : ∃ k, k < 256 ∧ x &&& 255 = nI k := by
  refine ⟨(x &&& 255).toBitVec.toNat, ?_, ?_⟩
  · rw [Int32.toBitVec_and, BitVec.toNat_and]
    exact Nat.lt_of_le_of_lt Nat.and_le_right (by decide)
  · apply Int32.toBitVec_inj.mp
    show _ = BitVec.ofNat 32 _
    simp
theorem two_byte {x y : Int32} {a b : Nat} (ha : a < 256) (hb : b < 256) (hx : x = nI a) (hy : y = nI b) (h1 : ¬ x < 128) (h2 : ¬ y = 0) : ¬ (x - 128) + (128 * y) = 0 := by
  subst hx; subst hy
  have ha' : 128 ≤ a := by
    apply Classical.byContradiction
    intro q
    exact h1 (nI_lt (b := 128) (by omega) (by decide))
  have hb' : b ≠ 0 := fun q => h2 (by rw [q]; rfl)
  have e : (nI a - 128) + (128 * nI b) = nI (a - 128 + 128 * b) := by
    rw [show (128 : Int32) = nI 128 from rfl, nI_sub ha', show nI 128 * nI b = nI (128 * b) from (Int32.ofNat_mul 128 b).symm, nI_add]
  rw [e]
  exact nI_ne0 (by omega) (by omega)
theorem code_tab : ∀ c, c < 302 → 2 ≤ c → (if (nI c &&& 1) = 0 then nI c / 2 else -(nI c / 2)) = lc c ∧ (if (nI c - nI c / 2 * 2) = 0 then nI c / 2 else -(nI c / 2)) = lc c := by decide +kernel
theorem code_i {x : Int32} (h1 : ¬ x < 2) (h2 : x ≤ 301) : ∃ c, 2 ≤ c ∧ c < 302 ∧ x = nI c := by
  rw [Int32.lt_iff_toInt_lt] at h1
  rw [Int32.le_iff_toInt_le] at h2
  have e1 : (2 : Int32).toInt = 2 := rfl
  have e2 : (301 : Int32).toInt = 301 := rfl
  rw [e1] at h1; rw [e2] at h2
  refine ⟨x.toInt.toNat, by omega, by omega, ?_⟩
  apply Int32.toInt_inj.mp
  rw [nI_toInt (by omega)]
  omega
theorem isL_bd {x : Int32} (h : isL x) : ¬ x < -nI 150 ∧ x ≤ nI 150 := ⟨Int32.not_lt.mpr h.2.1, h.2.2⟩
/-- a code, behind its bytes -/
theorem code_lock {v v' : zV} {J J' : Nat → Nat → Int64} {I I' : Nat → Nat → Int32} {w : Nat → Int32} {b g r t : Nat} (hv : VV v b f) (h : RO I I' f n e w d g r t) (k7 : I 27 7 = 0) (h8 : I' 75 8 = 0) (h30 : I' 75 30 = nI 150) (W c : Int32) (hc : ¬ c = 0) :
    (∃ I1 I2, fX5_readByteLiteral_104 27 W c (st I v J) = some (st I1 v J) ∧ fX10_readNumber_141 75 W c (st I' v' J') = some (0, st I2 v' J') ∧ RF I1 I2 f n e w d g ∧ FK I1 I2 ∧ I1 27 7 ≠ 0 ∧ FCr I I1 f ∧ FMr I' I2)
    ∨ (∃ I1 I2 w' g', fX5_readByteLiteral_104 27 W c (st I v J) = some (st I1 v J) ∧ fX10_readNumber_141 75 W c (st I' v' J') = some (1, st I2 v' J') ∧ RO I1 I2 f n e w' d g' (r + 1) (t + 1) ∧ I1 27 7 = 0 ∧ I1 27 8 = I 27 8 ∧ I1 27 4 = I 27 4 ∧ I2 75 8 = 0 ∧ FCr I I1 f ∧ FMr I' I2 ∧ (∀ j, j < 26 → I2 75 j = I' 75 j)) := by
  have hf := hv.2.2.2.2
  have w8 : ∀ y : Int32, y ≠ 0 → ∀ p, ¬ wg I' y p 75 8 = 0 := fun y hy p => by
    unfold wg; rw [if_pos h8, up_at, vup_n (by decide), up_self]; exact hy
  have bad : (c < 2 ∨ ¬ c ≤ 301) → (∃ I1 I2, fX5_readByteLiteral_104 27 W c (st I v J) = some (st I1 v J) ∧ fX10_readNumber_141 75 W c (st I' v' J') = some (0, st I2 v' J') ∧ RF I1 I2 f n e w d g ∧ FK I1 I2 ∧ I1 27 7 ≠ 0 ∧ FCr I I1 f ∧ FMr I' I2) := by
    intro hb
    have h116 : fX5_readByteLiteral_116 27 W (st I v J) = some (st (ktw I 2 W) v J) := by
      unfold fX5_readByteLiteral_116
      simp only [bnd_x, gd_0, gd_1, gd_o0, gd_o1, ite_self, rf_1_0, rf_1_1, rf_1_5, rf_1_6, rf_1_7, rf_2_0, rf_4_0, rf_6_0, rf_6_1, rf_6_2, rf_7_0, rf_9_0, rf_11_0, rf_13_0, rf_13_1, rf_13_2, rf_14_0, rf_16_0, rf_18_0, rf_20_0, rf_20_1, rf_20_2, rf_21_0, rf_23_0, rf_25_0, rf_27_0, rf_29_0, rf_29_1, rf_29_2, rf_29_3, rf_29_4, rf_29_5, rf_30_0, rf_32_0, rf_34_0, rf_36_0, rf_38_0, rf_40_0, rf_42_0, rf_42_1, rf_42_2, rf_42_3, rf_43_0, rf_43_1, rf_43_2, rf_44_0, rf_46_0, rf_48_0, rf_50_0, rf_52_0, rf_52_1, rf_52_2, rf_52_3, rf_52_4, rf_52_5, rf_52_6, rf_52_7, rf_52_8, rf_52_9, rf_52_10, rf_52_11, rf_53_0, rf_55_0, rf_57_0, rf_59_0, rf_61_0, rf_63_0, rf_65_0, rf_67_0, rf_69_0, rf_71_0, rf_73_0, a_7, p_7, f_7, c_7, a_9, p_9, f_9, c_9, a_11, p_11, f_11, c_11, a_14, p_14, f_14, c_14, a_16, p_16, f_16, c_16, a_18, p_18, f_18, c_18, a_21, p_21, f_21, c_21, a_23, p_23, f_23, c_23, a_25, p_25, f_25, c_25, a_30, p_30, f_30, c_30, a_32, p_32, f_32, c_32, a_34, p_34, f_34, c_34, a_36, p_36, f_36, c_36, a_38, p_38, f_38, c_38, a_40, p_40, f_40, c_40, a_44, p_44, f_44, c_44, a_46, p_46, f_46, c_46, a_48, p_48, f_48, c_48, a_50, p_50, f_50, c_50, a_53, p_53, f_53, c_53, a_55, p_55, f_55, c_55, a_57, p_57, f_57, c_57, a_59, p_59, f_59, c_59, a_61, p_61, f_61, c_61, a_63, p_63, f_63, c_63, a_65, p_65, f_65, c_65, a_67, p_67, f_67, c_67, a_69, p_69, f_69, c_69, a_71, p_71, f_71, c_71, a_73, p_73, f_73, c_73, c_1, i_1, w_1, z0_1, z1_1, c_2, i_2, w_2, z0_2, z1_2, c_4, i_4, w_4, z0_4, z1_4, c_6, i_6, w_6, z0_6, z1_6, c_13, i_13, w_13, z0_13, z1_13, c_20, i_20, w_20, z0_20, z1_20, c_27, i_27, w_27, z0_27, z1_27, c_28, i_28, w_28, z0_28, z1_28, c_29, i_29, w_29, z0_29, z1_29, c_42, i_42, w_42, z0_42, z1_42, c_43, i_43, w_43, z0_43, z1_43, c_52, i_52, w_52, z0_52, z1_52, X1_size, X1_literal, X1_numberOfStep, X1_ofFormula, X1_inAll, X1_user, X9_codeOf, X1_firstUse, X1_endOfUses, X2_open, X2_at, X2_add, X2_drop, X2_clear, X4_fuelLeft, X4_isActive, X4_isMarked, X4_mark, X4_usedCount, X4_usedAt, X4_setActive, X4_forget, X4_truthOf, blame_ok]
    have h159 : fX10_readNumber_159 75 W (st I' v' J') = some (0, st (wg I' 2 W) v' J') := by
      unfold fX10_readNumber_159 fX10_readNumber_189
      simp only [bnd_x, gd_0, gd_1, gd_o0, gd_o1, ite_self, rf_75_1, rf_75_3, rf_75_12, rf_75_13, rf_75_14, rf_75_15, rf_75_16, rf_75_17, rf_75_18, rf_75_22, rf_75_23, rf_75_24, rf_75_25, rf_75_31, rf_75_32, rf_75_41, rf_75_42, rf_75_43, rf_75_44, rf_75_45, rf_75_46, rf_75_47, rf_75_48, rf_75_53, rf_75_54, rf_75_55, rf_75_57, c_75, i_75, w_75, z0_75, z1_75, wrong_ok, if_neg (w8 2 (by decide) W)]
    refine ⟨ktw I 2 W, wg I' 2 W, ?_, ?_, RF_blame hf h.1 _ _ _ _, FK_blame _ _ h8 (by decide), by unfold ktw; rw [up_at, vup_n (by decide), up_self]; decide, FCr_ktw hf _ _, FMr_wg _ _⟩
    · unfold fX5_readByteLiteral_104
      rw [h116]
      rcases hb with q | q
      · rw [if_pos q]
      · rw [if_neg q]; simp only [ite_self]
    · unfold fX10_readNumber_141
      rw [if_neg hc, h159]
      rcases hb with q | q
      · rw [if_pos q]
      · rw [if_neg q]; simp only [ite_self]
  by_cases c1 : c < 2
  · exact Or.inl (bad (Or.inl c1))
  · by_cases c2 : c ≤ 301
    · obtain ⟨k, k1, k2, rfl⟩ := code_i c1 c2
      obtain ⟨q1, q2⟩ := code_tab k k2 k1
      have hL := lc_isL k1 k2
      obtain ⟨lo, hi⟩ := isL_bd hL
      have eC : fX5_readByteLiteral_104 27 W (nI k) (st I v J) = bnd (fX5_takeLiteral 27 (lc k) W (st I v J)) fun q => some q := by
        unfold fX5_readByteLiteral_104 fX5_readByteLiteral_142
        rw [if_neg c1, if_pos c2, ← q1]
        simp only [bnd_x, gd_0, gd_1, gd_o0, gd_o1, ite_self, rf_1_0, rf_1_1, rf_1_5, rf_1_6, rf_1_7, rf_2_0, rf_4_0, rf_6_0, rf_6_1, rf_6_2, rf_7_0, rf_9_0, rf_11_0, rf_13_0, rf_13_1, rf_13_2, rf_14_0, rf_16_0, rf_18_0, rf_20_0, rf_20_1, rf_20_2, rf_21_0, rf_23_0, rf_25_0, rf_27_0, rf_29_0, rf_29_1, rf_29_2, rf_29_3, rf_29_4, rf_29_5, rf_30_0, rf_32_0, rf_34_0, rf_36_0, rf_38_0, rf_40_0, rf_42_0, rf_42_1, rf_42_2, rf_42_3, rf_43_0, rf_43_1, rf_43_2, rf_44_0, rf_46_0, rf_48_0, rf_50_0, rf_52_0, rf_52_1, rf_52_2, rf_52_3, rf_52_4, rf_52_5, rf_52_6, rf_52_7, rf_52_8, rf_52_9, rf_52_10, rf_52_11, rf_53_0, rf_55_0, rf_57_0, rf_59_0, rf_61_0, rf_63_0, rf_65_0, rf_67_0, rf_69_0, rf_71_0, rf_73_0, a_7, p_7, f_7, c_7, a_9, p_9, f_9, c_9, a_11, p_11, f_11, c_11, a_14, p_14, f_14, c_14, a_16, p_16, f_16, c_16, a_18, p_18, f_18, c_18, a_21, p_21, f_21, c_21, a_23, p_23, f_23, c_23, a_25, p_25, f_25, c_25, a_30, p_30, f_30, c_30, a_32, p_32, f_32, c_32, a_34, p_34, f_34, c_34, a_36, p_36, f_36, c_36, a_38, p_38, f_38, c_38, a_40, p_40, f_40, c_40, a_44, p_44, f_44, c_44, a_46, p_46, f_46, c_46, a_48, p_48, f_48, c_48, a_50, p_50, f_50, c_50, a_53, p_53, f_53, c_53, a_55, p_55, f_55, c_55, a_57, p_57, f_57, c_57, a_59, p_59, f_59, c_59, a_61, p_61, f_61, c_61, a_63, p_63, f_63, c_63, a_65, p_65, f_65, c_65, a_67, p_67, f_67, c_67, a_69, p_69, f_69, c_69, a_71, p_71, f_71, c_71, a_73, p_73, f_73, c_73, c_1, i_1, w_1, z0_1, z1_1, c_2, i_2, w_2, z0_2, z1_2, c_4, i_4, w_4, z0_4, z1_4, c_6, i_6, w_6, z0_6, z1_6, c_13, i_13, w_13, z0_13, z1_13, c_20, i_20, w_20, z0_20, z1_20, c_27, i_27, w_27, z0_27, z1_27, c_28, i_28, w_28, z0_28, z1_28, c_29, i_29, w_29, z0_29, z1_29, c_42, i_42, w_42, z0_42, z1_42, c_43, i_43, w_43, z0_43, z1_43, c_52, i_52, w_52, z0_52, z1_52, X1_size, X1_literal, X1_numberOfStep, X1_ofFormula, X1_inAll, X1_user, X9_codeOf, X1_firstUse, X1_endOfUses, X2_open, X2_at, X2_add, X2_drop, X2_clear, X4_fuelLeft, X4_isActive, X4_isMarked, X4_mark, X4_usedCount, X4_usedAt, X4_setActive, X4_forget, X4_truthOf]
        split <;> rfl
      have eM : fX10_readNumber_141 75 W (nI k) (st I' v' J') = bnd (fX10_literal 75 (lc k) W (st I' v' J')) fun q => fX10_readNumber_189 75 q := by
        unfold fX10_readNumber_141 fX10_readNumber_185
        rw [if_neg hc, if_neg c1, if_pos c2, ← q2]
        simp only [bnd_x, gd_0, gd_1, gd_o0, gd_o1, ite_self, rf_75_1, rf_75_3, rf_75_12, rf_75_13, rf_75_14, rf_75_15, rf_75_16, rf_75_17, rf_75_18, rf_75_22, rf_75_23, rf_75_24, rf_75_25, rf_75_31, rf_75_32, rf_75_41, rf_75_42, rf_75_43, rf_75_44, rf_75_45, rf_75_46, rf_75_47, rf_75_48, rf_75_53, rf_75_54, rf_75_55, rf_75_57, c_75, i_75, w_75, z0_75, z1_75]
        split <;> rfl
      have h189 : ∀ X : Nat → Nat → Int32, fX10_readNumber_189 75 (st X v' J') = some (if X 75 8 = 0 then 1 else 0, st X v' J') := by
        intro X
        unfold fX10_readNumber_189
        simp only [bnd_x, gd_0, gd_1, gd_o0, gd_o1, ite_self, rf_75_1, rf_75_3, rf_75_12, rf_75_13, rf_75_14, rf_75_15, rf_75_16, rf_75_17, rf_75_18, rf_75_22, rf_75_23, rf_75_24, rf_75_25, rf_75_31, rf_75_32, rf_75_41, rf_75_42, rf_75_43, rf_75_44, rf_75_45, rf_75_46, rf_75_47, rf_75_48, rf_75_53, rf_75_54, rf_75_55, rf_75_57, c_75, i_75, w_75, z0_75, z1_75]
        split <;> rfl
      rcases take_lock (v := v) (v' := v') (J := J) (J' := J') hv h h8 h30 hL lo hi W with ⟨I1, I2, t1, t2, t3, t4, t5, t6, t7⟩ | ⟨I1, I2, w', g', t1, t2, t3, t4, t5, t6, t7, t8, t9, t10, t11⟩
      · left
        have k7' : ¬ I1 27 7 = 0 := by rw [t5]; decide
        refine ⟨I1, I2, by rw [eC, t1, bnd_x], ?_, t3, t4, k7', t6, t7⟩
        rw [eM, t2, bnd_x, h189, if_neg (by rw [← t4.1]; exact k7')]
      · right
        refine ⟨I1, I2, w', g', by rw [eC, t1, bnd_x], ?_, t3, by rw [t4]; exact k7, t5, t6, t8, t9, t10, t11⟩
        rw [eM, t2, bnd_x, h189, if_pos t8]
    · exact Or.inl (bad (Or.inr c2))
theorem RO_27 {I I' : Nat → Nat → Int32} {w : Nat → Int32} {g r t : Nat} (h : RO I I' f n e w d g r t) (hf : f + 6 < 27) (x y : Int32) : RO (up I 27 4 x) (up I' 75 5 y) f n e w d g r t := by
  obtain ⟨h1, ⟨h2, h3, h4, h5⟩, h6⟩ := h
  exact ⟨RF_fr h1 (up_ne (by omega)) (up_ne (by omega)) (up_ne (by omega)) (up_ne (by omega)) (by rw [up_at, vup_n (by decide)]) (by rw [up_at, vup_n (by decide)]) (up_ne (by decide)) (up_ne (by decide)) (up_ne (by decide)) (up_ne (by decide)), ⟨by rw [up_at, vup_n (by decide)]; exact h2, by rw [up_at, vup_n (by decide)]; exact h3, by rw [up_at, vup_n (by decide)]; exact h4, by rw [up_at, vup_n (by decide)]; exact h5⟩, h6⟩
/-- a literal's bytes -/
theorem lit_b {v v' : zV} {J J' : Nat → Nat → Int64} {I I' : Nat → Nat → Int32} {w : Nat → Int32} {b g r t p : Nat} (hv : VV v b f) (hC : CS I b T L) (hR : RT I' T L) (h : RO I I' f n e w d g r t) (k7 : I 27 7 = 0) (h8 : I' 75 8 = 0) (h30 : I' 75 30 = nI 150) (h4 : I 27 4 = nI p) (h5 : I' 75 5 = nI p) (hp : p < L) (hT : ¬ T p = 0) :
    (∃ I1 I2, fX5_readByteLiteral 27 (st I v J) = some (st I1 v J) ∧ fX10_readNumber 75 (st I' v' J') = some (0, st I2 v' J') ∧ RF I1 I2 f n e w d g ∧ FK I1 I2 ∧ I1 27 7 ≠ 0 ∧ FCr I I1 f ∧ FMr I' I2)
    ∨ (∃ I1 I2 w' g' p', fX5_readByteLiteral 27 (st I v J) = some (st I1 v J) ∧ fX10_readNumber 75 (st I' v' J') = some (1, st I2 v' J') ∧ RO I1 I2 f n e w' d g' (r + 1) (t + 1) ∧ I1 27 7 = 0 ∧ I1 27 8 = I 27 8 ∧ p' ≤ L ∧ I1 27 4 = nI p' ∧ I2 75 5 = nI p' ∧ I2 75 8 = 0 ∧ FCr I I1 f ∧ FMr I' I2) := by
  obtain ⟨v1, v2, v3, hb, hf⟩ := hv
  have hv : VV v b f := ⟨v1, v2, v3, hb, hf⟩
  obtain ⟨b1, b2', b3, b4, b5, b6, b7⟩ := B_f hb hf
  have hb0 : v.2.2.2.1 ≠ 0 := by rw [v1]; exact (B_0 hb).2.2.2
  have hL := hR.1
  have bt : ∀ (x : Int32) (X : Nat → Nat → Int32), BT X b T L → BT (up X 27 4 x) b T L := fun x X hX => BT_fr hX (up_ne (by omega)) (up_ne (by omega))
  have e34 : ∀ x, up I 27 4 x 27 3 = nI L := fun x => by rw [up_at, vup_n (by decide)]; exact hC.2.2
  have FA : ∀ x, FCr I (up I 27 4 x) f := fun x => FCr_27 hf (by decide)
  have FM : ∀ x, FMr I' (up I' 75 5 x) := fun x => FMr_75 (by omega)
  have hRO : ∀ x y, RO (up I 27 4 x) (up I' 75 5 y) f n e w d g r t := fun x y => RO_27 h b6 x y
  have A7 : ∀ x, up I 27 4 x 27 7 = 0 := fun x => by rw [up_at, vup_n (by decide)]; exact k7
  have A8 : ∀ x, up I 27 4 x 27 8 = I 27 8 := fun x => by rw [up_at, vup_n (by decide)]
  have M8 : ∀ x, up I' 75 5 x 75 8 = 0 := fun x => by rw [up_at, vup_n (by decide)]; exact h8
  have M30 : ∀ x, up I' 75 5 x 75 30 = nI 150 := fun x => by rw [up_at, vup_n (by decide)]; exact h30
  have M4 : ∀ x, up I' 75 5 x 75 4 = nI L := fun x => by rw [up_at, vup_n (by decide)]; exact hR.2.1
  have ne1 : ¬ nI p = nI L := fun q => by have := (nI_eq (by omega) (by omega)).mp q; omega
  -- a fault ends it
  have bad : ∀ (W : Int32), fX5_readByteLiteral 27 (st I v J) = some (st (ktw (up I 27 4 (nI (p + 1))) 1 W) v J) → fX10_readNumber 75 (st I' v' J') = some (0, st (wg (up I' 75 5 (nI (p + 1))) 1 W) v' J') → (∃ I1 I2, fX5_readByteLiteral 27 (st I v J) = some (st I1 v J) ∧ fX10_readNumber 75 (st I' v' J') = some (0, st I2 v' J') ∧ RF I1 I2 f n e w d g ∧ FK I1 I2 ∧ I1 27 7 ≠ 0 ∧ FCr I I1 f ∧ FMr I' I2) := by
    intro W y1 y2
    exact ⟨_, _, y1, y2, RF_blame hf (hRO _ _).1 _ _ _ _, FK_blame _ _ (M8 _) (by decide), by unfold ktw; rw [up_at, vup_n (by decide), up_self]; decide, FCr_t (FA _) (FCr_ktw hf _ _), FMr_t (FM _) (FMr_wg _ _)⟩
  -- a code
  have good : ∀ (q : Nat) (c : Int32), q ≤ L → ¬ c = 0 → fX5_readByteLiteral 27 (st I v J) = fX5_readByteLiteral_104 27 (nI p) c (st (up I 27 4 (nI q)) v J) → fX10_readNumber 75 (st I' v' J') = fX10_readNumber_141 75 (nI p) c (st (up I' 75 5 (nI q)) v' J') →
      (∃ I1 I2, fX5_readByteLiteral 27 (st I v J) = some (st I1 v J) ∧ fX10_readNumber 75 (st I' v' J') = some (0, st I2 v' J') ∧ RF I1 I2 f n e w d g ∧ FK I1 I2 ∧ I1 27 7 ≠ 0 ∧ FCr I I1 f ∧ FMr I' I2)
      ∨ (∃ I1 I2 w' g' p', fX5_readByteLiteral 27 (st I v J) = some (st I1 v J) ∧ fX10_readNumber 75 (st I' v' J') = some (1, st I2 v' J') ∧ RO I1 I2 f n e w' d g' (r + 1) (t + 1) ∧ I1 27 7 = 0 ∧ I1 27 8 = I 27 8 ∧ p' ≤ L ∧ I1 27 4 = nI p' ∧ I2 75 5 = nI p' ∧ I2 75 8 = 0 ∧ FCr I I1 f ∧ FMr I' I2) := by
    intro q c hq hc y1 y2
    rcases code_lock (v := v) (v' := v') (J := J) (J' := J') hv (hRO (nI q) (nI q)) (A7 _) (M8 _) (M30 _) (nI p) c hc with ⟨I1, I2, t1, t2, t3, t4, t5, t6, t7⟩ | ⟨I1, I2, w', g', t1, t2, t3, t4, t5, t6, t7, t8, t9, t10⟩
    · exact Or.inl ⟨I1, I2, by rw [y1, t1], by rw [y2, t2], t3, t4, t5, FCr_t (FA _) t6, FMr_t (FM _) t7⟩
    · exact Or.inr ⟨I1, I2, w', g', q, by rw [y1, t1], by rw [y2, t2], t3, t4, by rw [t5, A8], hq, by rw [t6, up_self], by rw [t10 5 (by omega), up_self], t7, FCr_t (FA _) t8, FMr_t (FM _) t9⟩
  by_cases c1 : T p < 128
  · refine good (p + 1) (T p) (by omega) hT ?_ ?_
    · unfold fX5_readByteLiteral
      simp only [bnd_x, gd_0, gd_1, gd_o0, gd_o1, ite_self, rf_1_0, rf_1_1, rf_1_5, rf_1_6, rf_1_7, rf_2_0, rf_4_0, rf_6_0, rf_6_1, rf_6_2, rf_7_0, rf_9_0, rf_11_0, rf_13_0, rf_13_1, rf_13_2, rf_14_0, rf_16_0, rf_18_0, rf_20_0, rf_20_1, rf_20_2, rf_21_0, rf_23_0, rf_25_0, rf_27_0, rf_29_0, rf_29_1, rf_29_2, rf_29_3, rf_29_4, rf_29_5, rf_30_0, rf_32_0, rf_34_0, rf_36_0, rf_38_0, rf_40_0, rf_42_0, rf_42_1, rf_42_2, rf_42_3, rf_43_0, rf_43_1, rf_43_2, rf_44_0, rf_46_0, rf_48_0, rf_50_0, rf_52_0, rf_52_1, rf_52_2, rf_52_3, rf_52_4, rf_52_5, rf_52_6, rf_52_7, rf_52_8, rf_52_9, rf_52_10, rf_52_11, rf_53_0, rf_55_0, rf_57_0, rf_59_0, rf_61_0, rf_63_0, rf_65_0, rf_67_0, rf_69_0, rf_71_0, rf_73_0, a_7, p_7, f_7, c_7, a_9, p_9, f_9, c_9, a_11, p_11, f_11, c_11, a_14, p_14, f_14, c_14, a_16, p_16, f_16, c_16, a_18, p_18, f_18, c_18, a_21, p_21, f_21, c_21, a_23, p_23, f_23, c_23, a_25, p_25, f_25, c_25, a_30, p_30, f_30, c_30, a_32, p_32, f_32, c_32, a_34, p_34, f_34, c_34, a_36, p_36, f_36, c_36, a_38, p_38, f_38, c_38, a_40, p_40, f_40, c_40, a_44, p_44, f_44, c_44, a_46, p_46, f_46, c_46, a_48, p_48, f_48, c_48, a_50, p_50, f_50, c_50, a_53, p_53, f_53, c_53, a_55, p_55, f_55, c_55, a_57, p_57, f_57, c_57, a_59, p_59, f_59, c_59, a_61, p_61, f_61, c_61, a_63, p_63, f_63, c_63, a_65, p_65, f_65, c_65, a_67, p_67, f_67, c_67, a_69, p_69, f_69, c_69, a_71, p_71, f_71, c_71, a_73, p_73, f_73, c_73, c_1, i_1, w_1, z0_1, z1_1, c_2, i_2, w_2, z0_2, z1_2, c_4, i_4, w_4, z0_4, z1_4, c_6, i_6, w_6, z0_6, z1_6, c_13, i_13, w_13, z0_13, z1_13, c_20, i_20, w_20, z0_20, z1_20, c_27, i_27, w_27, z0_27, z1_27, c_28, i_28, w_28, z0_28, z1_28, c_29, i_29, w_29, z0_29, z1_29, c_42, i_42, w_42, z0_42, z1_42, c_43, i_43, w_43, z0_43, z1_43, c_52, i_52, w_52, z0_52, z1_52, X1_size, X1_literal, X1_numberOfStep, X1_ofFormula, X1_inAll, X1_user, X9_codeOf, X1_firstUse, X1_endOfUses, X2_open, X2_at, X2_add, X2_drop, X2_clear, X4_fuelLeft, X4_isActive, X4_isMarked, X4_mark, X4_usedCount, X4_usedAt, X4_setActive, X4_forget, X4_truthOf, h4, rv_27_1 hb0, v1, cl_st (B_0 hb).1, at_all hb, atv_ok hC.1 hp, nI_1, if_pos c1]
    · unfold fX10_readNumber
      simp only [bnd_x, gd_0, gd_1, gd_o0, gd_o1, ite_self, rf_75_1, rf_75_3, rf_75_12, rf_75_13, rf_75_14, rf_75_15, rf_75_16, rf_75_17, rf_75_18, rf_75_22, rf_75_23, rf_75_24, rf_75_25, rf_75_31, rf_75_32, rf_75_41, rf_75_42, rf_75_43, rf_75_44, rf_75_45, rf_75_46, rf_75_47, rf_75_48, rf_75_53, rf_75_54, rf_75_55, rf_75_57, c_75, i_75, w_75, z0_75, z1_75, h5, hR.2.1, if_neg ne1, qa_77 (show p < 6000 by omega), hR.2.2 p hp, nI_1, if_pos c1]
  · by_cases c2 : p + 1 < L
    · have ne2 : ¬ nI (p + 1) = nI L := fun q => by have := (nI_eq (by omega) (by omega)).mp q; omega
      have lt2 : nI (p + 1) < nI L := nI_lt c2 (by omega)
      have at2 : atv (up I 27 4 (nI (p + 1))) b (nI (p + 1)) = T (p + 1) := atv_ok (bt _ _ hC.1) c2
      have m77 : up I' 75 5 (nI (p + 1)) 77 = I' 77 := up_ne (by decide)
      by_cases c3 : T (p + 1) = 0
      · refine Or.inl (bad (nI p) ?_ ?_)
        · unfold fX5_readByteLiteral fX5_readByteLiteral_75
          simp only [bnd_x, gd_0, gd_1, gd_o0, gd_o1, ite_self, rf_1_0, rf_1_1, rf_1_5, rf_1_6, rf_1_7, rf_2_0, rf_4_0, rf_6_0, rf_6_1, rf_6_2, rf_7_0, rf_9_0, rf_11_0, rf_13_0, rf_13_1, rf_13_2, rf_14_0, rf_16_0, rf_18_0, rf_20_0, rf_20_1, rf_20_2, rf_21_0, rf_23_0, rf_25_0, rf_27_0, rf_29_0, rf_29_1, rf_29_2, rf_29_3, rf_29_4, rf_29_5, rf_30_0, rf_32_0, rf_34_0, rf_36_0, rf_38_0, rf_40_0, rf_42_0, rf_42_1, rf_42_2, rf_42_3, rf_43_0, rf_43_1, rf_43_2, rf_44_0, rf_46_0, rf_48_0, rf_50_0, rf_52_0, rf_52_1, rf_52_2, rf_52_3, rf_52_4, rf_52_5, rf_52_6, rf_52_7, rf_52_8, rf_52_9, rf_52_10, rf_52_11, rf_53_0, rf_55_0, rf_57_0, rf_59_0, rf_61_0, rf_63_0, rf_65_0, rf_67_0, rf_69_0, rf_71_0, rf_73_0, a_7, p_7, f_7, c_7, a_9, p_9, f_9, c_9, a_11, p_11, f_11, c_11, a_14, p_14, f_14, c_14, a_16, p_16, f_16, c_16, a_18, p_18, f_18, c_18, a_21, p_21, f_21, c_21, a_23, p_23, f_23, c_23, a_25, p_25, f_25, c_25, a_30, p_30, f_30, c_30, a_32, p_32, f_32, c_32, a_34, p_34, f_34, c_34, a_36, p_36, f_36, c_36, a_38, p_38, f_38, c_38, a_40, p_40, f_40, c_40, a_44, p_44, f_44, c_44, a_46, p_46, f_46, c_46, a_48, p_48, f_48, c_48, a_50, p_50, f_50, c_50, a_53, p_53, f_53, c_53, a_55, p_55, f_55, c_55, a_57, p_57, f_57, c_57, a_59, p_59, f_59, c_59, a_61, p_61, f_61, c_61, a_63, p_63, f_63, c_63, a_65, p_65, f_65, c_65, a_67, p_67, f_67, c_67, a_69, p_69, f_69, c_69, a_71, p_71, f_71, c_71, a_73, p_73, f_73, c_73, c_1, i_1, w_1, z0_1, z1_1, c_2, i_2, w_2, z0_2, z1_2, c_4, i_4, w_4, z0_4, z1_4, c_6, i_6, w_6, z0_6, z1_6, c_13, i_13, w_13, z0_13, z1_13, c_20, i_20, w_20, z0_20, z1_20, c_27, i_27, w_27, z0_27, z1_27, c_28, i_28, w_28, z0_28, z1_28, c_29, i_29, w_29, z0_29, z1_29, c_42, i_42, w_42, z0_42, z1_42, c_43, i_43, w_43, z0_43, z1_43, c_52, i_52, w_52, z0_52, z1_52, X1_size, X1_literal, X1_numberOfStep, X1_ofFormula, X1_inAll, X1_user, X9_codeOf, X1_firstUse, X1_endOfUses, X2_open, X2_at, X2_add, X2_drop, X2_clear, X4_fuelLeft, X4_isActive, X4_isMarked, X4_mark, X4_usedCount, X4_usedAt, X4_setActive, X4_forget, X4_truthOf, h4, rv_27_1 hb0, v1, cl_st (B_0 hb).1, at_all hb, atv_ok hC.1 hp, nI_1, if_neg c1, up_self, e34, if_pos lt2, at2, c3, if_pos, blame_ok]
        · unfold fX10_readNumber fX10_readNumber_103
          simp only [bnd_x, gd_0, gd_1, gd_o0, gd_o1, ite_self, rf_75_1, rf_75_3, rf_75_12, rf_75_13, rf_75_14, rf_75_15, rf_75_16, rf_75_17, rf_75_18, rf_75_22, rf_75_23, rf_75_24, rf_75_25, rf_75_31, rf_75_32, rf_75_41, rf_75_42, rf_75_43, rf_75_44, rf_75_45, rf_75_46, rf_75_47, rf_75_48, rf_75_53, rf_75_54, rf_75_55, rf_75_57, c_75, i_75, w_75, z0_75, z1_75, h5, hR.2.1, if_neg ne1, qa_77 (show p < 6000 by omega), hR.2.2 p hp, nI_1, if_neg c1, up_self, M4, if_neg ne2, qa_77 (show p + 1 < 6000 by omega), m77, hR.2.2 (p + 1) c2, c3, if_pos, wrong_ok]
      · by_cases c4 : T (p + 1) < 128
        · have c5 : ¬ (T p - 128) + (128 * T (p + 1)) = 0 := by
            obtain ⟨wx, -, -, -, -, wb⟩ := hC.1
            obtain ⟨ka, ka1, ka2⟩ := byte_i (I (b + 1) p)
            obtain ⟨kb, kb1, kb2⟩ := byte_i (I (b + 1) (p + 1))
            exact two_byte ka1 kb1 (by rw [← wb p hp]; exact ka2) (by rw [← wb (p + 1) c2]; exact kb2) c1 c3
          · refine good (p + 2) _ (by omega) c5 ?_ ?_
            · unfold fX5_readByteLiteral
              simp only [bnd_x, gd_0, gd_1, gd_o0, gd_o1, ite_self, rf_1_0, rf_1_1, rf_1_5, rf_1_6, rf_1_7, rf_2_0, rf_4_0, rf_6_0, rf_6_1, rf_6_2, rf_7_0, rf_9_0, rf_11_0, rf_13_0, rf_13_1, rf_13_2, rf_14_0, rf_16_0, rf_18_0, rf_20_0, rf_20_1, rf_20_2, rf_21_0, rf_23_0, rf_25_0, rf_27_0, rf_29_0, rf_29_1, rf_29_2, rf_29_3, rf_29_4, rf_29_5, rf_30_0, rf_32_0, rf_34_0, rf_36_0, rf_38_0, rf_40_0, rf_42_0, rf_42_1, rf_42_2, rf_42_3, rf_43_0, rf_43_1, rf_43_2, rf_44_0, rf_46_0, rf_48_0, rf_50_0, rf_52_0, rf_52_1, rf_52_2, rf_52_3, rf_52_4, rf_52_5, rf_52_6, rf_52_7, rf_52_8, rf_52_9, rf_52_10, rf_52_11, rf_53_0, rf_55_0, rf_57_0, rf_59_0, rf_61_0, rf_63_0, rf_65_0, rf_67_0, rf_69_0, rf_71_0, rf_73_0, a_7, p_7, f_7, c_7, a_9, p_9, f_9, c_9, a_11, p_11, f_11, c_11, a_14, p_14, f_14, c_14, a_16, p_16, f_16, c_16, a_18, p_18, f_18, c_18, a_21, p_21, f_21, c_21, a_23, p_23, f_23, c_23, a_25, p_25, f_25, c_25, a_30, p_30, f_30, c_30, a_32, p_32, f_32, c_32, a_34, p_34, f_34, c_34, a_36, p_36, f_36, c_36, a_38, p_38, f_38, c_38, a_40, p_40, f_40, c_40, a_44, p_44, f_44, c_44, a_46, p_46, f_46, c_46, a_48, p_48, f_48, c_48, a_50, p_50, f_50, c_50, a_53, p_53, f_53, c_53, a_55, p_55, f_55, c_55, a_57, p_57, f_57, c_57, a_59, p_59, f_59, c_59, a_61, p_61, f_61, c_61, a_63, p_63, f_63, c_63, a_65, p_65, f_65, c_65, a_67, p_67, f_67, c_67, a_69, p_69, f_69, c_69, a_71, p_71, f_71, c_71, a_73, p_73, f_73, c_73, c_1, i_1, w_1, z0_1, z1_1, c_2, i_2, w_2, z0_2, z1_2, c_4, i_4, w_4, z0_4, z1_4, c_6, i_6, w_6, z0_6, z1_6, c_13, i_13, w_13, z0_13, z1_13, c_20, i_20, w_20, z0_20, z1_20, c_27, i_27, w_27, z0_27, z1_27, c_28, i_28, w_28, z0_28, z1_28, c_29, i_29, w_29, z0_29, z1_29, c_42, i_42, w_42, z0_42, z1_42, c_43, i_43, w_43, z0_43, z1_43, c_52, i_52, w_52, z0_52, z1_52, X1_size, X1_literal, X1_numberOfStep, X1_ofFormula, X1_inAll, X1_user, X9_codeOf, X1_firstUse, X1_endOfUses, X2_open, X2_at, X2_add, X2_drop, X2_clear, X4_fuelLeft, X4_isActive, X4_isMarked, X4_mark, X4_usedCount, X4_usedAt, X4_setActive, X4_forget, X4_truthOf, h4, rv_27_1 hb0, v1, cl_st (B_0 hb).1, at_all hb, atv_ok hC.1 hp, nI_1, if_neg c1, up_self, e34, if_pos lt2, at2, if_neg c3, if_pos c4, up_up]
            · unfold fX10_readNumber
              simp only [bnd_x, gd_0, gd_1, gd_o0, gd_o1, ite_self, rf_75_1, rf_75_3, rf_75_12, rf_75_13, rf_75_14, rf_75_15, rf_75_16, rf_75_17, rf_75_18, rf_75_22, rf_75_23, rf_75_24, rf_75_25, rf_75_31, rf_75_32, rf_75_41, rf_75_42, rf_75_43, rf_75_44, rf_75_45, rf_75_46, rf_75_47, rf_75_48, rf_75_53, rf_75_54, rf_75_55, rf_75_57, c_75, i_75, w_75, z0_75, z1_75, h5, hR.2.1, if_neg ne1, qa_77 (show p < 6000 by omega), hR.2.2 p hp, nI_1, if_neg c1, up_self, M4, if_neg ne2, qa_77 (show p + 1 < 6000 by omega), m77, hR.2.2 (p + 1) c2, if_neg c3, if_pos c4, up_up]
        · refine Or.inl (bad (nI p) ?_ ?_)
          · unfold fX5_readByteLiteral fX5_readByteLiteral_75
            simp only [bnd_x, gd_0, gd_1, gd_o0, gd_o1, ite_self, rf_1_0, rf_1_1, rf_1_5, rf_1_6, rf_1_7, rf_2_0, rf_4_0, rf_6_0, rf_6_1, rf_6_2, rf_7_0, rf_9_0, rf_11_0, rf_13_0, rf_13_1, rf_13_2, rf_14_0, rf_16_0, rf_18_0, rf_20_0, rf_20_1, rf_20_2, rf_21_0, rf_23_0, rf_25_0, rf_27_0, rf_29_0, rf_29_1, rf_29_2, rf_29_3, rf_29_4, rf_29_5, rf_30_0, rf_32_0, rf_34_0, rf_36_0, rf_38_0, rf_40_0, rf_42_0, rf_42_1, rf_42_2, rf_42_3, rf_43_0, rf_43_1, rf_43_2, rf_44_0, rf_46_0, rf_48_0, rf_50_0, rf_52_0, rf_52_1, rf_52_2, rf_52_3, rf_52_4, rf_52_5, rf_52_6, rf_52_7, rf_52_8, rf_52_9, rf_52_10, rf_52_11, rf_53_0, rf_55_0, rf_57_0, rf_59_0, rf_61_0, rf_63_0, rf_65_0, rf_67_0, rf_69_0, rf_71_0, rf_73_0, a_7, p_7, f_7, c_7, a_9, p_9, f_9, c_9, a_11, p_11, f_11, c_11, a_14, p_14, f_14, c_14, a_16, p_16, f_16, c_16, a_18, p_18, f_18, c_18, a_21, p_21, f_21, c_21, a_23, p_23, f_23, c_23, a_25, p_25, f_25, c_25, a_30, p_30, f_30, c_30, a_32, p_32, f_32, c_32, a_34, p_34, f_34, c_34, a_36, p_36, f_36, c_36, a_38, p_38, f_38, c_38, a_40, p_40, f_40, c_40, a_44, p_44, f_44, c_44, a_46, p_46, f_46, c_46, a_48, p_48, f_48, c_48, a_50, p_50, f_50, c_50, a_53, p_53, f_53, c_53, a_55, p_55, f_55, c_55, a_57, p_57, f_57, c_57, a_59, p_59, f_59, c_59, a_61, p_61, f_61, c_61, a_63, p_63, f_63, c_63, a_65, p_65, f_65, c_65, a_67, p_67, f_67, c_67, a_69, p_69, f_69, c_69, a_71, p_71, f_71, c_71, a_73, p_73, f_73, c_73, c_1, i_1, w_1, z0_1, z1_1, c_2, i_2, w_2, z0_2, z1_2, c_4, i_4, w_4, z0_4, z1_4, c_6, i_6, w_6, z0_6, z1_6, c_13, i_13, w_13, z0_13, z1_13, c_20, i_20, w_20, z0_20, z1_20, c_27, i_27, w_27, z0_27, z1_27, c_28, i_28, w_28, z0_28, z1_28, c_29, i_29, w_29, z0_29, z1_29, c_42, i_42, w_42, z0_42, z1_42, c_43, i_43, w_43, z0_43, z1_43, c_52, i_52, w_52, z0_52, z1_52, X1_size, X1_literal, X1_numberOfStep, X1_ofFormula, X1_inAll, X1_user, X9_codeOf, X1_firstUse, X1_endOfUses, X2_open, X2_at, X2_add, X2_drop, X2_clear, X4_fuelLeft, X4_isActive, X4_isMarked, X4_mark, X4_usedCount, X4_usedAt, X4_setActive, X4_forget, X4_truthOf, h4, rv_27_1 hb0, v1, cl_st (B_0 hb).1, at_all hb, atv_ok hC.1 hp, nI_1, if_neg c1, up_self, e34, if_pos lt2, at2, if_neg c3, if_neg c4, blame_ok]
          · unfold fX10_readNumber fX10_readNumber_103
            simp only [bnd_x, gd_0, gd_1, gd_o0, gd_o1, ite_self, rf_75_1, rf_75_3, rf_75_12, rf_75_13, rf_75_14, rf_75_15, rf_75_16, rf_75_17, rf_75_18, rf_75_22, rf_75_23, rf_75_24, rf_75_25, rf_75_31, rf_75_32, rf_75_41, rf_75_42, rf_75_43, rf_75_44, rf_75_45, rf_75_46, rf_75_47, rf_75_48, rf_75_53, rf_75_54, rf_75_55, rf_75_57, c_75, i_75, w_75, z0_75, z1_75, h5, hR.2.1, if_neg ne1, qa_77 (show p < 6000 by omega), hR.2.2 p hp, nI_1, if_neg c1, up_self, M4, if_neg ne2, qa_77 (show p + 1 < 6000 by omega), m77, hR.2.2 (p + 1) c2, if_neg c3, if_neg c4, wrong_ok]
    · have e2 : p + 1 = L := by omega
      refine Or.inl (bad (nI L) ?_ ?_)
      · unfold fX5_readByteLiteral
        simp only [bnd_x, gd_0, gd_1, gd_o0, gd_o1, ite_self, rf_1_0, rf_1_1, rf_1_5, rf_1_6, rf_1_7, rf_2_0, rf_4_0, rf_6_0, rf_6_1, rf_6_2, rf_7_0, rf_9_0, rf_11_0, rf_13_0, rf_13_1, rf_13_2, rf_14_0, rf_16_0, rf_18_0, rf_20_0, rf_20_1, rf_20_2, rf_21_0, rf_23_0, rf_25_0, rf_27_0, rf_29_0, rf_29_1, rf_29_2, rf_29_3, rf_29_4, rf_29_5, rf_30_0, rf_32_0, rf_34_0, rf_36_0, rf_38_0, rf_40_0, rf_42_0, rf_42_1, rf_42_2, rf_42_3, rf_43_0, rf_43_1, rf_43_2, rf_44_0, rf_46_0, rf_48_0, rf_50_0, rf_52_0, rf_52_1, rf_52_2, rf_52_3, rf_52_4, rf_52_5, rf_52_6, rf_52_7, rf_52_8, rf_52_9, rf_52_10, rf_52_11, rf_53_0, rf_55_0, rf_57_0, rf_59_0, rf_61_0, rf_63_0, rf_65_0, rf_67_0, rf_69_0, rf_71_0, rf_73_0, a_7, p_7, f_7, c_7, a_9, p_9, f_9, c_9, a_11, p_11, f_11, c_11, a_14, p_14, f_14, c_14, a_16, p_16, f_16, c_16, a_18, p_18, f_18, c_18, a_21, p_21, f_21, c_21, a_23, p_23, f_23, c_23, a_25, p_25, f_25, c_25, a_30, p_30, f_30, c_30, a_32, p_32, f_32, c_32, a_34, p_34, f_34, c_34, a_36, p_36, f_36, c_36, a_38, p_38, f_38, c_38, a_40, p_40, f_40, c_40, a_44, p_44, f_44, c_44, a_46, p_46, f_46, c_46, a_48, p_48, f_48, c_48, a_50, p_50, f_50, c_50, a_53, p_53, f_53, c_53, a_55, p_55, f_55, c_55, a_57, p_57, f_57, c_57, a_59, p_59, f_59, c_59, a_61, p_61, f_61, c_61, a_63, p_63, f_63, c_63, a_65, p_65, f_65, c_65, a_67, p_67, f_67, c_67, a_69, p_69, f_69, c_69, a_71, p_71, f_71, c_71, a_73, p_73, f_73, c_73, c_1, i_1, w_1, z0_1, z1_1, c_2, i_2, w_2, z0_2, z1_2, c_4, i_4, w_4, z0_4, z1_4, c_6, i_6, w_6, z0_6, z1_6, c_13, i_13, w_13, z0_13, z1_13, c_20, i_20, w_20, z0_20, z1_20, c_27, i_27, w_27, z0_27, z1_27, c_28, i_28, w_28, z0_28, z1_28, c_29, i_29, w_29, z0_29, z1_29, c_42, i_42, w_42, z0_42, z1_42, c_43, i_43, w_43, z0_43, z1_43, c_52, i_52, w_52, z0_52, z1_52, X1_size, X1_literal, X1_numberOfStep, X1_ofFormula, X1_inAll, X1_user, X9_codeOf, X1_firstUse, X1_endOfUses, X2_open, X2_at, X2_add, X2_drop, X2_clear, X4_fuelLeft, X4_isActive, X4_isMarked, X4_mark, X4_usedCount, X4_usedAt, X4_setActive, X4_forget, X4_truthOf, h4, rv_27_1 hb0, v1, cl_st (B_0 hb).1, at_all hb, atv_ok hC.1 hp, nI_1, if_neg c1, up_self, e34, if_neg (nI_nlt (show L ≤ p + 1 by omega) (show p + 1 < 2 ^ 31 by omega)), blame_ok]
      · unfold fX10_readNumber
        simp only [bnd_x, gd_0, gd_1, gd_o0, gd_o1, ite_self, rf_75_1, rf_75_3, rf_75_12, rf_75_13, rf_75_14, rf_75_15, rf_75_16, rf_75_17, rf_75_18, rf_75_22, rf_75_23, rf_75_24, rf_75_25, rf_75_31, rf_75_32, rf_75_41, rf_75_42, rf_75_43, rf_75_44, rf_75_45, rf_75_46, rf_75_47, rf_75_48, rf_75_53, rf_75_54, rf_75_55, rf_75_57, c_75, i_75, w_75, z0_75, z1_75, h5, hR.2.1, if_neg ne1, qa_77 (show p < 6000 by omega), hR.2.2 p hp, nI_1, if_neg c1, up_self, M4, if_pos (show nI (p + 1) = nI L by rw [e2]), wrong_ok]
/-- the row in bytes is over -/
def BEND (v v' : zV) (J J' : Nat → Nat → Int64) (f n : Nat) (e : Nat → Nat) (d : Nat → Bool) (L : Nat) (A B : Option zS) (K : Nat → zS → Option zS) (I I' : Nat → Nat → Int32) : Prop :=
  ∃ I1 I2 w' g', A = some (st I1 v J) ∧ B = K 75 (st I2 v' J') ∧ RF I1 I2 f n e w' d g' ∧ FK I1 I2 ∧ FCr I I1 f ∧ FMr I' I2 ∧ (I1 27 7 = 0 → ∃ pos t, pos ≤ L ∧ I1 27 4 = nI pos ∧ I2 75 5 = nI pos ∧ I1 27 6 = nI t ∧ I2 75 28 = nI t ∧ g' ≤ t ∧ t ≤ 2000)
theorem BEND_t {v v' : zV} {J J' : Nat → Nat → Int64} {A B : Option zS} {K : Nat → zS → Option zS} {I I' I1 I2 : Nat → Nat → Int32} (h : BEND v v' J J' f n e d L A B K I1 I2) (a : FCr I I1 f) (b : FMr I' I2) : BEND v v' J J' f n e d L A B K I I' := by
  obtain ⟨X, Y, w, g, h1, h2, h3, h4, h5, h6, h7⟩ := h
  exact ⟨X, Y, w, g, h1, h2, h3, h4, FCr_t a h5, FMr_t b h6, h7⟩
theorem rowB_end {v : zV} {J : Nat → Nat → Int64} {I : Nat → Nat → Int32} (h : I 27 7 ≠ 0) (m : Nat) (r : Int32) : fX5_readByteRow_7 (m + 1) 27 r (st I v J) = some (st I v J) := by
  conv => lhs; unfold fX5_readByteRow_7
  simp only [bnd_x, gd_0, gd_1, gd_o0, gd_o1, ite_self, rf_1_0, rf_1_1, rf_1_5, rf_1_6, rf_1_7, rf_2_0, rf_4_0, rf_6_0, rf_6_1, rf_6_2, rf_7_0, rf_9_0, rf_11_0, rf_13_0, rf_13_1, rf_13_2, rf_14_0, rf_16_0, rf_18_0, rf_20_0, rf_20_1, rf_20_2, rf_21_0, rf_23_0, rf_25_0, rf_27_0, rf_29_0, rf_29_1, rf_29_2, rf_29_3, rf_29_4, rf_29_5, rf_30_0, rf_32_0, rf_34_0, rf_36_0, rf_38_0, rf_40_0, rf_42_0, rf_42_1, rf_42_2, rf_42_3, rf_43_0, rf_43_1, rf_43_2, rf_44_0, rf_46_0, rf_48_0, rf_50_0, rf_52_0, rf_52_1, rf_52_2, rf_52_3, rf_52_4, rf_52_5, rf_52_6, rf_52_7, rf_52_8, rf_52_9, rf_52_10, rf_52_11, rf_53_0, rf_55_0, rf_57_0, rf_59_0, rf_61_0, rf_63_0, rf_65_0, rf_67_0, rf_69_0, rf_71_0, rf_73_0, a_7, p_7, f_7, c_7, a_9, p_9, f_9, c_9, a_11, p_11, f_11, c_11, a_14, p_14, f_14, c_14, a_16, p_16, f_16, c_16, a_18, p_18, f_18, c_18, a_21, p_21, f_21, c_21, a_23, p_23, f_23, c_23, a_25, p_25, f_25, c_25, a_30, p_30, f_30, c_30, a_32, p_32, f_32, c_32, a_34, p_34, f_34, c_34, a_36, p_36, f_36, c_36, a_38, p_38, f_38, c_38, a_40, p_40, f_40, c_40, a_44, p_44, f_44, c_44, a_46, p_46, f_46, c_46, a_48, p_48, f_48, c_48, a_50, p_50, f_50, c_50, a_53, p_53, f_53, c_53, a_55, p_55, f_55, c_55, a_57, p_57, f_57, c_57, a_59, p_59, f_59, c_59, a_61, p_61, f_61, c_61, a_63, p_63, f_63, c_63, a_65, p_65, f_65, c_65, a_67, p_67, f_67, c_67, a_69, p_69, f_69, c_69, a_71, p_71, f_71, c_71, a_73, p_73, f_73, c_73, c_1, i_1, w_1, z0_1, z1_1, c_2, i_2, w_2, z0_2, z1_2, c_4, i_4, w_4, z0_4, z1_4, c_6, i_6, w_6, z0_6, z1_6, c_13, i_13, w_13, z0_13, z1_13, c_20, i_20, w_20, z0_20, z1_20, c_27, i_27, w_27, z0_27, z1_27, c_28, i_28, w_28, z0_28, z1_28, c_29, i_29, w_29, z0_29, z1_29, c_42, i_42, w_42, z0_42, z1_42, c_43, i_43, w_43, z0_43, z1_43, c_52, i_52, w_52, z0_52, z1_52, X1_size, X1_literal, X1_numberOfStep, X1_ofFormula, X1_inAll, X1_user, X9_codeOf, X1_firstUse, X1_endOfUses, X2_open, X2_at, X2_add, X2_drop, X2_clear, X4_fuelLeft, X4_isActive, X4_isMarked, X4_mark, X4_usedCount, X4_usedAt, X4_setActive, X4_forget, X4_truthOf, if_neg h]
theorem bytes_end {v : zV} {J : Nat → Nat → Int64} {I : Nat → Nat → Int32} (K : Nat → zS → Option zS) (m : Nat) : fX10_readBytes_114 K (m + 1) 75 0 (st I v J) = K 75 (st I v J) := by
  conv => lhs; unfold fX10_readBytes_114
  rw [if_pos rfl]
  rfl
theorem byte_step {v v' : zV} {J J' : Nat → Nat → Int64} {b p m m' : Nat} {I I' : Nat → Nat → Int32} {w : Nat → Int32} {g r t : Nat} (K : Nat → zS → Option zS) (hv : VV v b f) (hC : CS I b T L) (hR : RT I' T L) (h : RO I I' f n e w d g r t) (k7 : I 27 7 = 0) (k8 : I 27 8 = -1) (h8 : I' 75 8 = 0) (h30 : I' 75 30 = nI 150) (h4 : I 27 4 = nI p) (h5 : I' 75 5 = nI p) (hp : p ≤ L) :
    BEND v v' J J' f n e d L (fX5_readByteRow_7 (m + 2) 27 (nI r) (st I v J)) (fX10_readBytes_114 K (m' + 2) 75 1 (st I' v' J')) K I I'
    ∨ ∃ I1 I2 w' g' p', fX5_readByteRow_7 (m + 2) 27 (nI r) (st I v J) = fX5_readByteRow_7 (m + 1) 27 (nI (r + 1)) (st I1 v J) ∧ fX10_readBytes_114 K (m' + 2) 75 1 (st I' v' J') = fX10_readBytes_114 K (m' + 1) 75 1 (st I2 v' J') ∧ RO I1 I2 f n e w' d g' (r + 1) (t + 1) ∧ I1 27 7 = 0 ∧ I1 27 8 = -1 ∧ I2 75 8 = 0 ∧ I2 75 30 = nI 150 ∧ FCr I I1 f ∧ FMr I' I2 ∧ p' ≤ L ∧ I1 27 4 = nI p' ∧ I2 75 5 = nI p' := by
  obtain ⟨v1, v2, v3, hb, hf⟩ := hv
  have hv : VV v b f := ⟨v1, v2, v3, hb, hf⟩
  obtain ⟨b1, b2', b3, b4, b5, b6, b7⟩ := B_f hb hf
  have hb0 : v.2.2.2.1 ≠ 0 := by rw [v1]; exact (B_0 hb).2.2.2
  have hL := hR.1
  have r40 : ¬ (40 : Int32) < nI r := nI_nlt (a := 40) (b := r) h.2.2.2.1 (by decide)
  have h114 : ∀ (x : Int32) (X : Nat → Nat → Int32), fX10_readNumber 75 (st I' v' J') = some (x, st X v' J') → fX10_readBytes_114 K (m' + 2) 75 1 (st I' v' J') = fX10_readBytes_114 K (m' + 1) 75 x (st X v' J') := by
    intro x X hx
    conv => lhs; unfold fX10_readBytes_114
    rw [if_neg (by decide)]
    simp only [bnd_x, gd_0, gd_1, gd_o0, gd_o1, ite_self, rf_75_1, rf_75_3, rf_75_12, rf_75_13, rf_75_14, rf_75_15, rf_75_16, rf_75_17, rf_75_18, rf_75_22, rf_75_23, rf_75_24, rf_75_25, rf_75_31, rf_75_32, rf_75_41, rf_75_42, rf_75_43, rf_75_44, rf_75_45, rf_75_46, rf_75_47, rf_75_48, rf_75_53, rf_75_54, rf_75_55, rf_75_57, c_75, i_75, w_75, z0_75, z1_75, hx]
  by_cases c : p < L
  · have lt1 : nI p < nI L := nI_lt c (by omega)
    have ne1 : ¬ nI p = nI L := fun q => by have := (nI_eq (by omega) (by omega)).mp q; omega
    by_cases c0 : T p = 0
    · left
      have hrn : fX10_readNumber 75 (st I' v' J') = some (0, st (up I' 75 5 (nI (p + 1))) v' J') := by
        unfold fX10_readNumber fX10_readNumber_141
        simp only [bnd_x, gd_0, gd_1, gd_o0, gd_o1, ite_self, rf_75_1, rf_75_3, rf_75_12, rf_75_13, rf_75_14, rf_75_15, rf_75_16, rf_75_17, rf_75_18, rf_75_22, rf_75_23, rf_75_24, rf_75_25, rf_75_31, rf_75_32, rf_75_41, rf_75_42, rf_75_43, rf_75_44, rf_75_45, rf_75_46, rf_75_47, rf_75_48, rf_75_53, rf_75_54, rf_75_55, rf_75_57, c_75, i_75, w_75, z0_75, z1_75, h5, hR.2.1, if_neg ne1, qa_77 (show p < 6000 by omega), hR.2.2 p c, nI_1, c0, if_pos (show (0 : Int32) < 128 by decide), if_pos]
      have hRO := RO_27 h b6 (nI (p + 1)) (nI (p + 1))
      refine ⟨up I 27 4 (nI (p + 1)), up I' 75 5 (nI (p + 1)), w, g, ?_, ?_, hRO.1, ?_, FCr_27 hf (by decide), FMr_75 (by omega), fun _ => ⟨p + 1, t, by omega, up_self .., up_self .., hRO.2.1.2.1, hRO.2.1.2.2.1, h.2.2.2.2.1, h.2.2.2.2.2⟩⟩
      · conv => lhs; unfold fX5_readByteRow_7
        rw [if_neg r40]
        simp only [bnd_x, gd_0, gd_1, gd_o0, gd_o1, ite_self, rf_1_0, rf_1_1, rf_1_5, rf_1_6, rf_1_7, rf_2_0, rf_4_0, rf_6_0, rf_6_1, rf_6_2, rf_7_0, rf_9_0, rf_11_0, rf_13_0, rf_13_1, rf_13_2, rf_14_0, rf_16_0, rf_18_0, rf_20_0, rf_20_1, rf_20_2, rf_21_0, rf_23_0, rf_25_0, rf_27_0, rf_29_0, rf_29_1, rf_29_2, rf_29_3, rf_29_4, rf_29_5, rf_30_0, rf_32_0, rf_34_0, rf_36_0, rf_38_0, rf_40_0, rf_42_0, rf_42_1, rf_42_2, rf_42_3, rf_43_0, rf_43_1, rf_43_2, rf_44_0, rf_46_0, rf_48_0, rf_50_0, rf_52_0, rf_52_1, rf_52_2, rf_52_3, rf_52_4, rf_52_5, rf_52_6, rf_52_7, rf_52_8, rf_52_9, rf_52_10, rf_52_11, rf_53_0, rf_55_0, rf_57_0, rf_59_0, rf_61_0, rf_63_0, rf_65_0, rf_67_0, rf_69_0, rf_71_0, rf_73_0, a_7, p_7, f_7, c_7, a_9, p_9, f_9, c_9, a_11, p_11, f_11, c_11, a_14, p_14, f_14, c_14, a_16, p_16, f_16, c_16, a_18, p_18, f_18, c_18, a_21, p_21, f_21, c_21, a_23, p_23, f_23, c_23, a_25, p_25, f_25, c_25, a_30, p_30, f_30, c_30, a_32, p_32, f_32, c_32, a_34, p_34, f_34, c_34, a_36, p_36, f_36, c_36, a_38, p_38, f_38, c_38, a_40, p_40, f_40, c_40, a_44, p_44, f_44, c_44, a_46, p_46, f_46, c_46, a_48, p_48, f_48, c_48, a_50, p_50, f_50, c_50, a_53, p_53, f_53, c_53, a_55, p_55, f_55, c_55, a_57, p_57, f_57, c_57, a_59, p_59, f_59, c_59, a_61, p_61, f_61, c_61, a_63, p_63, f_63, c_63, a_65, p_65, f_65, c_65, a_67, p_67, f_67, c_67, a_69, p_69, f_69, c_69, a_71, p_71, f_71, c_71, a_73, p_73, f_73, c_73, c_1, i_1, w_1, z0_1, z1_1, c_2, i_2, w_2, z0_2, z1_2, c_4, i_4, w_4, z0_4, z1_4, c_6, i_6, w_6, z0_6, z1_6, c_13, i_13, w_13, z0_13, z1_13, c_20, i_20, w_20, z0_20, z1_20, c_27, i_27, w_27, z0_27, z1_27, c_28, i_28, w_28, z0_28, z1_28, c_29, i_29, w_29, z0_29, z1_29, c_42, i_42, w_42, z0_42, z1_42, c_43, i_43, w_43, z0_43, z1_43, c_52, i_52, w_52, z0_52, z1_52, X1_size, X1_literal, X1_numberOfStep, X1_ofFormula, X1_inAll, X1_user, X9_codeOf, X1_firstUse, X1_endOfUses, X2_open, X2_at, X2_add, X2_drop, X2_clear, X4_fuelLeft, X4_isActive, X4_isMarked, X4_mark, X4_usedCount, X4_usedAt, X4_setActive, X4_forget, X4_truthOf, k7, if_pos, h4, hC.2.2, if_pos lt1, rv_27_1 hb0, v1, cl_st (B_0 hb).1, at_all hb, atv_ok hC.1 c, c0, nI_1]
      · rw [h114 _ _ hrn, bytes_end]
      · unfold FK
        rw [up_at, vup_n (by decide), vup_n (by decide), up_at, vup_n (by decide), vup_n (by decide)]
        exact ⟨by rw [k7, h8], fun _ => k8, fun q => absurd k7 q⟩
    · have eC : fX5_readByteRow_7 (m + 2) 27 (nI r) (st I v J) = bnd (fX5_readByteLiteral 27 (st I v J)) fun q => fX5_readByteRow_7 (m + 1) 27 (nI (r + 1)) q := by
        conv => lhs; unfold fX5_readByteRow_7
        rw [if_neg r40]
        simp only [bnd_x, gd_0, gd_1, gd_o0, gd_o1, ite_self, rf_1_0, rf_1_1, rf_1_5, rf_1_6, rf_1_7, rf_2_0, rf_4_0, rf_6_0, rf_6_1, rf_6_2, rf_7_0, rf_9_0, rf_11_0, rf_13_0, rf_13_1, rf_13_2, rf_14_0, rf_16_0, rf_18_0, rf_20_0, rf_20_1, rf_20_2, rf_21_0, rf_23_0, rf_25_0, rf_27_0, rf_29_0, rf_29_1, rf_29_2, rf_29_3, rf_29_4, rf_29_5, rf_30_0, rf_32_0, rf_34_0, rf_36_0, rf_38_0, rf_40_0, rf_42_0, rf_42_1, rf_42_2, rf_42_3, rf_43_0, rf_43_1, rf_43_2, rf_44_0, rf_46_0, rf_48_0, rf_50_0, rf_52_0, rf_52_1, rf_52_2, rf_52_3, rf_52_4, rf_52_5, rf_52_6, rf_52_7, rf_52_8, rf_52_9, rf_52_10, rf_52_11, rf_53_0, rf_55_0, rf_57_0, rf_59_0, rf_61_0, rf_63_0, rf_65_0, rf_67_0, rf_69_0, rf_71_0, rf_73_0, a_7, p_7, f_7, c_7, a_9, p_9, f_9, c_9, a_11, p_11, f_11, c_11, a_14, p_14, f_14, c_14, a_16, p_16, f_16, c_16, a_18, p_18, f_18, c_18, a_21, p_21, f_21, c_21, a_23, p_23, f_23, c_23, a_25, p_25, f_25, c_25, a_30, p_30, f_30, c_30, a_32, p_32, f_32, c_32, a_34, p_34, f_34, c_34, a_36, p_36, f_36, c_36, a_38, p_38, f_38, c_38, a_40, p_40, f_40, c_40, a_44, p_44, f_44, c_44, a_46, p_46, f_46, c_46, a_48, p_48, f_48, c_48, a_50, p_50, f_50, c_50, a_53, p_53, f_53, c_53, a_55, p_55, f_55, c_55, a_57, p_57, f_57, c_57, a_59, p_59, f_59, c_59, a_61, p_61, f_61, c_61, a_63, p_63, f_63, c_63, a_65, p_65, f_65, c_65, a_67, p_67, f_67, c_67, a_69, p_69, f_69, c_69, a_71, p_71, f_71, c_71, a_73, p_73, f_73, c_73, c_1, i_1, w_1, z0_1, z1_1, c_2, i_2, w_2, z0_2, z1_2, c_4, i_4, w_4, z0_4, z1_4, c_6, i_6, w_6, z0_6, z1_6, c_13, i_13, w_13, z0_13, z1_13, c_20, i_20, w_20, z0_20, z1_20, c_27, i_27, w_27, z0_27, z1_27, c_28, i_28, w_28, z0_28, z1_28, c_29, i_29, w_29, z0_29, z1_29, c_42, i_42, w_42, z0_42, z1_42, c_43, i_43, w_43, z0_43, z1_43, c_52, i_52, w_52, z0_52, z1_52, X1_size, X1_literal, X1_numberOfStep, X1_ofFormula, X1_inAll, X1_user, X9_codeOf, X1_firstUse, X1_endOfUses, X2_open, X2_at, X2_add, X2_drop, X2_clear, X4_fuelLeft, X4_isActive, X4_isMarked, X4_mark, X4_usedCount, X4_usedAt, X4_setActive, X4_forget, X4_truthOf, k7, if_pos, h4, hC.2.2, if_pos lt1, rv_27_1 hb0, v1, cl_st (B_0 hb).1, at_all hb, atv_ok hC.1 c, if_neg c0, fX5_readByteRow_72, nI_1]
      rcases lit_b (v := v) (v' := v') (J := J) (J' := J') hv hC hR h k7 h8 h30 h4 h5 c c0 with ⟨I1, I2, t1, t2, t3, t4, t5, t6, t7⟩ | ⟨I1, I2, w', g', p', t1, t2, t3, t4, t5, t6, t7, t8, t9, t10, t11⟩
      · left
        exact ⟨I1, I2, w, g, by rw [eC, t1, bnd_x, rowB_end t5], by rw [h114 _ _ t2, bytes_end], t3, t4, t6, t7, fun q => absurd q t5⟩
      · right
        exact ⟨I1, I2, w', g', p', by rw [eC, t1, bnd_x], h114 _ _ t2, t3, t4, by rw [t5]; exact k8, t9, by rw [t11.2 30 (by omega)]; exact h30, t10, t11, t6, t7, t8⟩
  · left
    have e1 : p = L := by omega
    have hrn : fX10_readNumber 75 (st I' v' J') = some (0, st (wg I' 1 (nI L)) v' J') := by
      unfold fX10_readNumber
      simp only [bnd_x, gd_0, gd_1, gd_o0, gd_o1, ite_self, rf_75_1, rf_75_3, rf_75_12, rf_75_13, rf_75_14, rf_75_15, rf_75_16, rf_75_17, rf_75_18, rf_75_22, rf_75_23, rf_75_24, rf_75_25, rf_75_31, rf_75_32, rf_75_41, rf_75_42, rf_75_43, rf_75_44, rf_75_45, rf_75_46, rf_75_47, rf_75_48, rf_75_53, rf_75_54, rf_75_55, rf_75_57, c_75, i_75, w_75, z0_75, z1_75, h5, hR.2.1, if_pos (show nI p = nI L by rw [e1]), wrong_ok]
    have k : ktw I 1 (nI L) 27 7 ≠ 0 := by unfold ktw; rw [up_at, vup_n (by decide), up_self]; decide
    refine ⟨ktw I 1 (nI L), wg I' 1 (nI L), w, g, ?_, ?_, RF_blame hf h.1 _ _ _ _, FK_blame _ _ h8 (by decide), FCr_ktw hf _ _, FMr_wg _ _, fun q => absurd q k⟩
    · conv => lhs; unfold fX5_readByteRow_7
      rw [if_neg r40]
      simp only [bnd_x, gd_0, gd_1, gd_o0, gd_o1, ite_self, rf_1_0, rf_1_1, rf_1_5, rf_1_6, rf_1_7, rf_2_0, rf_4_0, rf_6_0, rf_6_1, rf_6_2, rf_7_0, rf_9_0, rf_11_0, rf_13_0, rf_13_1, rf_13_2, rf_14_0, rf_16_0, rf_18_0, rf_20_0, rf_20_1, rf_20_2, rf_21_0, rf_23_0, rf_25_0, rf_27_0, rf_29_0, rf_29_1, rf_29_2, rf_29_3, rf_29_4, rf_29_5, rf_30_0, rf_32_0, rf_34_0, rf_36_0, rf_38_0, rf_40_0, rf_42_0, rf_42_1, rf_42_2, rf_42_3, rf_43_0, rf_43_1, rf_43_2, rf_44_0, rf_46_0, rf_48_0, rf_50_0, rf_52_0, rf_52_1, rf_52_2, rf_52_3, rf_52_4, rf_52_5, rf_52_6, rf_52_7, rf_52_8, rf_52_9, rf_52_10, rf_52_11, rf_53_0, rf_55_0, rf_57_0, rf_59_0, rf_61_0, rf_63_0, rf_65_0, rf_67_0, rf_69_0, rf_71_0, rf_73_0, a_7, p_7, f_7, c_7, a_9, p_9, f_9, c_9, a_11, p_11, f_11, c_11, a_14, p_14, f_14, c_14, a_16, p_16, f_16, c_16, a_18, p_18, f_18, c_18, a_21, p_21, f_21, c_21, a_23, p_23, f_23, c_23, a_25, p_25, f_25, c_25, a_30, p_30, f_30, c_30, a_32, p_32, f_32, c_32, a_34, p_34, f_34, c_34, a_36, p_36, f_36, c_36, a_38, p_38, f_38, c_38, a_40, p_40, f_40, c_40, a_44, p_44, f_44, c_44, a_46, p_46, f_46, c_46, a_48, p_48, f_48, c_48, a_50, p_50, f_50, c_50, a_53, p_53, f_53, c_53, a_55, p_55, f_55, c_55, a_57, p_57, f_57, c_57, a_59, p_59, f_59, c_59, a_61, p_61, f_61, c_61, a_63, p_63, f_63, c_63, a_65, p_65, f_65, c_65, a_67, p_67, f_67, c_67, a_69, p_69, f_69, c_69, a_71, p_71, f_71, c_71, a_73, p_73, f_73, c_73, c_1, i_1, w_1, z0_1, z1_1, c_2, i_2, w_2, z0_2, z1_2, c_4, i_4, w_4, z0_4, z1_4, c_6, i_6, w_6, z0_6, z1_6, c_13, i_13, w_13, z0_13, z1_13, c_20, i_20, w_20, z0_20, z1_20, c_27, i_27, w_27, z0_27, z1_27, c_28, i_28, w_28, z0_28, z1_28, c_29, i_29, w_29, z0_29, z1_29, c_42, i_42, w_42, z0_42, z1_42, c_43, i_43, w_43, z0_43, z1_43, c_52, i_52, w_52, z0_52, z1_52, X1_size, X1_literal, X1_numberOfStep, X1_ofFormula, X1_inAll, X1_user, X9_codeOf, X1_firstUse, X1_endOfUses, X2_open, X2_at, X2_add, X2_drop, X2_clear, X4_fuelLeft, X4_isActive, X4_isMarked, X4_mark, X4_usedCount, X4_usedAt, X4_setActive, X4_forget, X4_truthOf, k7, if_pos, h4, hC.2.2, if_neg (nI_nlt (show L ≤ p by omega) (show p < 2 ^ 31 by omega)), blame_ok, fX5_readByteRow_72, rowB_end k]
    · rw [h114 _ _ hrn, bytes_end]
theorem byte_row {v v' : zV} {J J' : Nat → Nat → Int64} {b : Nat} (K : Nat → zS → Option zS) (hv : VV v b f) : ∀ (k r m m' t : Nat) (I I' : Nat → Nat → Int32) (w : Nat → Int32) (g p : Nat), r + k = 40 → k < m → k < m' → CS I b T L → RT I' T L → RO I I' f n e w d g r t → I 27 7 = 0 → I 27 8 = -1 → I' 75 8 = 0 → I' 75 30 = nI 150 → I 27 4 = nI p → I' 75 5 = nI p → p ≤ L →
    BEND v v' J J' f n e d L (fX5_readByteRow_7 (m + 1) 27 (nI r) (st I v J)) (fX10_readBytes_114 K (m' + 1) 75 1 (st I' v' J')) K I I' := by
  have hb := hv.2.2.2.1
  have hf := hv.2.2.2.2
  intro k
  induction k with
  | zero =>
    intro r m m' t I I' w g p hr hm hm' hC hR hO k7 k8 h8 h30 h4 h5 hp
    obtain ⟨m, rfl⟩ : ∃ q, m = q + 1 := ⟨m - 1, by omega⟩
    obtain ⟨m', rfl⟩ : ∃ q, m' = q + 1 := ⟨m' - 1, by omega⟩
    rcases byte_step (v := v) (v' := v') (J := J) (J' := J') (m := m) (m' := m') K hv hC hR hO k7 k8 h8 h30 h4 h5 hp with q | ⟨I1, I2, w', g', p', q1, q2, q3, q4⟩
    · exact q
    · have := q3.2.2.2.1; omega
  | succ k ih =>
    intro r m m' t I I' w g p hr hm hm' hC hR hO k7 k8 h8 h30 h4 h5 hp
    obtain ⟨m, rfl⟩ : ∃ q, m = q + 1 := ⟨m - 1, by omega⟩
    obtain ⟨m', rfl⟩ : ∃ q, m' = q + 1 := ⟨m' - 1, by omega⟩
    rcases byte_step (v := v) (v' := v') (J := J) (J' := J') (m := m) (m' := m') K hv hC hR hO k7 k8 h8 h30 h4 h5 hp with q | ⟨I1, I2, w', g', p', q1, q2, q3, q4, q5, q6, q7, q8, q9, q10, q11, q12⟩
    · exact q
    · rw [q1, q2]
      exact BEND_t (ih (r + 1) m m' (t + 1) I1 I2 w' g' p' (by omega) (by omega) (by omega) (CS_fr hb hf hC q8) (RT_F hR q9) q3 q4 q5 q6 q7 q11 q12 q10) q8 q9
theorem bprC_end {v : zV} {J : Nat → Nat → Int64} {I : Nat → Nat → Int32} (h : I 27 7 ≠ 0) (m : Nat) (x : Int32) : fX5_readByteProof_10 (m + 1) 27 x (st I v J) = some (st I v J) := by
  conv => lhs; unfold fX5_readByteProof_10
  simp only [bnd_x, gd_0, gd_1, gd_o0, gd_o1, ite_self, rf_1_0, rf_1_1, rf_1_5, rf_1_6, rf_1_7, rf_2_0, rf_4_0, rf_6_0, rf_6_1, rf_6_2, rf_7_0, rf_9_0, rf_11_0, rf_13_0, rf_13_1, rf_13_2, rf_14_0, rf_16_0, rf_18_0, rf_20_0, rf_20_1, rf_20_2, rf_21_0, rf_23_0, rf_25_0, rf_27_0, rf_29_0, rf_29_1, rf_29_2, rf_29_3, rf_29_4, rf_29_5, rf_30_0, rf_32_0, rf_34_0, rf_36_0, rf_38_0, rf_40_0, rf_42_0, rf_42_1, rf_42_2, rf_42_3, rf_43_0, rf_43_1, rf_43_2, rf_44_0, rf_46_0, rf_48_0, rf_50_0, rf_52_0, rf_52_1, rf_52_2, rf_52_3, rf_52_4, rf_52_5, rf_52_6, rf_52_7, rf_52_8, rf_52_9, rf_52_10, rf_52_11, rf_53_0, rf_55_0, rf_57_0, rf_59_0, rf_61_0, rf_63_0, rf_65_0, rf_67_0, rf_69_0, rf_71_0, rf_73_0, a_7, p_7, f_7, c_7, a_9, p_9, f_9, c_9, a_11, p_11, f_11, c_11, a_14, p_14, f_14, c_14, a_16, p_16, f_16, c_16, a_18, p_18, f_18, c_18, a_21, p_21, f_21, c_21, a_23, p_23, f_23, c_23, a_25, p_25, f_25, c_25, a_30, p_30, f_30, c_30, a_32, p_32, f_32, c_32, a_34, p_34, f_34, c_34, a_36, p_36, f_36, c_36, a_38, p_38, f_38, c_38, a_40, p_40, f_40, c_40, a_44, p_44, f_44, c_44, a_46, p_46, f_46, c_46, a_48, p_48, f_48, c_48, a_50, p_50, f_50, c_50, a_53, p_53, f_53, c_53, a_55, p_55, f_55, c_55, a_57, p_57, f_57, c_57, a_59, p_59, f_59, c_59, a_61, p_61, f_61, c_61, a_63, p_63, f_63, c_63, a_65, p_65, f_65, c_65, a_67, p_67, f_67, c_67, a_69, p_69, f_69, c_69, a_71, p_71, f_71, c_71, a_73, p_73, f_73, c_73, c_1, i_1, w_1, z0_1, z1_1, c_2, i_2, w_2, z0_2, z1_2, c_4, i_4, w_4, z0_4, z1_4, c_6, i_6, w_6, z0_6, z1_6, c_13, i_13, w_13, z0_13, z1_13, c_20, i_20, w_20, z0_20, z1_20, c_27, i_27, w_27, z0_27, z1_27, c_28, i_28, w_28, z0_28, z1_28, c_29, i_29, w_29, z0_29, z1_29, c_42, i_42, w_42, z0_42, z1_42, c_43, i_43, w_43, z0_43, z1_43, c_52, i_52, w_52, z0_52, z1_52, X1_size, X1_literal, X1_numberOfStep, X1_ofFormula, X1_inAll, X1_user, X9_codeOf, X1_firstUse, X1_endOfUses, X2_open, X2_at, X2_add, X2_drop, X2_clear, X4_fuelLeft, X4_isActive, X4_isMarked, X4_mark, X4_usedCount, X4_usedAt, X4_setActive, X4_forget, X4_truthOf, if_neg h]
theorem bprM_end {v : zV} {J : Nat → Nat → Int64} {I : Nat → Nat → Int32} (h : I 75 8 ≠ 0) (m : Nat) : fX10_readBytes_0 (m + 1) 75 (st I v J) = some (st I v J) := by
  conv => lhs; unfold fX10_readBytes_0
  simp only [bnd_x, gd_0, gd_1, gd_o0, gd_o1, ite_self, rf_75_1, rf_75_3, rf_75_12, rf_75_13, rf_75_14, rf_75_15, rf_75_16, rf_75_17, rf_75_18, rf_75_22, rf_75_23, rf_75_24, rf_75_25, rf_75_31, rf_75_32, rf_75_41, rf_75_42, rf_75_43, rf_75_44, rf_75_45, rf_75_46, rf_75_47, rf_75_48, rf_75_53, rf_75_54, rf_75_55, rf_75_57, c_75, i_75, w_75, z0_75, z1_75, if_neg h]
/-- at rest between rows in bytes -/
def RSB (I I' : Nat → Nat → Int32) (b : Nat) (T : Nat → Int32) (L f n : Nat) (e : Nat → Nat) (w : Nat → Int32) (d : Nat → Bool) (t pos : Nat) : Prop :=
  RCl I I' f n e w d ∧ CS I b T L ∧ RT I' T L ∧ I 27 7 = 0 ∧ I 27 8 = -1 ∧ I' 75 8 = 0 ∧ I 27 6 = nI t ∧ I' 75 28 = nI t ∧ e n ≤ t ∧ t ≤ 2000 ∧ pos ≤ L ∧ I 27 4 = nI pos ∧ I' 75 5 = nI pos
end
section
variable {f : Nat} {T : Nat → Int32} {L : Nat}
theorem bytes_loop {v v' : zV} {J J' : Nat → Nat → Int64} {b : Nat} (hv : VV v b f) : ∀ (k n m m' t pos : Nat) (I I' : Nat → Nat → Int32) (e : Nat → Nat) (w : Nat → Int32) (d : Nat → Bool), n + k = 300 → k + 1 < m → k + 1 < m' → RSB I I' b T L f n e w d t pos → I' 75 30 = nI 150 →
    PEND v v' J J' f (fX5_readByteProof_10 m 27 (nI (n + 1)) (st I v J)) (fX10_readBytes_0 m' 75 (st I' v' J')) I I' := by
  obtain ⟨v1, v2, v3, hb, hf⟩ := hv
  have hv : VV v b f := ⟨v1, v2, v3, hb, hf⟩
  obtain ⟨b1, b2', b3, b4, b5, b6, b7⟩ := B_f hb hf
  have hb0 : v.2.2.2.1 ≠ 0 := by rw [v1]; exact (B_0 hb).2.2.2
  have hf0 : v.2.2.2.2.1 ≠ 0 := by rw [v2]; rcases isSh_i hf with q | q | q <;> rw [q] <;> decide
  have hz := zfu_big
  intro k
  induction k with
  | zero =>
    intro n m m' t pos I I' e w d hn hm hm' h h30
    obtain ⟨m, rfl⟩ : ∃ q, m = q + 2 := ⟨m - 2, by omega⟩
    obtain ⟨m', rfl⟩ : ∃ q, m' = q + 2 := ⟨m' - 2, by omega⟩
    obtain ⟨h1, h2, h3, h4, h5, h6, h7, h8, h9, h10, h11, h12, h13⟩ := h
    have hL := h3.1
    have i301 : ¬ (301 : Int32) < nI (n + 1) := nI_nlt (a := 301) (b := n + 1) (by omega) (by decide)
    have i300 : ¬ nI (n + 1) ≤ (300 : Int32) := nI_ge (a := 300) (by omega) (by omega)
    have h26 : I' 75 26 = 300 := by rw [h1.2.2.2.1, show n = 300 by omega]; rfl
    by_cases c : pos < L
    · have nle : ¬ nI L ≤ nI pos := nI_ge c (by omega)
      have w8 : ∀ y : Int32, y ≠ 0 → ∀ p, ¬ wg I' y p 75 8 = 0 := fun y hy p => by
        unfold wg; rw [if_pos h6, up_at, vup_n (by decide), up_self]; exact hy
      have fin : ∀ (fl : Int32), fl ≠ 0 → fX5_readByteProof_10 (m + 2) 27 (nI (n + 1)) (st I v J) = fX5_readByteProof_10 (m + 1) 27 (nI (n + 1 + 1)) (st (ktw I fl (nI pos)) v J) → fX10_readBytes_0 (m' + 2) 75 (st I' v' J') = fX10_readBytes_0 (m' + 1) 75 (st (wg I' fl (nI pos)) v' J') → PEND v v' J J' f (fX5_readByteProof_10 (m + 2) 27 (nI (n + 1)) (st I v J)) (fX10_readBytes_0 (m' + 2) 75 (st I' v' J')) I I' := by
        intro fl f0 y1 y2
        have k : ktw I fl (nI pos) 27 7 ≠ 0 := by unfold ktw; rw [up_at, vup_n (by decide), up_self]; exact f0
        refine ⟨ktw I fl (nI pos), wg I' fl (nI pos), n, e, w, d, by rw [y1, bprC_end k], by rw [y2, bprM_end (w8 fl f0 (nI pos))], ?_, FK_blame _ _ h6 f0, FCr_ktw hf _ _, FMr_wg _ _⟩
        unfold wg
        rw [if_pos h6]
        exact RCl_fr h1 (fun q q1 q2 => by unfold ktw; rw [up_ne (by omega), up_ne (by omega)]) (by rw [up_at, vup_n (by decide), up_at, vup_n (by decide)]) (by rw [up_at, vup_n (by decide), up_at, vup_n (by decide)]) (fun q hq => by rw [up_ne hq, up_ne hq])
      by_cases ca : T pos = 97 ∨ T pos = 100
      · refine fin 3 (by decide) ?_ ?_
        · conv => lhs; unfold fX5_readByteProof_10
          rw [if_neg i301]
          simp only [bnd_x, gd_0, gd_1, gd_o0, gd_o1, ite_self, rf_1_0, rf_1_1, rf_1_5, rf_1_6, rf_1_7, rf_2_0, rf_4_0, rf_6_0, rf_6_1, rf_6_2, rf_7_0, rf_9_0, rf_11_0, rf_13_0, rf_13_1, rf_13_2, rf_14_0, rf_16_0, rf_18_0, rf_20_0, rf_20_1, rf_20_2, rf_21_0, rf_23_0, rf_25_0, rf_27_0, rf_29_0, rf_29_1, rf_29_2, rf_29_3, rf_29_4, rf_29_5, rf_30_0, rf_32_0, rf_34_0, rf_36_0, rf_38_0, rf_40_0, rf_42_0, rf_42_1, rf_42_2, rf_42_3, rf_43_0, rf_43_1, rf_43_2, rf_44_0, rf_46_0, rf_48_0, rf_50_0, rf_52_0, rf_52_1, rf_52_2, rf_52_3, rf_52_4, rf_52_5, rf_52_6, rf_52_7, rf_52_8, rf_52_9, rf_52_10, rf_52_11, rf_53_0, rf_55_0, rf_57_0, rf_59_0, rf_61_0, rf_63_0, rf_65_0, rf_67_0, rf_69_0, rf_71_0, rf_73_0, a_7, p_7, f_7, c_7, a_9, p_9, f_9, c_9, a_11, p_11, f_11, c_11, a_14, p_14, f_14, c_14, a_16, p_16, f_16, c_16, a_18, p_18, f_18, c_18, a_21, p_21, f_21, c_21, a_23, p_23, f_23, c_23, a_25, p_25, f_25, c_25, a_30, p_30, f_30, c_30, a_32, p_32, f_32, c_32, a_34, p_34, f_34, c_34, a_36, p_36, f_36, c_36, a_38, p_38, f_38, c_38, a_40, p_40, f_40, c_40, a_44, p_44, f_44, c_44, a_46, p_46, f_46, c_46, a_48, p_48, f_48, c_48, a_50, p_50, f_50, c_50, a_53, p_53, f_53, c_53, a_55, p_55, f_55, c_55, a_57, p_57, f_57, c_57, a_59, p_59, f_59, c_59, a_61, p_61, f_61, c_61, a_63, p_63, f_63, c_63, a_65, p_65, f_65, c_65, a_67, p_67, f_67, c_67, a_69, p_69, f_69, c_69, a_71, p_71, f_71, c_71, a_73, p_73, f_73, c_73, c_1, i_1, w_1, z0_1, z1_1, c_2, i_2, w_2, z0_2, z1_2, c_4, i_4, w_4, z0_4, z1_4, c_6, i_6, w_6, z0_6, z1_6, c_13, i_13, w_13, z0_13, z1_13, c_20, i_20, w_20, z0_20, z1_20, c_27, i_27, w_27, z0_27, z1_27, c_28, i_28, w_28, z0_28, z1_28, c_29, i_29, w_29, z0_29, z1_29, c_42, i_42, w_42, z0_42, z1_42, c_43, i_43, w_43, z0_43, z1_43, c_52, i_52, w_52, z0_52, z1_52, X1_size, X1_literal, X1_numberOfStep, X1_ofFormula, X1_inAll, X1_user, X9_codeOf, X1_firstUse, X1_endOfUses, X2_open, X2_at, X2_add, X2_drop, X2_clear, X4_fuelLeft, X4_isActive, X4_isMarked, X4_mark, X4_usedCount, X4_usedAt, X4_setActive, X4_forget, X4_truthOf, h4, if_pos, h12, h2.2.2, if_neg nle, rv_27_1 hb0, v1, cl_st (B_0 hb).1, at_all hb, atv_ok h2.1 c, fX5_readByteProof_75, if_neg i300, blame_ok, fX5_readByteProof_128, nI_1]
          rcases ca with q | q
          · rw [if_pos q]
          · rw [if_pos q]; simp only [ite_self]
        · conv => lhs; unfold fX10_readBytes_0
          simp only [bnd_x, gd_0, gd_1, gd_o0, gd_o1, ite_self, rf_75_1, rf_75_3, rf_75_12, rf_75_13, rf_75_14, rf_75_15, rf_75_16, rf_75_17, rf_75_18, rf_75_22, rf_75_23, rf_75_24, rf_75_25, rf_75_31, rf_75_32, rf_75_41, rf_75_42, rf_75_43, rf_75_44, rf_75_45, rf_75_46, rf_75_47, rf_75_48, rf_75_53, rf_75_54, rf_75_55, rf_75_57, c_75, i_75, w_75, z0_75, z1_75, h6, if_pos, h13, h3.2.1, if_neg nle, qa_77 (show pos < 6000 by omega), h3.2.2 pos c, fX10_readBytes_52, h26, wrong_ok, fX10_readBytes_71, if_neg (w8 3 (by decide) (nI pos)), fX10_readBytes_126]
          rcases ca with q | q
          · rw [if_pos q]
          · rw [if_pos q]; simp only [ite_self]
      · have na : ¬ T pos = 97 := fun q => ca (Or.inl q)
        have nd : ¬ T pos = 100 := fun q => ca (Or.inr q)
        refine fin 1 (by decide) ?_ ?_
        · conv => lhs; unfold fX5_readByteProof_10
          rw [if_neg i301]
          simp only [bnd_x, gd_0, gd_1, gd_o0, gd_o1, ite_self, rf_1_0, rf_1_1, rf_1_5, rf_1_6, rf_1_7, rf_2_0, rf_4_0, rf_6_0, rf_6_1, rf_6_2, rf_7_0, rf_9_0, rf_11_0, rf_13_0, rf_13_1, rf_13_2, rf_14_0, rf_16_0, rf_18_0, rf_20_0, rf_20_1, rf_20_2, rf_21_0, rf_23_0, rf_25_0, rf_27_0, rf_29_0, rf_29_1, rf_29_2, rf_29_3, rf_29_4, rf_29_5, rf_30_0, rf_32_0, rf_34_0, rf_36_0, rf_38_0, rf_40_0, rf_42_0, rf_42_1, rf_42_2, rf_42_3, rf_43_0, rf_43_1, rf_43_2, rf_44_0, rf_46_0, rf_48_0, rf_50_0, rf_52_0, rf_52_1, rf_52_2, rf_52_3, rf_52_4, rf_52_5, rf_52_6, rf_52_7, rf_52_8, rf_52_9, rf_52_10, rf_52_11, rf_53_0, rf_55_0, rf_57_0, rf_59_0, rf_61_0, rf_63_0, rf_65_0, rf_67_0, rf_69_0, rf_71_0, rf_73_0, a_7, p_7, f_7, c_7, a_9, p_9, f_9, c_9, a_11, p_11, f_11, c_11, a_14, p_14, f_14, c_14, a_16, p_16, f_16, c_16, a_18, p_18, f_18, c_18, a_21, p_21, f_21, c_21, a_23, p_23, f_23, c_23, a_25, p_25, f_25, c_25, a_30, p_30, f_30, c_30, a_32, p_32, f_32, c_32, a_34, p_34, f_34, c_34, a_36, p_36, f_36, c_36, a_38, p_38, f_38, c_38, a_40, p_40, f_40, c_40, a_44, p_44, f_44, c_44, a_46, p_46, f_46, c_46, a_48, p_48, f_48, c_48, a_50, p_50, f_50, c_50, a_53, p_53, f_53, c_53, a_55, p_55, f_55, c_55, a_57, p_57, f_57, c_57, a_59, p_59, f_59, c_59, a_61, p_61, f_61, c_61, a_63, p_63, f_63, c_63, a_65, p_65, f_65, c_65, a_67, p_67, f_67, c_67, a_69, p_69, f_69, c_69, a_71, p_71, f_71, c_71, a_73, p_73, f_73, c_73, c_1, i_1, w_1, z0_1, z1_1, c_2, i_2, w_2, z0_2, z1_2, c_4, i_4, w_4, z0_4, z1_4, c_6, i_6, w_6, z0_6, z1_6, c_13, i_13, w_13, z0_13, z1_13, c_20, i_20, w_20, z0_20, z1_20, c_27, i_27, w_27, z0_27, z1_27, c_28, i_28, w_28, z0_28, z1_28, c_29, i_29, w_29, z0_29, z1_29, c_42, i_42, w_42, z0_42, z1_42, c_43, i_43, w_43, z0_43, z1_43, c_52, i_52, w_52, z0_52, z1_52, X1_size, X1_literal, X1_numberOfStep, X1_ofFormula, X1_inAll, X1_user, X9_codeOf, X1_firstUse, X1_endOfUses, X2_open, X2_at, X2_add, X2_drop, X2_clear, X4_fuelLeft, X4_isActive, X4_isMarked, X4_mark, X4_usedCount, X4_usedAt, X4_setActive, X4_forget, X4_truthOf, h4, if_pos, h12, h2.2.2, if_neg nle, rv_27_1 hb0, v1, cl_st (B_0 hb).1, at_all hb, atv_ok h2.1 c, if_neg na, if_neg nd, blame_ok, fX5_readByteProof_128, nI_1]
        · conv => lhs; unfold fX10_readBytes_0
          simp only [bnd_x, gd_0, gd_1, gd_o0, gd_o1, ite_self, rf_75_1, rf_75_3, rf_75_12, rf_75_13, rf_75_14, rf_75_15, rf_75_16, rf_75_17, rf_75_18, rf_75_22, rf_75_23, rf_75_24, rf_75_25, rf_75_31, rf_75_32, rf_75_41, rf_75_42, rf_75_43, rf_75_44, rf_75_45, rf_75_46, rf_75_47, rf_75_48, rf_75_53, rf_75_54, rf_75_55, rf_75_57, c_75, i_75, w_75, z0_75, z1_75, h6, if_pos, h13, h3.2.1, if_neg nle, qa_77 (show pos < 6000 by omega), h3.2.2 pos c, if_neg na, if_neg nd, wrong_ok, fX10_readBytes_71, if_neg (w8 1 (by decide) (nI pos)), fX10_readBytes_126]
    · have le1 : nI L ≤ nI pos := nI_le (by omega) (by omega)
      refine ⟨I, I', n, e, w, d, ?_, ?_, h1, ⟨by rw [h4, h6], fun _ => h5, fun q => absurd h4 q⟩, FCr_r I, FMr_r I'⟩
      · conv => lhs; unfold fX5_readByteProof_10
        rw [if_neg i301]
        simp only [bnd_x, gd_0, gd_1, gd_o0, gd_o1, ite_self, rf_1_0, rf_1_1, rf_1_5, rf_1_6, rf_1_7, rf_2_0, rf_4_0, rf_6_0, rf_6_1, rf_6_2, rf_7_0, rf_9_0, rf_11_0, rf_13_0, rf_13_1, rf_13_2, rf_14_0, rf_16_0, rf_18_0, rf_20_0, rf_20_1, rf_20_2, rf_21_0, rf_23_0, rf_25_0, rf_27_0, rf_29_0, rf_29_1, rf_29_2, rf_29_3, rf_29_4, rf_29_5, rf_30_0, rf_32_0, rf_34_0, rf_36_0, rf_38_0, rf_40_0, rf_42_0, rf_42_1, rf_42_2, rf_42_3, rf_43_0, rf_43_1, rf_43_2, rf_44_0, rf_46_0, rf_48_0, rf_50_0, rf_52_0, rf_52_1, rf_52_2, rf_52_3, rf_52_4, rf_52_5, rf_52_6, rf_52_7, rf_52_8, rf_52_9, rf_52_10, rf_52_11, rf_53_0, rf_55_0, rf_57_0, rf_59_0, rf_61_0, rf_63_0, rf_65_0, rf_67_0, rf_69_0, rf_71_0, rf_73_0, a_7, p_7, f_7, c_7, a_9, p_9, f_9, c_9, a_11, p_11, f_11, c_11, a_14, p_14, f_14, c_14, a_16, p_16, f_16, c_16, a_18, p_18, f_18, c_18, a_21, p_21, f_21, c_21, a_23, p_23, f_23, c_23, a_25, p_25, f_25, c_25, a_30, p_30, f_30, c_30, a_32, p_32, f_32, c_32, a_34, p_34, f_34, c_34, a_36, p_36, f_36, c_36, a_38, p_38, f_38, c_38, a_40, p_40, f_40, c_40, a_44, p_44, f_44, c_44, a_46, p_46, f_46, c_46, a_48, p_48, f_48, c_48, a_50, p_50, f_50, c_50, a_53, p_53, f_53, c_53, a_55, p_55, f_55, c_55, a_57, p_57, f_57, c_57, a_59, p_59, f_59, c_59, a_61, p_61, f_61, c_61, a_63, p_63, f_63, c_63, a_65, p_65, f_65, c_65, a_67, p_67, f_67, c_67, a_69, p_69, f_69, c_69, a_71, p_71, f_71, c_71, a_73, p_73, f_73, c_73, c_1, i_1, w_1, z0_1, z1_1, c_2, i_2, w_2, z0_2, z1_2, c_4, i_4, w_4, z0_4, z1_4, c_6, i_6, w_6, z0_6, z1_6, c_13, i_13, w_13, z0_13, z1_13, c_20, i_20, w_20, z0_20, z1_20, c_27, i_27, w_27, z0_27, z1_27, c_28, i_28, w_28, z0_28, z1_28, c_29, i_29, w_29, z0_29, z1_29, c_42, i_42, w_42, z0_42, z1_42, c_43, i_43, w_43, z0_43, z1_43, c_52, i_52, w_52, z0_52, z1_52, X1_size, X1_literal, X1_numberOfStep, X1_ofFormula, X1_inAll, X1_user, X9_codeOf, X1_firstUse, X1_endOfUses, X2_open, X2_at, X2_add, X2_drop, X2_clear, X4_fuelLeft, X4_isActive, X4_isMarked, X4_mark, X4_usedCount, X4_usedAt, X4_setActive, X4_forget, X4_truthOf, h4, if_pos, h12, h2.2.2, if_pos le1]
      · conv => lhs; unfold fX10_readBytes_0
        simp only [bnd_x, gd_0, gd_1, gd_o0, gd_o1, ite_self, rf_75_1, rf_75_3, rf_75_12, rf_75_13, rf_75_14, rf_75_15, rf_75_16, rf_75_17, rf_75_18, rf_75_22, rf_75_23, rf_75_24, rf_75_25, rf_75_31, rf_75_32, rf_75_41, rf_75_42, rf_75_43, rf_75_44, rf_75_45, rf_75_46, rf_75_47, rf_75_48, rf_75_53, rf_75_54, rf_75_55, rf_75_57, c_75, i_75, w_75, z0_75, z1_75, h6, if_pos, h13, h3.2.1, if_pos le1]
  | succ k ih =>
    intro n m m' t pos I I' e w d hn hm hm' h h30
    obtain ⟨m, rfl⟩ : ∃ q, m = q + 2 := ⟨m - 2, by omega⟩
    obtain ⟨m', rfl⟩ : ∃ q, m' = q + 2 := ⟨m' - 2, by omega⟩
    obtain ⟨h1, h2, h3, h4, h5, h6, h7, h8, h9, h10, h11, h12, h13⟩ := h
    have hL := h3.1
    have i301 : ¬ (301 : Int32) < nI (n + 1) := nI_nlt (a := 301) (b := n + 1) (by omega) (by decide)
    have i300 : nI (n + 1) ≤ (300 : Int32) := nI_le (b := 300) (by omega) (by decide)
    have h26 : ¬ I' 75 26 = 300 := by rw [h1.2.2.2.1]; exact fun q => absurd ((nI_eq (a := n) (b := 300) (by omega) (by decide)).mp q) (by omega)
    by_cases c : pos < L
    · have nle : ¬ nI L ≤ nI pos := nI_ge c (by omega)
      by_cases ca : T pos = 97 ∨ T pos = 100
      · generalize hx : decide (T pos = 100) = x
        have hop := open_m (v := v') (J := J') h1.2.2.2.1 h1.2.2.2.2.1 (show n < 300 by omega)
        have op26 : opn I' n (e n) 75 26 = nI (n + 1) := by unfold opn; rw [up_at, vup_n (by decide), up_ne (by decide), up_ne (by decide), up_ne (by decide), up_self]
        obtain ⟨f1, f2, f3⟩ := opn_F (I := I') (n := n) (g := e n) (x := b2 x)
        generalize hM : up (opn I' n (e n)) 88 (n + 1) (b2 x) = M at *
        have fI1 : FCr I (up I 27 4 (nI (pos + 1))) f := FCr_27 hf (by decide)
        have fI : FCr I (up (up I 27 4 (nI (pos + 1))) 27 5 0) f := FCr_t fI1 (FCr_27 hf (by decide))
        have fM : FMr I' (up M 75 5 (nI (pos + 1))) := FMr_t f1 (FMr_75 (by omega))
        have hRC1 : RCl (up I 27 4 (nI (pos + 1))) I' f n e w d := RCl_fr h1 (fun q q1 q2 => up_ne (by omega)) rfl rfl (fun _ _ => rfl)
        have hRO0 := RO_0 (x := x) hf hRC1 (show n < 300 by omega) (by rw [up_at, vup_n (by decide)]; exact h7) h8 h9 h10
        rw [hM] at hRO0
        have hRO : RO (up (up I 27 4 (nI (pos + 1))) 27 5 0) (up M 75 5 (nI (pos + 1))) f n e w (dS d n x) (e n) 0 t := by
          have := RO_27 hRO0 b6 (nI (pos + 1)) (nI (pos + 1))
          rw [show up (up (up I 27 4 (nI (pos + 1))) 27 5 0) 27 4 (nI (pos + 1)) = up (up I 27 4 (nI (pos + 1))) 27 5 0 from up_id (by rw [up_at, vup_n (by decide), up_self])] at this
          exact this
        obtain ⟨mz, hmz⟩ : ∃ q, zfu = q + 1 := ⟨zfu - 1, by omega⟩
        have hB := byte_row (v := v) (v' := v') (J := J) (J' := J') (fX10_readBytes_0 (m' + 1)) hv 40 0 mz mz t _ _ w (e n) (pos + 1) (by omega) (by omega) (by omega) (CS_fr hb hf h2 fI) (RT_F h3 fM) hRO (by rw [up_at, vup_n (by decide), up_at, vup_n (by decide)]; exact h4) (by rw [up_at, vup_n (by decide), up_at, vup_n (by decide)]; exact h5) (by rw [up_at, vup_n (by decide), f3 8 (by decide) (by decide)]; exact h6) (by rw [up_at, vup_n (by decide), f3 30 (by decide) (by decide)]; exact h30) (by rw [up_at, vup_n (by decide), up_self]) (up_self ..) (by omega)
        rw [← hmz, nI_0] at hB
        obtain ⟨I1, I2, w', g', q1, q2, q3, q4, q5, q6, q7⟩ := hB
        obtain ⟨z1, z2, z3⟩ := RCl_close hf q3 (x := b2 x) (by rw [b2_if]; unfold dS; rw [if_pos rfl])
        have e27 : shClose I1 f (b2 x) 27 = I1 27 := z3 27 (by omega) (by omega) (by omega)
        have hC : fX5_readByteProof_10 (m + 2) 27 (nI (n + 1)) (st I v J) = fX5_readByteProof_10 (m + 1) 27 (nI (n + 1 + 1)) (st (shClose I1 f (b2 x)) v J) := by
          have h75 : fX5_readByteProof_75 (fX5_readByteProof_10 (m + 1)) 27 (nI (n + 1)) (T pos) (st I v J) = fX5_readByteProof_10 (m + 1) 27 (nI (n + 1 + 1)) (st (shClose I1 f (b2 x)) v J) := by
            unfold fX5_readByteProof_75
            rw [if_pos i300]
            have hrb : fX5_readByteRow 27 (st (up I 27 4 (nI (pos + 1))) v J) = some (st I1 v J) := by
              unfold fX5_readByteRow
              simp only [bnd_x, gd_0, gd_1, gd_o0, gd_o1, ite_self, rf_1_0, rf_1_1, rf_1_5, rf_1_6, rf_1_7, rf_2_0, rf_4_0, rf_6_0, rf_6_1, rf_6_2, rf_7_0, rf_9_0, rf_11_0, rf_13_0, rf_13_1, rf_13_2, rf_14_0, rf_16_0, rf_18_0, rf_20_0, rf_20_1, rf_20_2, rf_21_0, rf_23_0, rf_25_0, rf_27_0, rf_29_0, rf_29_1, rf_29_2, rf_29_3, rf_29_4, rf_29_5, rf_30_0, rf_32_0, rf_34_0, rf_36_0, rf_38_0, rf_40_0, rf_42_0, rf_42_1, rf_42_2, rf_42_3, rf_43_0, rf_43_1, rf_43_2, rf_44_0, rf_46_0, rf_48_0, rf_50_0, rf_52_0, rf_52_1, rf_52_2, rf_52_3, rf_52_4, rf_52_5, rf_52_6, rf_52_7, rf_52_8, rf_52_9, rf_52_10, rf_52_11, rf_53_0, rf_55_0, rf_57_0, rf_59_0, rf_61_0, rf_63_0, rf_65_0, rf_67_0, rf_69_0, rf_71_0, rf_73_0, a_7, p_7, f_7, c_7, a_9, p_9, f_9, c_9, a_11, p_11, f_11, c_11, a_14, p_14, f_14, c_14, a_16, p_16, f_16, c_16, a_18, p_18, f_18, c_18, a_21, p_21, f_21, c_21, a_23, p_23, f_23, c_23, a_25, p_25, f_25, c_25, a_30, p_30, f_30, c_30, a_32, p_32, f_32, c_32, a_34, p_34, f_34, c_34, a_36, p_36, f_36, c_36, a_38, p_38, f_38, c_38, a_40, p_40, f_40, c_40, a_44, p_44, f_44, c_44, a_46, p_46, f_46, c_46, a_48, p_48, f_48, c_48, a_50, p_50, f_50, c_50, a_53, p_53, f_53, c_53, a_55, p_55, f_55, c_55, a_57, p_57, f_57, c_57, a_59, p_59, f_59, c_59, a_61, p_61, f_61, c_61, a_63, p_63, f_63, c_63, a_65, p_65, f_65, c_65, a_67, p_67, f_67, c_67, a_69, p_69, f_69, c_69, a_71, p_71, f_71, c_71, a_73, p_73, f_73, c_73, c_1, i_1, w_1, z0_1, z1_1, c_2, i_2, w_2, z0_2, z1_2, c_4, i_4, w_4, z0_4, z1_4, c_6, i_6, w_6, z0_6, z1_6, c_13, i_13, w_13, z0_13, z1_13, c_20, i_20, w_20, z0_20, z1_20, c_27, i_27, w_27, z0_27, z1_27, c_28, i_28, w_28, z0_28, z1_28, c_29, i_29, w_29, z0_29, z1_29, c_42, i_42, w_42, z0_42, z1_42, c_43, i_43, w_43, z0_43, z1_43, c_52, i_52, w_52, z0_52, z1_52, X1_size, X1_literal, X1_numberOfStep, X1_ofFormula, X1_inAll, X1_user, X9_codeOf, X1_firstUse, X1_endOfUses, X2_open, X2_at, X2_add, X2_drop, X2_clear, X4_fuelLeft, X4_isActive, X4_isMarked, X4_mark, X4_usedCount, X4_usedAt, X4_setActive, X4_forget, X4_truthOf]
              exact q1
            simp only [bnd_x, gd_0, gd_1, gd_o0, gd_o1, ite_self, rf_1_0, rf_1_1, rf_1_5, rf_1_6, rf_1_7, rf_2_0, rf_4_0, rf_6_0, rf_6_1, rf_6_2, rf_7_0, rf_9_0, rf_11_0, rf_13_0, rf_13_1, rf_13_2, rf_14_0, rf_16_0, rf_18_0, rf_20_0, rf_20_1, rf_20_2, rf_21_0, rf_23_0, rf_25_0, rf_27_0, rf_29_0, rf_29_1, rf_29_2, rf_29_3, rf_29_4, rf_29_5, rf_30_0, rf_32_0, rf_34_0, rf_36_0, rf_38_0, rf_40_0, rf_42_0, rf_42_1, rf_42_2, rf_42_3, rf_43_0, rf_43_1, rf_43_2, rf_44_0, rf_46_0, rf_48_0, rf_50_0, rf_52_0, rf_52_1, rf_52_2, rf_52_3, rf_52_4, rf_52_5, rf_52_6, rf_52_7, rf_52_8, rf_52_9, rf_52_10, rf_52_11, rf_53_0, rf_55_0, rf_57_0, rf_59_0, rf_61_0, rf_63_0, rf_65_0, rf_67_0, rf_69_0, rf_71_0, rf_73_0, a_7, p_7, f_7, c_7, a_9, p_9, f_9, c_9, a_11, p_11, f_11, c_11, a_14, p_14, f_14, c_14, a_16, p_16, f_16, c_16, a_18, p_18, f_18, c_18, a_21, p_21, f_21, c_21, a_23, p_23, f_23, c_23, a_25, p_25, f_25, c_25, a_30, p_30, f_30, c_30, a_32, p_32, f_32, c_32, a_34, p_34, f_34, c_34, a_36, p_36, f_36, c_36, a_38, p_38, f_38, c_38, a_40, p_40, f_40, c_40, a_44, p_44, f_44, c_44, a_46, p_46, f_46, c_46, a_48, p_48, f_48, c_48, a_50, p_50, f_50, c_50, a_53, p_53, f_53, c_53, a_55, p_55, f_55, c_55, a_57, p_57, f_57, c_57, a_59, p_59, f_59, c_59, a_61, p_61, f_61, c_61, a_63, p_63, f_63, c_63, a_65, p_65, f_65, c_65, a_67, p_67, f_67, c_67, a_69, p_69, f_69, c_69, a_71, p_71, f_71, c_71, a_73, p_73, f_73, c_73, c_1, i_1, w_1, z0_1, z1_1, c_2, i_2, w_2, z0_2, z1_2, c_4, i_4, w_4, z0_4, z1_4, c_6, i_6, w_6, z0_6, z1_6, c_13, i_13, w_13, z0_13, z1_13, c_20, i_20, w_20, z0_20, z1_20, c_27, i_27, w_27, z0_27, z1_27, c_28, i_28, w_28, z0_28, z1_28, c_29, i_29, w_29, z0_29, z1_29, c_42, i_42, w_42, z0_42, z1_42, c_43, i_43, w_43, z0_43, z1_43, c_52, i_52, w_52, z0_52, z1_52, X1_size, X1_literal, X1_numberOfStep, X1_ofFormula, X1_inAll, X1_user, X9_codeOf, X1_firstUse, X1_endOfUses, X2_open, X2_at, X2_add, X2_drop, X2_clear, X4_fuelLeft, X4_isActive, X4_isMarked, X4_mark, X4_usedCount, X4_usedAt, X4_setActive, X4_forget, X4_truthOf, h12, nI_1, hrb, rv_27_2 hf0, v2, fX5_readByteProof_125, fX5_readByteProof_128, cl_st (sh_f hf).1, X7_closeRow hf]
            by_cases z : T pos = 100
            · rw [if_pos z, ← hx, decide_eq_true z]; rfl
            · rw [if_neg z, ← hx, decide_eq_false z]; rfl
          conv => lhs; unfold fX5_readByteProof_10
          rw [if_neg i301]
          simp only [bnd_x, gd_0, gd_1, gd_o0, gd_o1, ite_self, rf_1_0, rf_1_1, rf_1_5, rf_1_6, rf_1_7, rf_2_0, rf_4_0, rf_6_0, rf_6_1, rf_6_2, rf_7_0, rf_9_0, rf_11_0, rf_13_0, rf_13_1, rf_13_2, rf_14_0, rf_16_0, rf_18_0, rf_20_0, rf_20_1, rf_20_2, rf_21_0, rf_23_0, rf_25_0, rf_27_0, rf_29_0, rf_29_1, rf_29_2, rf_29_3, rf_29_4, rf_29_5, rf_30_0, rf_32_0, rf_34_0, rf_36_0, rf_38_0, rf_40_0, rf_42_0, rf_42_1, rf_42_2, rf_42_3, rf_43_0, rf_43_1, rf_43_2, rf_44_0, rf_46_0, rf_48_0, rf_50_0, rf_52_0, rf_52_1, rf_52_2, rf_52_3, rf_52_4, rf_52_5, rf_52_6, rf_52_7, rf_52_8, rf_52_9, rf_52_10, rf_52_11, rf_53_0, rf_55_0, rf_57_0, rf_59_0, rf_61_0, rf_63_0, rf_65_0, rf_67_0, rf_69_0, rf_71_0, rf_73_0, a_7, p_7, f_7, c_7, a_9, p_9, f_9, c_9, a_11, p_11, f_11, c_11, a_14, p_14, f_14, c_14, a_16, p_16, f_16, c_16, a_18, p_18, f_18, c_18, a_21, p_21, f_21, c_21, a_23, p_23, f_23, c_23, a_25, p_25, f_25, c_25, a_30, p_30, f_30, c_30, a_32, p_32, f_32, c_32, a_34, p_34, f_34, c_34, a_36, p_36, f_36, c_36, a_38, p_38, f_38, c_38, a_40, p_40, f_40, c_40, a_44, p_44, f_44, c_44, a_46, p_46, f_46, c_46, a_48, p_48, f_48, c_48, a_50, p_50, f_50, c_50, a_53, p_53, f_53, c_53, a_55, p_55, f_55, c_55, a_57, p_57, f_57, c_57, a_59, p_59, f_59, c_59, a_61, p_61, f_61, c_61, a_63, p_63, f_63, c_63, a_65, p_65, f_65, c_65, a_67, p_67, f_67, c_67, a_69, p_69, f_69, c_69, a_71, p_71, f_71, c_71, a_73, p_73, f_73, c_73, c_1, i_1, w_1, z0_1, z1_1, c_2, i_2, w_2, z0_2, z1_2, c_4, i_4, w_4, z0_4, z1_4, c_6, i_6, w_6, z0_6, z1_6, c_13, i_13, w_13, z0_13, z1_13, c_20, i_20, w_20, z0_20, z1_20, c_27, i_27, w_27, z0_27, z1_27, c_28, i_28, w_28, z0_28, z1_28, c_29, i_29, w_29, z0_29, z1_29, c_42, i_42, w_42, z0_42, z1_42, c_43, i_43, w_43, z0_43, z1_43, c_52, i_52, w_52, z0_52, z1_52, X1_size, X1_literal, X1_numberOfStep, X1_ofFormula, X1_inAll, X1_user, X9_codeOf, X1_firstUse, X1_endOfUses, X2_open, X2_at, X2_add, X2_drop, X2_clear, X4_fuelLeft, X4_isActive, X4_isMarked, X4_mark, X4_usedCount, X4_usedAt, X4_setActive, X4_forget, X4_truthOf, h4, if_pos, h12, h2.2.2, if_neg nle, rv_27_1 hb0, v1, cl_st (B_0 hb).1, at_all hb, atv_ok h2.1 c, h75]
          rcases ca with q | q
          · rw [if_pos q]
          · rw [if_pos q]; simp only [ite_self]
        have hMM : fX10_readBytes_0 (m' + 2) 75 (st I' v' J') = fX10_readBytes_0 (m' + 1) 75 (st I2 v' J') := by
          have h52 : fX10_readBytes_52 (fX10_readBytes_0 (m' + 1)) 75 (T pos) (st I' v' J') = fX10_readBytes_0 (m' + 1) 75 (st I2 v' J') := by
            have h101 : fX10_readBytes_101 (fX10_readBytes_0 (m' + 1)) 75 (b2 x) (nI (n + 1)) 88 (st (opn I' n (e n)) v' J') = fX10_readBytes_0 (m' + 1) 75 (st I2 v' J') := by
              unfold fX10_readBytes_101
              simp only [bnd_x, gd_0, gd_1, gd_o0, gd_o1, ite_self, rf_75_1, rf_75_3, rf_75_12, rf_75_13, rf_75_14, rf_75_15, rf_75_16, rf_75_17, rf_75_18, rf_75_22, rf_75_23, rf_75_24, rf_75_25, rf_75_31, rf_75_32, rf_75_41, rf_75_42, rf_75_43, rf_75_44, rf_75_45, rf_75_46, rf_75_47, rf_75_48, rf_75_53, rf_75_54, rf_75_55, rf_75_57, c_75, i_75, w_75, z0_75, z1_75, uz_88 (show n + 1 < 301 by omega) (b2_01 x), hM, f3 5 (by decide) (by decide), h13, nI_1]
              exact q2
            unfold fX10_readBytes_52 fX10_readBytes_71
            simp only [bnd_x, gd_0, gd_1, gd_o0, gd_o1, ite_self, rf_75_1, rf_75_3, rf_75_12, rf_75_13, rf_75_14, rf_75_15, rf_75_16, rf_75_17, rf_75_18, rf_75_22, rf_75_23, rf_75_24, rf_75_25, rf_75_31, rf_75_32, rf_75_41, rf_75_42, rf_75_43, rf_75_44, rf_75_45, rf_75_46, rf_75_47, rf_75_48, rf_75_53, rf_75_54, rf_75_55, rf_75_57, c_75, i_75, w_75, z0_75, z1_75, if_neg h26, h6, if_pos, hop, op26]
            by_cases z : T pos = 100
            · rw [if_pos z]
              rw [← hx, decide_eq_true z] at h101
              exact h101
            · rw [if_neg z]
              rw [← hx, decide_eq_false z] at h101
              exact h101
          conv => lhs; unfold fX10_readBytes_0
          simp only [bnd_x, gd_0, gd_1, gd_o0, gd_o1, ite_self, rf_75_1, rf_75_3, rf_75_12, rf_75_13, rf_75_14, rf_75_15, rf_75_16, rf_75_17, rf_75_18, rf_75_22, rf_75_23, rf_75_24, rf_75_25, rf_75_31, rf_75_32, rf_75_41, rf_75_42, rf_75_43, rf_75_44, rf_75_45, rf_75_46, rf_75_47, rf_75_48, rf_75_53, rf_75_54, rf_75_55, rf_75_57, c_75, i_75, w_75, z0_75, z1_75, h6, if_pos, h13, h3.2.1, if_neg nle, qa_77 (show pos < 6000 by omega), h3.2.2 pos c, h52]
          rcases ca with q | q
          · rw [if_pos q]
          · rw [if_pos q]; simp only [ite_self]
        rw [hC, hMM]
        have hFK : FK (shClose I1 f (b2 x)) I2 := by unfold FK; rw [e27]; exact q4
        have fT := FCr_t (FCr_t fI q5) z2
        have fT' := FMr_t fM q6
        by_cases z : I1 27 7 = 0
        · obtain ⟨p', t', y1, y2, y3, y4, y5, y6, y7⟩ := q7 z
          refine PEND_t (ih (n + 1) (m + 1) (m' + 1) t' p' _ I2 _ w' _ (by omega) (by omega) (by omega) ⟨z1, CS_fr hb hf h2 fT, RT_F h3 fT', by rw [e27]; exact z, by rw [e27]; exact q4.2.1 z, by rw [← q4.1]; exact z, by rw [e27]; exact y4, y5, ?_, y7, y1, by rw [e27]; exact y2, y3⟩ (by rw [fT'.2 30 (by omega)]; exact h30)) fT fT'
          unfold eS; rw [if_pos rfl]; exact y6
        · exact ⟨_, I2, n + 1, _, w', _, bprC_end (by rw [e27]; exact z) m _, bprM_end (by rw [← q4.1]; exact z) m', z1, hFK, fT, fT'⟩
      · have w8 : ∀ y : Int32, y ≠ 0 → ∀ p, ¬ wg I' y p 75 8 = 0 := fun y hy p => by
          unfold wg; rw [if_pos h6, up_at, vup_n (by decide), up_self]; exact hy
        have na : ¬ T pos = 97 := fun q => ca (Or.inl q)
        have nd : ¬ T pos = 100 := fun q => ca (Or.inr q)
        have k : ktw I 1 (nI pos) 27 7 ≠ 0 := by unfold ktw; rw [up_at, vup_n (by decide), up_self]; decide
        refine ⟨ktw I 1 (nI pos), wg I' 1 (nI pos), n, e, w, d, ?_, ?_, ?_, FK_blame _ _ h6 (by decide), FCr_ktw hf _ _, FMr_wg _ _⟩
        · conv => lhs; unfold fX5_readByteProof_10
          rw [if_neg i301]
          simp only [bnd_x, gd_0, gd_1, gd_o0, gd_o1, ite_self, rf_1_0, rf_1_1, rf_1_5, rf_1_6, rf_1_7, rf_2_0, rf_4_0, rf_6_0, rf_6_1, rf_6_2, rf_7_0, rf_9_0, rf_11_0, rf_13_0, rf_13_1, rf_13_2, rf_14_0, rf_16_0, rf_18_0, rf_20_0, rf_20_1, rf_20_2, rf_21_0, rf_23_0, rf_25_0, rf_27_0, rf_29_0, rf_29_1, rf_29_2, rf_29_3, rf_29_4, rf_29_5, rf_30_0, rf_32_0, rf_34_0, rf_36_0, rf_38_0, rf_40_0, rf_42_0, rf_42_1, rf_42_2, rf_42_3, rf_43_0, rf_43_1, rf_43_2, rf_44_0, rf_46_0, rf_48_0, rf_50_0, rf_52_0, rf_52_1, rf_52_2, rf_52_3, rf_52_4, rf_52_5, rf_52_6, rf_52_7, rf_52_8, rf_52_9, rf_52_10, rf_52_11, rf_53_0, rf_55_0, rf_57_0, rf_59_0, rf_61_0, rf_63_0, rf_65_0, rf_67_0, rf_69_0, rf_71_0, rf_73_0, a_7, p_7, f_7, c_7, a_9, p_9, f_9, c_9, a_11, p_11, f_11, c_11, a_14, p_14, f_14, c_14, a_16, p_16, f_16, c_16, a_18, p_18, f_18, c_18, a_21, p_21, f_21, c_21, a_23, p_23, f_23, c_23, a_25, p_25, f_25, c_25, a_30, p_30, f_30, c_30, a_32, p_32, f_32, c_32, a_34, p_34, f_34, c_34, a_36, p_36, f_36, c_36, a_38, p_38, f_38, c_38, a_40, p_40, f_40, c_40, a_44, p_44, f_44, c_44, a_46, p_46, f_46, c_46, a_48, p_48, f_48, c_48, a_50, p_50, f_50, c_50, a_53, p_53, f_53, c_53, a_55, p_55, f_55, c_55, a_57, p_57, f_57, c_57, a_59, p_59, f_59, c_59, a_61, p_61, f_61, c_61, a_63, p_63, f_63, c_63, a_65, p_65, f_65, c_65, a_67, p_67, f_67, c_67, a_69, p_69, f_69, c_69, a_71, p_71, f_71, c_71, a_73, p_73, f_73, c_73, c_1, i_1, w_1, z0_1, z1_1, c_2, i_2, w_2, z0_2, z1_2, c_4, i_4, w_4, z0_4, z1_4, c_6, i_6, w_6, z0_6, z1_6, c_13, i_13, w_13, z0_13, z1_13, c_20, i_20, w_20, z0_20, z1_20, c_27, i_27, w_27, z0_27, z1_27, c_28, i_28, w_28, z0_28, z1_28, c_29, i_29, w_29, z0_29, z1_29, c_42, i_42, w_42, z0_42, z1_42, c_43, i_43, w_43, z0_43, z1_43, c_52, i_52, w_52, z0_52, z1_52, X1_size, X1_literal, X1_numberOfStep, X1_ofFormula, X1_inAll, X1_user, X9_codeOf, X1_firstUse, X1_endOfUses, X2_open, X2_at, X2_add, X2_drop, X2_clear, X4_fuelLeft, X4_isActive, X4_isMarked, X4_mark, X4_usedCount, X4_usedAt, X4_setActive, X4_forget, X4_truthOf, h4, if_pos, h12, h2.2.2, if_neg nle, rv_27_1 hb0, v1, cl_st (B_0 hb).1, at_all hb, atv_ok h2.1 c, if_neg na, if_neg nd, blame_ok, fX5_readByteProof_128, nI_1, bprC_end k]
        · conv => lhs; unfold fX10_readBytes_0
          simp only [bnd_x, gd_0, gd_1, gd_o0, gd_o1, ite_self, rf_75_1, rf_75_3, rf_75_12, rf_75_13, rf_75_14, rf_75_15, rf_75_16, rf_75_17, rf_75_18, rf_75_22, rf_75_23, rf_75_24, rf_75_25, rf_75_31, rf_75_32, rf_75_41, rf_75_42, rf_75_43, rf_75_44, rf_75_45, rf_75_46, rf_75_47, rf_75_48, rf_75_53, rf_75_54, rf_75_55, rf_75_57, c_75, i_75, w_75, z0_75, z1_75, h6, if_pos, h13, h3.2.1, if_neg nle, qa_77 (show pos < 6000 by omega), h3.2.2 pos c, if_neg na, if_neg nd, wrong_ok, fX10_readBytes_71, if_neg (w8 1 (by decide) (nI pos)), fX10_readBytes_126, bprM_end (w8 1 (by decide) (nI pos))]
        · unfold wg
          rw [if_pos h6]
          exact RCl_fr h1 (fun q q1 q2 => by unfold ktw; rw [up_ne (by omega), up_ne (by omega)]) (by rw [up_at, vup_n (by decide), up_at, vup_n (by decide)]) (by rw [up_at, vup_n (by decide), up_at, vup_n (by decide)]) (fun q hq => by rw [up_ne hq, up_ne hq])
    · have le1 : nI L ≤ nI pos := nI_le (by omega) (by omega)
      refine ⟨I, I', n, e, w, d, ?_, ?_, h1, ⟨by rw [h4, h6], fun _ => h5, fun q => absurd h4 q⟩, FCr_r I, FMr_r I'⟩
      · conv => lhs; unfold fX5_readByteProof_10
        rw [if_neg i301]
        simp only [bnd_x, gd_0, gd_1, gd_o0, gd_o1, ite_self, rf_1_0, rf_1_1, rf_1_5, rf_1_6, rf_1_7, rf_2_0, rf_4_0, rf_6_0, rf_6_1, rf_6_2, rf_7_0, rf_9_0, rf_11_0, rf_13_0, rf_13_1, rf_13_2, rf_14_0, rf_16_0, rf_18_0, rf_20_0, rf_20_1, rf_20_2, rf_21_0, rf_23_0, rf_25_0, rf_27_0, rf_29_0, rf_29_1, rf_29_2, rf_29_3, rf_29_4, rf_29_5, rf_30_0, rf_32_0, rf_34_0, rf_36_0, rf_38_0, rf_40_0, rf_42_0, rf_42_1, rf_42_2, rf_42_3, rf_43_0, rf_43_1, rf_43_2, rf_44_0, rf_46_0, rf_48_0, rf_50_0, rf_52_0, rf_52_1, rf_52_2, rf_52_3, rf_52_4, rf_52_5, rf_52_6, rf_52_7, rf_52_8, rf_52_9, rf_52_10, rf_52_11, rf_53_0, rf_55_0, rf_57_0, rf_59_0, rf_61_0, rf_63_0, rf_65_0, rf_67_0, rf_69_0, rf_71_0, rf_73_0, a_7, p_7, f_7, c_7, a_9, p_9, f_9, c_9, a_11, p_11, f_11, c_11, a_14, p_14, f_14, c_14, a_16, p_16, f_16, c_16, a_18, p_18, f_18, c_18, a_21, p_21, f_21, c_21, a_23, p_23, f_23, c_23, a_25, p_25, f_25, c_25, a_30, p_30, f_30, c_30, a_32, p_32, f_32, c_32, a_34, p_34, f_34, c_34, a_36, p_36, f_36, c_36, a_38, p_38, f_38, c_38, a_40, p_40, f_40, c_40, a_44, p_44, f_44, c_44, a_46, p_46, f_46, c_46, a_48, p_48, f_48, c_48, a_50, p_50, f_50, c_50, a_53, p_53, f_53, c_53, a_55, p_55, f_55, c_55, a_57, p_57, f_57, c_57, a_59, p_59, f_59, c_59, a_61, p_61, f_61, c_61, a_63, p_63, f_63, c_63, a_65, p_65, f_65, c_65, a_67, p_67, f_67, c_67, a_69, p_69, f_69, c_69, a_71, p_71, f_71, c_71, a_73, p_73, f_73, c_73, c_1, i_1, w_1, z0_1, z1_1, c_2, i_2, w_2, z0_2, z1_2, c_4, i_4, w_4, z0_4, z1_4, c_6, i_6, w_6, z0_6, z1_6, c_13, i_13, w_13, z0_13, z1_13, c_20, i_20, w_20, z0_20, z1_20, c_27, i_27, w_27, z0_27, z1_27, c_28, i_28, w_28, z0_28, z1_28, c_29, i_29, w_29, z0_29, z1_29, c_42, i_42, w_42, z0_42, z1_42, c_43, i_43, w_43, z0_43, z1_43, c_52, i_52, w_52, z0_52, z1_52, X1_size, X1_literal, X1_numberOfStep, X1_ofFormula, X1_inAll, X1_user, X9_codeOf, X1_firstUse, X1_endOfUses, X2_open, X2_at, X2_add, X2_drop, X2_clear, X4_fuelLeft, X4_isActive, X4_isMarked, X4_mark, X4_usedCount, X4_usedAt, X4_setActive, X4_forget, X4_truthOf, h4, if_pos, h12, h2.2.2, if_pos le1]
      · conv => lhs; unfold fX10_readBytes_0
        simp only [bnd_x, gd_0, gd_1, gd_o0, gd_o1, ite_self, rf_75_1, rf_75_3, rf_75_12, rf_75_13, rf_75_14, rf_75_15, rf_75_16, rf_75_17, rf_75_18, rf_75_22, rf_75_23, rf_75_24, rf_75_25, rf_75_31, rf_75_32, rf_75_41, rf_75_42, rf_75_43, rf_75_44, rf_75_45, rf_75_46, rf_75_47, rf_75_48, rf_75_53, rf_75_54, rf_75_55, rf_75_57, c_75, i_75, w_75, z0_75, z1_75, h6, if_pos, h13, h3.2.1, if_pos le1]
end
