/-! The users of each literal. -/
section
def cnt (W : Nat → Int32) (p c : Nat) : Nat := cn (fun q => cd (W q) == c) p
def stt (W : Nat → Int32) (F : Nat) : Nat → Nat
  | 0 => 0
  | c + 1 => stt W F c + cnt W F c
theorem cnt_s {W : Nat → Int32} {p c : Nat} : cnt W (p + 1) c = cnt W p c + if cd (W p) = c then 1 else 0 := by
  unfold cnt
  show cn _ (p + 1) = _
  rw [cn]
  by_cases h : cd (W p) = c
  · rw [if_pos h, if_pos (by simpa using h)]
  · rw [if_neg h, if_neg (by simpa using h)]
theorem cnt_mono {W : Nat → Int32} {c : Nat} : ∀ d p, cnt W p c ≤ cnt W (p + d) c := by
  intro d
  induction d with
  | zero => intro p; exact Nat.le_refl _
  | succ d ih => intro p; rw [show p + (d + 1) = (p + d) + 1 by omega, cnt_s]; have := ih p; omega
theorem cnt_gt {W : Nat → Int32} {c a x b : Nat} (h1 : a ≤ x) (h2 : x < b) (h : cd (W x) = c) : cnt W a c + 1 ≤ cnt W b c := by
  have m1 := cnt_mono (W := W) (c := c) (x - a) a
  have m2 := cnt_mono (W := W) (c := c) (b - (x + 1)) (x + 1)
  rw [show a + (x - a) = x by omega] at m1
  rw [show x + 1 + (b - (x + 1)) = b by omega, cnt_s, if_pos h] at m2
  omega
theorem stt_s {W : Nat → Int32} {F : Nat} : ∀ m, stt W (F + 1) m = stt W F m + if cd (W F) < m then 1 else 0 := by
  intro m
  induction m with
  | zero => rfl
  | succ m ih =>
    show stt W (F + 1) m + cnt W (F + 1) m = stt W F m + cnt W F m + _
    rw [ih, cnt_s]
    by_cases h : cd (W F) < m
    · rw [if_pos h, if_neg (by omega), if_pos (by omega)]; omega
    · by_cases h' : cd (W F) = m
      · rw [if_neg h, if_pos h', if_pos (by omega)]; omega
      · rw [if_neg h, if_neg h', if_neg (by omega)]; omega
theorem stt_le {W : Nat → Int32} (m : Nat) : ∀ F, stt W F m ≤ F := by
  intro F
  induction F with
  | zero =>
    induction m with
    | zero => exact Nat.le_refl _
    | succ m ih => exact ih
  | succ F ih => rw [stt_s]; split <;> omega
theorem stt_mono {W : Nat → Int32} {F : Nat} : ∀ d c, stt W F c ≤ stt W F (c + d) := by
  intro d
  induction d with
  | zero => intro c; exact Nat.le_refl _
  | succ d ih =>
    intro c
    show _ ≤ stt W F (c + d) + _
    have := ih c; omega
theorem stt_dis {W : Nat → Int32} {F c c' : Nat} (h : c < c') : stt W F c + cnt W F c ≤ stt W F c' := by
  have := stt_mono (W := W) (F := F) (c' - (c + 1)) (c + 1)
  rw [show c + 1 + (c' - (c + 1)) = c' by omega] at this
  exact this
variable {v : zV} {J : Nat → Nat → Int64}
theorem res_loop {W : Nat → Int32} {F : Nat} (hF : F ≤ 4000) (hW : ∀ p, p < F → isL (W p)) : ∀ (d p n : Nat) (I : Nat → Nat → Int32), p + d = F → d < n → I 29 7 = nI F → (∀ p, p < F → I 31 p = W p) → (∀ c, c < 302 → I 41 c = nI (cnt W p c)) →
    ∃ I1, fX1_reserveUses_10 n 29 (nI p) (st I v J) = fX1_reserveUses_58 zfu 29 0 0 (st I1 v J) ∧ (∀ c, c < 302 → I1 41 c = nI (cnt W F c)) ∧ (∀ a, a ≠ 41 → I1 a = I a) := by
  intro d
  induction d with
  | zero =>
    intro p n I hp hn h7 h31 h41
    obtain ⟨n, rfl⟩ : ∃ m, n = m + 1 := ⟨n - 1, by omega⟩
    have : p = F := by omega
    subst this
    refine ⟨I, ?_, h41, fun _ _ => rfl⟩
    conv => lhs; unfold fX1_reserveUses_10
    simp only [bnd_x, gd_0, gd_1, gd_o0, gd_o1, ite_self, rf_1_0, rf_1_1, rf_1_5, rf_1_6, rf_1_7, rf_2_0, rf_4_0, rf_6_0, rf_6_1, rf_6_2, rf_7_0, rf_9_0, rf_11_0, rf_13_0, rf_13_1, rf_13_2, rf_14_0, rf_16_0, rf_18_0, rf_20_0, rf_20_1, rf_20_2, rf_21_0, rf_23_0, rf_25_0, rf_27_0, rf_29_0, rf_29_1, rf_29_2, rf_29_3, rf_29_4, rf_29_5, rf_30_0, rf_32_0, rf_34_0, rf_36_0, rf_38_0, rf_40_0, rf_42_0, rf_42_1, rf_42_2, rf_42_3, rf_43_0, rf_43_1, rf_43_2, rf_44_0, rf_46_0, rf_48_0, rf_50_0, rf_52_0, rf_52_1, rf_52_2, rf_52_3, rf_52_4, rf_52_5, rf_52_6, rf_52_7, rf_52_8, rf_52_9, rf_52_10, rf_52_11, rf_53_0, rf_55_0, rf_57_0, rf_59_0, rf_61_0, rf_63_0, rf_65_0, rf_67_0, rf_69_0, rf_71_0, rf_73_0, a_7, p_7, f_7, c_7, a_9, p_9, f_9, c_9, a_11, p_11, f_11, c_11, a_14, p_14, f_14, c_14, a_16, p_16, f_16, c_16, a_18, p_18, f_18, c_18, a_21, p_21, f_21, c_21, a_23, p_23, f_23, c_23, a_25, p_25, f_25, c_25, a_30, p_30, f_30, c_30, a_32, p_32, f_32, c_32, a_34, p_34, f_34, c_34, a_36, p_36, f_36, c_36, a_38, p_38, f_38, c_38, a_40, p_40, f_40, c_40, a_44, p_44, f_44, c_44, a_46, p_46, f_46, c_46, a_48, p_48, f_48, c_48, a_50, p_50, f_50, c_50, a_53, p_53, f_53, c_53, a_55, p_55, f_55, c_55, a_57, p_57, f_57, c_57, a_59, p_59, f_59, c_59, a_61, p_61, f_61, c_61, a_63, p_63, f_63, c_63, a_65, p_65, f_65, c_65, a_67, p_67, f_67, c_67, a_69, p_69, f_69, c_69, a_71, p_71, f_71, c_71, a_73, p_73, f_73, c_73, c_1, i_1, w_1, z0_1, z1_1, c_2, i_2, w_2, z0_2, z1_2, c_4, i_4, w_4, z0_4, z1_4, c_6, i_6, w_6, z0_6, z1_6, c_13, i_13, w_13, z0_13, z1_13, c_20, i_20, w_20, z0_20, z1_20, c_27, i_27, w_27, z0_27, z1_27, c_28, i_28, w_28, z0_28, z1_28, c_29, i_29, w_29, z0_29, z1_29, c_42, i_42, w_42, z0_42, z1_42, c_43, i_43, w_43, z0_43, z1_43, c_52, i_52, w_52, z0_52, z1_52, X1_size, X1_literal, X1_numberOfStep, X1_ofFormula, X1_inAll, X1_user, X9_codeOf, X1_firstUse, X1_endOfUses, X2_open, X2_at, X2_add, X2_drop, X2_clear, X4_fuelLeft, X4_isActive, X4_isMarked, X4_mark, X4_usedCount, X4_usedAt, X4_setActive, X4_forget, X4_truthOf, h7, if_pos (nI_le (Nat.le_refl p) (show p < 2 ^ 31 by omega))]
  | succ d ih =>
    intro p n I hp hn h7 h31 h41
    obtain ⟨n, rfl⟩ : ∃ m, n = m + 1 := ⟨n - 1, by omega⟩
    have hl := hW p (by omega)
    obtain ⟨l1, l2, l3⟩ := L_lc hl
    obtain ⟨I1, f1, f2, f3⟩ := ih (p + 1) n (up I 41 (cd (W p)) (nI (cnt W p (cd (W p)) + 1))) (by omega) (by omega) (by rw [up_ne (by decide)]; exact h7) (by rw [up_ne (by decide)]; exact h31) (by
      intro c hc
      rw [up_at, cnt_s]
      by_cases e : c = cd (W p)
      · rw [e, vup_s, if_pos rfl]
      · rw [vup_n e, if_neg (fun q => e q.symm)]; exact h41 c hc)
    refine ⟨I1, ?_, f2, fun a ha => by rw [f3 a ha, up_ne ha]⟩
    conv => lhs; unfold fX1_reserveUses_10
    simp only [bnd_x, gd_0, gd_1, gd_o0, gd_o1, ite_self, rf_1_0, rf_1_1, rf_1_5, rf_1_6, rf_1_7, rf_2_0, rf_4_0, rf_6_0, rf_6_1, rf_6_2, rf_7_0, rf_9_0, rf_11_0, rf_13_0, rf_13_1, rf_13_2, rf_14_0, rf_16_0, rf_18_0, rf_20_0, rf_20_1, rf_20_2, rf_21_0, rf_23_0, rf_25_0, rf_27_0, rf_29_0, rf_29_1, rf_29_2, rf_29_3, rf_29_4, rf_29_5, rf_30_0, rf_32_0, rf_34_0, rf_36_0, rf_38_0, rf_40_0, rf_42_0, rf_42_1, rf_42_2, rf_42_3, rf_43_0, rf_43_1, rf_43_2, rf_44_0, rf_46_0, rf_48_0, rf_50_0, rf_52_0, rf_52_1, rf_52_2, rf_52_3, rf_52_4, rf_52_5, rf_52_6, rf_52_7, rf_52_8, rf_52_9, rf_52_10, rf_52_11, rf_53_0, rf_55_0, rf_57_0, rf_59_0, rf_61_0, rf_63_0, rf_65_0, rf_67_0, rf_69_0, rf_71_0, rf_73_0, a_7, p_7, f_7, c_7, a_9, p_9, f_9, c_9, a_11, p_11, f_11, c_11, a_14, p_14, f_14, c_14, a_16, p_16, f_16, c_16, a_18, p_18, f_18, c_18, a_21, p_21, f_21, c_21, a_23, p_23, f_23, c_23, a_25, p_25, f_25, c_25, a_30, p_30, f_30, c_30, a_32, p_32, f_32, c_32, a_34, p_34, f_34, c_34, a_36, p_36, f_36, c_36, a_38, p_38, f_38, c_38, a_40, p_40, f_40, c_40, a_44, p_44, f_44, c_44, a_46, p_46, f_46, c_46, a_48, p_48, f_48, c_48, a_50, p_50, f_50, c_50, a_53, p_53, f_53, c_53, a_55, p_55, f_55, c_55, a_57, p_57, f_57, c_57, a_59, p_59, f_59, c_59, a_61, p_61, f_61, c_61, a_63, p_63, f_63, c_63, a_65, p_65, f_65, c_65, a_67, p_67, f_67, c_67, a_69, p_69, f_69, c_69, a_71, p_71, f_71, c_71, a_73, p_73, f_73, c_73, c_1, i_1, w_1, z0_1, z1_1, c_2, i_2, w_2, z0_2, z1_2, c_4, i_4, w_4, z0_4, z1_4, c_6, i_6, w_6, z0_6, z1_6, c_13, i_13, w_13, z0_13, z1_13, c_20, i_20, w_20, z0_20, z1_20, c_27, i_27, w_27, z0_27, z1_27, c_28, i_28, w_28, z0_28, z1_28, c_29, i_29, w_29, z0_29, z1_29, c_42, i_42, w_42, z0_42, z1_42, c_43, i_43, w_43, z0_43, z1_43, c_52, i_52, w_52, z0_52, z1_52, X1_size, X1_literal, X1_numberOfStep, X1_ofFormula, X1_inAll, X1_user, X9_codeOf, X1_firstUse, X1_endOfUses, X2_open, X2_at, X2_add, X2_drop, X2_clear, X4_fuelLeft, X4_isActive, X4_isMarked, X4_mark, X4_usedCount, X4_usedAt, X4_setActive, X4_forget, X4_truthOf, h7, if_neg (nI_ge (show p < F by omega) (show F < 2 ^ 31 by omega)), rd_30 (show p < 4000 by omega), h31 p (by omega), L_cd hl, rd_40 l2, h41 _ l2, wr_40 l2, nI_1]
    exact f1
theorem start_loop {W : Nat → Int32} {F : Nat} (hF : F ≤ 4000) : ∀ (d c n : Nat) (I : Nat → Nat → Int32), c + d = 302 → d < n → (∀ q, c ≤ q → q < 302 → I 41 q = nI (cnt W F q)) →
    ∃ I1, fX1_reserveUses_58 n 29 (nI (stt W F c)) (nI c) (st I v J) = some (st I1 v J) ∧ (∀ q, c ≤ q → q < 302 → I1 39 q = nI (stt W F q) ∧ I1 41 q = nI (stt W F q)) ∧ (∀ q, q < c → I1 39 q = I 39 q ∧ I1 41 q = I 41 q) ∧ (∀ a, a ≠ 39 → a ≠ 41 → I1 a = I a) := by
  intro d
  induction d with
  | zero =>
    intro c n I hc hn h
    obtain ⟨n, rfl⟩ : ∃ m, n = m + 1 := ⟨n - 1, by omega⟩
    refine ⟨I, ?_, fun q q1 q2 => by omega, fun _ _ => ⟨rfl, rfl⟩, fun _ _ _ => rfl⟩
    conv => lhs; unfold fX1_reserveUses_58
    rw [if_pos (show (301 : Int32) < nI c from nI_lt (a := 301) (b := c) (by omega) (by omega))]
  | succ d ih =>
    intro c n I hc hn h
    obtain ⟨n, rfl⟩ : ∃ m, n = m + 1 := ⟨n - 1, by omega⟩
    obtain ⟨I1, f1, f2, f3, f4⟩ := ih (c + 1) n (up (up I 39 c (nI (stt W F c))) 41 c (nI (stt W F c))) (by omega) (by omega) (by
      intro q q1 q2
      rw [up_at, vup_n (by omega), up_ne (by decide)]; exact h q (by omega) q2)
    refine ⟨I1, ?_, ?_, ?_, fun a a1 a2 => by rw [f4 a a1 a2, up_ne a2, up_ne a1]⟩
    · conv => lhs; unfold fX1_reserveUses_58
      rw [if_neg (show ¬ (301 : Int32) < nI c from nI_nlt (a := 301) (b := c) (by omega) (by decide))]
      simp only [bnd_x, gd_0, gd_1, gd_o0, gd_o1, ite_self, rf_1_0, rf_1_1, rf_1_5, rf_1_6, rf_1_7, rf_2_0, rf_4_0, rf_6_0, rf_6_1, rf_6_2, rf_7_0, rf_9_0, rf_11_0, rf_13_0, rf_13_1, rf_13_2, rf_14_0, rf_16_0, rf_18_0, rf_20_0, rf_20_1, rf_20_2, rf_21_0, rf_23_0, rf_25_0, rf_27_0, rf_29_0, rf_29_1, rf_29_2, rf_29_3, rf_29_4, rf_29_5, rf_30_0, rf_32_0, rf_34_0, rf_36_0, rf_38_0, rf_40_0, rf_42_0, rf_42_1, rf_42_2, rf_42_3, rf_43_0, rf_43_1, rf_43_2, rf_44_0, rf_46_0, rf_48_0, rf_50_0, rf_52_0, rf_52_1, rf_52_2, rf_52_3, rf_52_4, rf_52_5, rf_52_6, rf_52_7, rf_52_8, rf_52_9, rf_52_10, rf_52_11, rf_53_0, rf_55_0, rf_57_0, rf_59_0, rf_61_0, rf_63_0, rf_65_0, rf_67_0, rf_69_0, rf_71_0, rf_73_0, a_7, p_7, f_7, c_7, a_9, p_9, f_9, c_9, a_11, p_11, f_11, c_11, a_14, p_14, f_14, c_14, a_16, p_16, f_16, c_16, a_18, p_18, f_18, c_18, a_21, p_21, f_21, c_21, a_23, p_23, f_23, c_23, a_25, p_25, f_25, c_25, a_30, p_30, f_30, c_30, a_32, p_32, f_32, c_32, a_34, p_34, f_34, c_34, a_36, p_36, f_36, c_36, a_38, p_38, f_38, c_38, a_40, p_40, f_40, c_40, a_44, p_44, f_44, c_44, a_46, p_46, f_46, c_46, a_48, p_48, f_48, c_48, a_50, p_50, f_50, c_50, a_53, p_53, f_53, c_53, a_55, p_55, f_55, c_55, a_57, p_57, f_57, c_57, a_59, p_59, f_59, c_59, a_61, p_61, f_61, c_61, a_63, p_63, f_63, c_63, a_65, p_65, f_65, c_65, a_67, p_67, f_67, c_67, a_69, p_69, f_69, c_69, a_71, p_71, f_71, c_71, a_73, p_73, f_73, c_73, c_1, i_1, w_1, z0_1, z1_1, c_2, i_2, w_2, z0_2, z1_2, c_4, i_4, w_4, z0_4, z1_4, c_6, i_6, w_6, z0_6, z1_6, c_13, i_13, w_13, z0_13, z1_13, c_20, i_20, w_20, z0_20, z1_20, c_27, i_27, w_27, z0_27, z1_27, c_28, i_28, w_28, z0_28, z1_28, c_29, i_29, w_29, z0_29, z1_29, c_42, i_42, w_42, z0_42, z1_42, c_43, i_43, w_43, z0_43, z1_43, c_52, i_52, w_52, z0_52, z1_52, X1_size, X1_literal, X1_numberOfStep, X1_ofFormula, X1_inAll, X1_user, X9_codeOf, X1_firstUse, X1_endOfUses, X2_open, X2_at, X2_add, X2_drop, X2_clear, X4_fuelLeft, X4_isActive, X4_isMarked, X4_mark, X4_usedCount, X4_usedAt, X4_setActive, X4_forget, X4_truthOf, rd_40 (show c < 302 by omega), h c (Nat.le_refl _) (by omega), wr_38 (show c < 302 by omega), wr_40 (show c < 302 by omega), nI_add, nI_1]
      exact f1
    · intro q q1 q2
      by_cases e : q = c
      · subst e
        obtain ⟨g1, g2⟩ := f3 q (by omega)
        rw [g1, g2, up_ne (by decide), up_self, up_self]; exact ⟨rfl, rfl⟩
      · exact f2 q (by omega) q2
    · intro q hq
      obtain ⟨g1, g2⟩ := f3 q (by omega)
      rw [g1, g2, up_ne (show (39 : Nat) ≠ 41 by decide), up_at, vup_n (by omega), up_at, vup_n (by omega), up_ne (by decide)]
      exact ⟨rfl, rfl⟩
theorem reserve_ok {W : Nat → Int32} {F : Nat} (hF : F ≤ 4000) (hW : ∀ p, p < F → isL (W p)) {I : Nat → Nat → Int32} (h7 : I 29 7 = nI F) (h31 : ∀ p, p < F → I 31 p = W p) :
    ∃ I1, fX1_reserveUses 29 (st I v J) = some (st I1 v J) ∧ (∀ q, q < 302 → I1 39 q = nI (stt W F q) ∧ I1 41 q = nI (stt W F q)) ∧ (∀ a, a ≠ 39 → a ≠ 41 → I1 a = I a) := by
  have hz := zfu_big
  obtain ⟨I1, f1, f2, f3⟩ := res_loop (v := v) (J := J) hF hW F 0 zfu (fillN I 41 302 0) (by omega) (by omega) (by rw [fill_ne (by decide)]; exact h7) (by rw [fill_ne (by decide)]; exact h31) (fun c hc => by rw [fill_at hc]; rfl)
  obtain ⟨I2, g1, g2, g3, g4⟩ := start_loop (v := v) (J := J) (W := W) hF 302 0 zfu I1 (by omega) (by omega) (fun q _ q2 => f2 q q2)
  rw [nI_0] at f1
  refine ⟨I2, ?_, fun q hq => g2 q (by omega) hq, fun a a1 a2 => by rw [g4 a a1 a2, f3 a a2, fill_ne a2]⟩
  unfold fX1_reserveUses
  simp only [bnd_x, gd_0, gd_1, gd_o0, gd_o1, ite_self, rf_1_0, rf_1_1, rf_1_5, rf_1_6, rf_1_7, rf_2_0, rf_4_0, rf_6_0, rf_6_1, rf_6_2, rf_7_0, rf_9_0, rf_11_0, rf_13_0, rf_13_1, rf_13_2, rf_14_0, rf_16_0, rf_18_0, rf_20_0, rf_20_1, rf_20_2, rf_21_0, rf_23_0, rf_25_0, rf_27_0, rf_29_0, rf_29_1, rf_29_2, rf_29_3, rf_29_4, rf_29_5, rf_30_0, rf_32_0, rf_34_0, rf_36_0, rf_38_0, rf_40_0, rf_42_0, rf_42_1, rf_42_2, rf_42_3, rf_43_0, rf_43_1, rf_43_2, rf_44_0, rf_46_0, rf_48_0, rf_50_0, rf_52_0, rf_52_1, rf_52_2, rf_52_3, rf_52_4, rf_52_5, rf_52_6, rf_52_7, rf_52_8, rf_52_9, rf_52_10, rf_52_11, rf_53_0, rf_55_0, rf_57_0, rf_59_0, rf_61_0, rf_63_0, rf_65_0, rf_67_0, rf_69_0, rf_71_0, rf_73_0, a_7, p_7, f_7, c_7, a_9, p_9, f_9, c_9, a_11, p_11, f_11, c_11, a_14, p_14, f_14, c_14, a_16, p_16, f_16, c_16, a_18, p_18, f_18, c_18, a_21, p_21, f_21, c_21, a_23, p_23, f_23, c_23, a_25, p_25, f_25, c_25, a_30, p_30, f_30, c_30, a_32, p_32, f_32, c_32, a_34, p_34, f_34, c_34, a_36, p_36, f_36, c_36, a_38, p_38, f_38, c_38, a_40, p_40, f_40, c_40, a_44, p_44, f_44, c_44, a_46, p_46, f_46, c_46, a_48, p_48, f_48, c_48, a_50, p_50, f_50, c_50, a_53, p_53, f_53, c_53, a_55, p_55, f_55, c_55, a_57, p_57, f_57, c_57, a_59, p_59, f_59, c_59, a_61, p_61, f_61, c_61, a_63, p_63, f_63, c_63, a_65, p_65, f_65, c_65, a_67, p_67, f_67, c_67, a_69, p_69, f_69, c_69, a_71, p_71, f_71, c_71, a_73, p_73, f_73, c_73, c_1, i_1, w_1, z0_1, z1_1, c_2, i_2, w_2, z0_2, z1_2, c_4, i_4, w_4, z0_4, z1_4, c_6, i_6, w_6, z0_6, z1_6, c_13, i_13, w_13, z0_13, z1_13, c_20, i_20, w_20, z0_20, z1_20, c_27, i_27, w_27, z0_27, z1_27, c_28, i_28, w_28, z0_28, z1_28, c_29, i_29, w_29, z0_29, z1_29, c_42, i_42, w_42, z0_42, z1_42, c_43, i_43, w_43, z0_43, z1_43, c_52, i_52, w_52, z0_52, z1_52, X1_size, X1_literal, X1_numberOfStep, X1_ofFormula, X1_inAll, X1_user, X9_codeOf, X1_firstUse, X1_endOfUses, X2_open, X2_at, X2_add, X2_drop, X2_clear, X4_fuelLeft, X4_isActive, X4_isMarked, X4_mark, X4_usedCount, X4_usedAt, X4_setActive, X4_forget, X4_truthOf]
  rw [f1]
  exact g1
variable {N : Nat} {sz : Nat → Nat} {lt : Nat → Nat → Int32}
/-- the users among the first k - 1 clauses, and k if the literal is among its first j -/
def ulj (sz : Nat → Nat) (lt : Nat → Nat → Int32) (k j : Nat) (l : Int32) : List Nat := ul (k - 1) sz lt l ++ if (List.range j).any (fun i => lt k i == l) = true then [k] else []
theorem ul_succ {k : Nat} (k1 : 1 ≤ k) {l : Int32} : ul k sz lt l = ulj sz lt k (sz k) l := by
  unfold ulj ul
  obtain ⟨m, rfl⟩ : ∃ m, k = m + 1 := ⟨k - 1, by omega⟩
  rw [List.range'_concat, List.filter_append, Nat.add_sub_cancel, Nat.one_mul, Nat.add_comm 1 m]
  congr 1
  rw [List.filter_cons, List.filter_nil]
  rfl
theorem ulj_0 {k : Nat} {l : Int32} : ulj sz lt k 0 l = ul (k - 1) sz lt l := by
  unfold ulj; simp
theorem ulj_n {k j : Nat} {l : Int32} (h : lt k j ≠ l) : ulj sz lt k (j + 1) l = ulj sz lt k j l := by
  unfold ulj
  rw [List.range_succ, List.any_append]
  simp [h]
theorem ulj_y (hO : OKD N sz lt) {k j : Nat} (k1 : 1 ≤ k) (k2 : k ≤ N) (hj : j < sz k) : ulj sz lt k j (lt k j) = ul (k - 1) sz lt (lt k j) ∧ ulj sz lt k (j + 1) (lt k j) = ulj sz lt k j (lt k j) ++ [k] := by
  have e : ulj sz lt k j (lt k j) = ul (k - 1) sz lt (lt k j) := by
    unfold ulj
    rw [if_neg, List.append_nil]
    intro q
    rw [List.any_eq_true] at q
    obtain ⟨i, i1, i2⟩ := q
    exact (hO.2 k k1 k2).2.2 i j (List.mem_range.mp i1) hj (by simpa using i2)
  refine ⟨e, ?_⟩
  rw [e]
  unfold ulj
  rw [if_pos]
  rw [List.any_eq_true]
  exact ⟨j, List.mem_range.mpr (by omega), by simp⟩
theorem ulj_le {k j : Nat} (k1 : 1 ≤ k) (hj : j ≤ sz k) {l : Int32} : (ulj sz lt k j l).length ≤ (ul k sz lt l).length := by
  rw [ul_succ k1]
  unfold ulj
  rw [List.length_append, List.length_append]
  apply Nat.add_le_add_left
  split
  · rename_i q
    rw [if_pos]
    · exact Nat.le_refl _
    · rw [List.any_eq_true] at q ⊢
      obtain ⟨i, i1, i2⟩ := q
      exact ⟨i, List.mem_range.mpr (Nat.lt_of_lt_of_le (List.mem_range.mp i1) hj), i2⟩
  · exact Nat.zero_le _
/-- as many places as users -/
theorem ul_cnt {E : Nat → Nat} {W : Nat → Int32} (h : ∀ k, 1 ≤ k → k ≤ N → E k = E (k - 1) + sz k ∧ ∀ j, j < sz k → W (E (k - 1) + j) = lt k j) {l : Int32} : ∀ k, k ≤ N → (ul k sz lt l).length ≤ cnt W (E k) (cd l) := by
  intro k
  induction k with
  | zero => intro _; exact Nat.zero_le _
  | succ k ih =>
    intro hk
    obtain ⟨e1, e2⟩ := h (k + 1) (by omega) hk
    rw [Nat.add_sub_cancel] at e1 e2
    rw [ul_succ (by omega)]
    unfold ulj
    rw [List.length_append, Nat.add_sub_cancel]
    have h1 := ih (by omega)
    split
    · rename_i q
      rw [List.any_eq_true] at q
      obtain ⟨i, i1, i2⟩ := q
      have hi := List.mem_range.mp i1
      have : W (E k + i) = l := by rw [e2 i hi]; simpa using i2
      have g := cnt_gt (W := W) (c := cd l) (a := E k) (x := E k + i) (b := E (k + 1)) (by omega) (by omega) (by rw [this])
      simp only [List.length_cons, List.length_nil]
      omega
    · have := cnt_mono (W := W) (c := cd l) (sz (k + 1)) (E k)
      rw [← e1] at this
      simp only [List.length_nil]
      omega
/-- the users up to literal j of clause k are listed -/
def FI (I : Nat → Nat → Int32) (sz : Nat → Nat) (lt : Nat → Nat → Int32) (W : Nat → Int32) (F k j : Nat) : Prop :=
  ∀ l, isL l → I 41 (cd l) = nI (stt W F (cd l) + (ulj sz lt k j l).length) ∧ ∀ i, i < (ulj sz lt k j l).length → I 37 (stt W F (cd l) + i) = nI ((ulj sz lt k j l).getD i 0)
theorem list_inner (hO : OKD N sz lt) {E : Nat → Nat} {W : Nat → Int32} {F : Nat} (hF : F ≤ 4000) (hE : ∀ k, 1 ≤ k → k ≤ N → E k = E (k - 1) + sz k ∧ ∀ j, j < sz k → W (E (k - 1) + j) = lt k j) (hEF : ∀ k, k ≤ N → E k ≤ F) {k : Nat} (k1 : 1 ≤ k) (k2 : k ≤ N) (K : Nat → Int32 → zS → Option zS) : ∀ (d j n : Nat) (I : Nat → Nat → Int32), j + d = sz k → d < n → DBC I N sz lt → FI I sz lt W F k j →
    ∃ I1, fX1_listUsers_22 K n 29 (nI k) (nI (sz k)) (nI j) (st I v J) = K 29 (nI (k + 1)) (st I1 v J) ∧ FI I1 sz lt W F k (sz k) ∧ (∀ a, a ≠ 37 → a ≠ 41 → I1 a = I a) := by
  have hN := hO.1
  obtain ⟨h40, hlit, hnd⟩ := hO.2 k k1 k2
  have hcb : ∀ (l : Int32) (j : Nat), j ≤ sz k → (ulj sz lt k j l).length ≤ cnt W F (cd l) := by
    intro l j hj
    have a1 := ulj_le (lt := lt) k1 hj (l := l)
    have a2 := ul_cnt hE (l := l) k k2
    have a3 := cnt_mono (W := W) (c := cd l) (F - E k) (E k)
    rw [show E k + (F - E k) = F by have := hEF k k2; omega] at a3
    omega
  intro d
  induction d with
  | zero =>
    intro j n I hj hn hD hI
    obtain ⟨n, rfl⟩ : ∃ m, n = m + 1 := ⟨n - 1, by omega⟩
    have : j = sz k := by omega
    subst this
    refine ⟨I, ?_, hI, fun _ _ _ => rfl⟩
    conv => lhs; unfold fX1_listUsers_22
    rw [if_pos (nI_le (Nat.le_refl _) (show sz k < 2 ^ 31 by omega)), nI_1]
  | succ d ih =>
    intro j n I hj hn hD hI
    obtain ⟨n, rfl⟩ : ∃ m, n = m + 1 := ⟨n - 1, by omega⟩
    have hl := hlit j (by omega)
    obtain ⟨l1, l2, l3⟩ := L_lc hl
    obtain ⟨y1, y2⟩ := ulj_y hO k1 k2 (show j < sz k by omega)
    obtain ⟨i1, i2⟩ := hI (lt k j) hl
    have b1 := hcb (lt k j) (j + 1) (by omega)
    rw [y2, List.length_append] at b1
    simp only [List.length_cons, List.length_nil] at b1
    have b2 := stt_dis (W := W) (F := F) l2
    have b3 := stt_le (W := W) 302 F
    generalize hc : cd (lt k j) = c at *
    generalize hu : stt W F c + (ulj sz lt k j (lt k j)).length = u at *
    obtain ⟨I1, f1, f2, f3⟩ := ih (j + 1) n (up (up I 37 u (nI k)) 41 c (nI (u + 1))) (by omega) (by omega) (DBC_fr hD (by rw [up_ne (by decide), up_ne (by decide)]) (by rw [up_ne (by decide), up_ne (by decide)]) (by rw [up_ne (by decide), up_ne (by decide)])) (by
      intro l hl'
      rw [up_at, up_ne (show (37 : Nat) ≠ 41 by decide), up_at]
      by_cases e : lt k j = l
      · subst e
        rw [hc, vup_s, y2, List.length_append]
        refine ⟨by rw [← hu]; rfl, fun i hi => ?_⟩
        simp only [List.length_cons, List.length_nil] at hi
        by_cases e' : i = (ulj sz lt k j (lt k j)).length
        · rw [e', hu, vup_s]
          simp [List.getD_eq_getElem?_getD]
        · rw [vup_n (by omega)]
          have := i2 i (by omega)
          rw [this]
          simp only [List.getD_eq_getElem?_getD]
          rw [List.getElem?_append_left (by omega)]
      · have ne : cd l ≠ c := fun q => e (L_cdi hl hl' (by rw [hc]; exact q.symm))
        rw [vup_n ne, ulj_n e, up_ne (show (41 : Nat) ≠ 37 by decide)]
        obtain ⟨g1, g2⟩ := hI l hl'
        refine ⟨g1, fun i hi => ?_⟩
        rw [vup_n ?_]
        · exact g2 i hi
        · have b4 := hcb l j (by omega)
          rcases Nat.lt_or_gt_of_ne ne with q | q
          · have := stt_dis (W := W) (F := F) q; omega
          · have := stt_dis (W := W) (F := F) q; omega)
    refine ⟨I1, ?_, f2, fun a a1 a2 => by rw [f3 a a1 a2, up_ne a2, up_ne a1]⟩
    conv => lhs; unfold fX1_listUsers_22
    rw [if_neg (nI_ge (show j < sz k by omega) (show sz k < 2 ^ 31 by omega))]
    have hcd : codeOf (lt k j) = nI c := by rw [L_cd hl, hc]
    simp only [bnd_x, gd_0, gd_1, gd_o0, gd_o1, ite_self, rf_1_0, rf_1_1, rf_1_5, rf_1_6, rf_1_7, rf_2_0, rf_4_0, rf_6_0, rf_6_1, rf_6_2, rf_7_0, rf_9_0, rf_11_0, rf_13_0, rf_13_1, rf_13_2, rf_14_0, rf_16_0, rf_18_0, rf_20_0, rf_20_1, rf_20_2, rf_21_0, rf_23_0, rf_25_0, rf_27_0, rf_29_0, rf_29_1, rf_29_2, rf_29_3, rf_29_4, rf_29_5, rf_30_0, rf_32_0, rf_34_0, rf_36_0, rf_38_0, rf_40_0, rf_42_0, rf_42_1, rf_42_2, rf_42_3, rf_43_0, rf_43_1, rf_43_2, rf_44_0, rf_46_0, rf_48_0, rf_50_0, rf_52_0, rf_52_1, rf_52_2, rf_52_3, rf_52_4, rf_52_5, rf_52_6, rf_52_7, rf_52_8, rf_52_9, rf_52_10, rf_52_11, rf_53_0, rf_55_0, rf_57_0, rf_59_0, rf_61_0, rf_63_0, rf_65_0, rf_67_0, rf_69_0, rf_71_0, rf_73_0, a_7, p_7, f_7, c_7, a_9, p_9, f_9, c_9, a_11, p_11, f_11, c_11, a_14, p_14, f_14, c_14, a_16, p_16, f_16, c_16, a_18, p_18, f_18, c_18, a_21, p_21, f_21, c_21, a_23, p_23, f_23, c_23, a_25, p_25, f_25, c_25, a_30, p_30, f_30, c_30, a_32, p_32, f_32, c_32, a_34, p_34, f_34, c_34, a_36, p_36, f_36, c_36, a_38, p_38, f_38, c_38, a_40, p_40, f_40, c_40, a_44, p_44, f_44, c_44, a_46, p_46, f_46, c_46, a_48, p_48, f_48, c_48, a_50, p_50, f_50, c_50, a_53, p_53, f_53, c_53, a_55, p_55, f_55, c_55, a_57, p_57, f_57, c_57, a_59, p_59, f_59, c_59, a_61, p_61, f_61, c_61, a_63, p_63, f_63, c_63, a_65, p_65, f_65, c_65, a_67, p_67, f_67, c_67, a_69, p_69, f_69, c_69, a_71, p_71, f_71, c_71, a_73, p_73, f_73, c_73, c_1, i_1, w_1, z0_1, z1_1, c_2, i_2, w_2, z0_2, z1_2, c_4, i_4, w_4, z0_4, z1_4, c_6, i_6, w_6, z0_6, z1_6, c_13, i_13, w_13, z0_13, z1_13, c_20, i_20, w_20, z0_20, z1_20, c_27, i_27, w_27, z0_27, z1_27, c_28, i_28, w_28, z0_28, z1_28, c_29, i_29, w_29, z0_29, z1_29, c_42, i_42, w_42, z0_42, z1_42, c_43, i_43, w_43, z0_43, z1_43, c_52, i_52, w_52, z0_52, z1_52, X1_size, X1_literal, X1_numberOfStep, X1_ofFormula, X1_inAll, X1_user, X9_codeOf, X1_firstUse, X1_endOfUses, X2_open, X2_at, X2_add, X2_drop, X2_clear, X4_fuelLeft, X4_isActive, X4_isMarked, X4_mark, X4_usedCount, X4_usedAt, X4_setActive, X4_forget, X4_truthOf, hD.2.2 k j k1 k2 (by omega), hcd, rd_40 l2, i1, wr_36 (show u < 4000 by omega), up_ne (show (41 : Nat) ≠ 37 by decide), wr_40 l2, nI_1]
    exact f1
theorem list_outer (hO : OKD N sz lt) {E : Nat → Nat} {W : Nat → Int32} {F : Nat} (hF : F ≤ 4000) (hE : ∀ k, 1 ≤ k → k ≤ N → E k = E (k - 1) + sz k ∧ ∀ j, j < sz k → W (E (k - 1) + j) = lt k j) (hEF : ∀ k, k ≤ N → E k ≤ F) : ∀ (d k n : Nat) (I : Nat → Nat → Int32), 1 ≤ k → k + d = N + 1 → d < n → DBC I N sz lt → FI I sz lt W F k 0 →
    ∃ I1, fX1_listUsers_6 n 29 (nI k) (st I v J) = some (st I1 v J) ∧ FI I1 sz lt W F (N + 1) 0 ∧ (∀ a, a ≠ 37 → a ≠ 41 → I1 a = I a) := by
  have hN := hO.1
  have hz := zfu_big
  intro d
  induction d with
  | zero =>
    intro k n I k1 hk hn hD hI
    obtain ⟨n, rfl⟩ : ∃ m, n = m + 1 := ⟨n - 1, by omega⟩
    have : k = N + 1 := by omega
    subst this
    refine ⟨I, ?_, hI, fun _ _ _ => rfl⟩
    conv => lhs; unfold fX1_listUsers_6
    simp only [bnd_x, gd_0, gd_1, gd_o0, gd_o1, ite_self, rf_1_0, rf_1_1, rf_1_5, rf_1_6, rf_1_7, rf_2_0, rf_4_0, rf_6_0, rf_6_1, rf_6_2, rf_7_0, rf_9_0, rf_11_0, rf_13_0, rf_13_1, rf_13_2, rf_14_0, rf_16_0, rf_18_0, rf_20_0, rf_20_1, rf_20_2, rf_21_0, rf_23_0, rf_25_0, rf_27_0, rf_29_0, rf_29_1, rf_29_2, rf_29_3, rf_29_4, rf_29_5, rf_30_0, rf_32_0, rf_34_0, rf_36_0, rf_38_0, rf_40_0, rf_42_0, rf_42_1, rf_42_2, rf_42_3, rf_43_0, rf_43_1, rf_43_2, rf_44_0, rf_46_0, rf_48_0, rf_50_0, rf_52_0, rf_52_1, rf_52_2, rf_52_3, rf_52_4, rf_52_5, rf_52_6, rf_52_7, rf_52_8, rf_52_9, rf_52_10, rf_52_11, rf_53_0, rf_55_0, rf_57_0, rf_59_0, rf_61_0, rf_63_0, rf_65_0, rf_67_0, rf_69_0, rf_71_0, rf_73_0, a_7, p_7, f_7, c_7, a_9, p_9, f_9, c_9, a_11, p_11, f_11, c_11, a_14, p_14, f_14, c_14, a_16, p_16, f_16, c_16, a_18, p_18, f_18, c_18, a_21, p_21, f_21, c_21, a_23, p_23, f_23, c_23, a_25, p_25, f_25, c_25, a_30, p_30, f_30, c_30, a_32, p_32, f_32, c_32, a_34, p_34, f_34, c_34, a_36, p_36, f_36, c_36, a_38, p_38, f_38, c_38, a_40, p_40, f_40, c_40, a_44, p_44, f_44, c_44, a_46, p_46, f_46, c_46, a_48, p_48, f_48, c_48, a_50, p_50, f_50, c_50, a_53, p_53, f_53, c_53, a_55, p_55, f_55, c_55, a_57, p_57, f_57, c_57, a_59, p_59, f_59, c_59, a_61, p_61, f_61, c_61, a_63, p_63, f_63, c_63, a_65, p_65, f_65, c_65, a_67, p_67, f_67, c_67, a_69, p_69, f_69, c_69, a_71, p_71, f_71, c_71, a_73, p_73, f_73, c_73, c_1, i_1, w_1, z0_1, z1_1, c_2, i_2, w_2, z0_2, z1_2, c_4, i_4, w_4, z0_4, z1_4, c_6, i_6, w_6, z0_6, z1_6, c_13, i_13, w_13, z0_13, z1_13, c_20, i_20, w_20, z0_20, z1_20, c_27, i_27, w_27, z0_27, z1_27, c_28, i_28, w_28, z0_28, z1_28, c_29, i_29, w_29, z0_29, z1_29, c_42, i_42, w_42, z0_42, z1_42, c_43, i_43, w_43, z0_43, z1_43, c_52, i_52, w_52, z0_52, z1_52, X1_size, X1_literal, X1_numberOfStep, X1_ofFormula, X1_inAll, X1_user, X9_codeOf, X1_firstUse, X1_endOfUses, X2_open, X2_at, X2_add, X2_drop, X2_clear, X4_fuelLeft, X4_isActive, X4_isMarked, X4_mark, X4_usedCount, X4_usedAt, X4_setActive, X4_forget, X4_truthOf, hD.1, if_pos (nI_lt (show N < N + 1 by omega) (show N + 1 < 2 ^ 31 by omega))]
  | succ d ih =>
    intro k n I k1 hk hn hD hI
    obtain ⟨n, rfl⟩ : ∃ m, n = m + 1 := ⟨n - 1, by omega⟩
    have k2 : k ≤ N := by omega
    obtain ⟨h40, -, -⟩ := hO.2 k k1 k2
    obtain ⟨Ia, a1, a2, a3⟩ := list_inner (v := v) (J := J) hO hF hE hEF k1 k2 (fX1_listUsers_6 n) (sz k) 0 zfu I (by omega) (by omega) hD hI
    rw [nI_0] at a1
    have hD' : DBC Ia N sz lt := DBC_fr hD (a3 _ (by decide) (by decide)) (a3 _ (by decide) (by decide)) (a3 _ (by decide) (by decide))
    obtain ⟨I1, f1, f2, f3⟩ := ih (k + 1) n Ia (by omega) (by omega) (by omega) hD' (by
      intro l hl
      rw [ulj_0, Nat.add_sub_cancel, ul_succ k1]; exact a2 l hl)
    refine ⟨I1, ?_, f2, fun a b1 b2 => by rw [f3 a b1 b2, a3 a b1 b2]⟩
    conv => lhs; unfold fX1_listUsers_6
    simp only [bnd_x, gd_0, gd_1, gd_o0, gd_o1, ite_self, rf_1_0, rf_1_1, rf_1_5, rf_1_6, rf_1_7, rf_2_0, rf_4_0, rf_6_0, rf_6_1, rf_6_2, rf_7_0, rf_9_0, rf_11_0, rf_13_0, rf_13_1, rf_13_2, rf_14_0, rf_16_0, rf_18_0, rf_20_0, rf_20_1, rf_20_2, rf_21_0, rf_23_0, rf_25_0, rf_27_0, rf_29_0, rf_29_1, rf_29_2, rf_29_3, rf_29_4, rf_29_5, rf_30_0, rf_32_0, rf_34_0, rf_36_0, rf_38_0, rf_40_0, rf_42_0, rf_42_1, rf_42_2, rf_42_3, rf_43_0, rf_43_1, rf_43_2, rf_44_0, rf_46_0, rf_48_0, rf_50_0, rf_52_0, rf_52_1, rf_52_2, rf_52_3, rf_52_4, rf_52_5, rf_52_6, rf_52_7, rf_52_8, rf_52_9, rf_52_10, rf_52_11, rf_53_0, rf_55_0, rf_57_0, rf_59_0, rf_61_0, rf_63_0, rf_65_0, rf_67_0, rf_69_0, rf_71_0, rf_73_0, a_7, p_7, f_7, c_7, a_9, p_9, f_9, c_9, a_11, p_11, f_11, c_11, a_14, p_14, f_14, c_14, a_16, p_16, f_16, c_16, a_18, p_18, f_18, c_18, a_21, p_21, f_21, c_21, a_23, p_23, f_23, c_23, a_25, p_25, f_25, c_25, a_30, p_30, f_30, c_30, a_32, p_32, f_32, c_32, a_34, p_34, f_34, c_34, a_36, p_36, f_36, c_36, a_38, p_38, f_38, c_38, a_40, p_40, f_40, c_40, a_44, p_44, f_44, c_44, a_46, p_46, f_46, c_46, a_48, p_48, f_48, c_48, a_50, p_50, f_50, c_50, a_53, p_53, f_53, c_53, a_55, p_55, f_55, c_55, a_57, p_57, f_57, c_57, a_59, p_59, f_59, c_59, a_61, p_61, f_61, c_61, a_63, p_63, f_63, c_63, a_65, p_65, f_65, c_65, a_67, p_67, f_67, c_67, a_69, p_69, f_69, c_69, a_71, p_71, f_71, c_71, a_73, p_73, f_73, c_73, c_1, i_1, w_1, z0_1, z1_1, c_2, i_2, w_2, z0_2, z1_2, c_4, i_4, w_4, z0_4, z1_4, c_6, i_6, w_6, z0_6, z1_6, c_13, i_13, w_13, z0_13, z1_13, c_20, i_20, w_20, z0_20, z1_20, c_27, i_27, w_27, z0_27, z1_27, c_28, i_28, w_28, z0_28, z1_28, c_29, i_29, w_29, z0_29, z1_29, c_42, i_42, w_42, z0_42, z1_42, c_43, i_43, w_43, z0_43, z1_43, c_52, i_52, w_52, z0_52, z1_52, X1_size, X1_literal, X1_numberOfStep, X1_ofFormula, X1_inAll, X1_user, X9_codeOf, X1_firstUse, X1_endOfUses, X2_open, X2_at, X2_add, X2_drop, X2_clear, X4_fuelLeft, X4_isActive, X4_isMarked, X4_mark, X4_usedCount, X4_usedAt, X4_setActive, X4_forget, X4_truthOf, hD.1, if_neg (nI_nlt k2 (show N < 2 ^ 31 by omega)), hD.2.1 k k1 k2]
    rw [a1, f1]
theorem list_ok (hO : OKD N sz lt) {E : Nat → Nat} {W : Nat → Int32} {I : Nat → Nat → Int32} (hD : DBC I N sz lt) (hC : CL I N E W) (hF : E N ≤ 4000) (hE : ∀ k, 1 ≤ k → k ≤ N → E k = E (k - 1) + sz k ∧ ∀ j, j < sz k → W (E (k - 1) + j) = lt k j) (hEF : ∀ k, k ≤ N → E k ≤ E N) (hW : ∀ p, p < E N → isL (W p)) :
    ∃ I1, fX1_listUsers 29 (st I v J) = some (st I1 v J) ∧ USC I1 N sz lt ∧ (∀ a, a ≠ 37 → a ≠ 39 → a ≠ 41 → I1 a = I a) := by
  have hN := hO.1
  have hz := zfu_big
  obtain ⟨Ia, a1, a2, a3⟩ := reserve_ok (v := v) (J := J) hF hW hC.2.1 hC.2.2.2
  have hDa : DBC Ia N sz lt := DBC_fr hD (a3 _ (by decide) (by decide)) (a3 _ (by decide) (by decide)) (a3 _ (by decide) (by decide))
  obtain ⟨I1, f1, f2, f3⟩ := list_outer (v := v) (J := J) hO hF hE hEF N 1 zfu Ia (by omega) (by omega) (by omega) hDa (by
    intro l hl
    have : ulj sz lt 1 0 l = [] := by rw [ulj_0]; rfl
    rw [this]
    exact ⟨(a2 (cd l) (L_lc hl).2.1).2, fun i hi => by simp at hi⟩)
  rw [show nI 1 = (1 : Int32) from rfl] at f1
  refine ⟨I1, ?_, ?_, fun a b1 b2 b3 => by rw [f3 a b1 b3, a3 a b2 b3]⟩
  · unfold fX1_listUsers
    simp only [bnd_x, gd_0, gd_1, gd_o0, gd_o1, ite_self, rf_1_0, rf_1_1, rf_1_5, rf_1_6, rf_1_7, rf_2_0, rf_4_0, rf_6_0, rf_6_1, rf_6_2, rf_7_0, rf_9_0, rf_11_0, rf_13_0, rf_13_1, rf_13_2, rf_14_0, rf_16_0, rf_18_0, rf_20_0, rf_20_1, rf_20_2, rf_21_0, rf_23_0, rf_25_0, rf_27_0, rf_29_0, rf_29_1, rf_29_2, rf_29_3, rf_29_4, rf_29_5, rf_30_0, rf_32_0, rf_34_0, rf_36_0, rf_38_0, rf_40_0, rf_42_0, rf_42_1, rf_42_2, rf_42_3, rf_43_0, rf_43_1, rf_43_2, rf_44_0, rf_46_0, rf_48_0, rf_50_0, rf_52_0, rf_52_1, rf_52_2, rf_52_3, rf_52_4, rf_52_5, rf_52_6, rf_52_7, rf_52_8, rf_52_9, rf_52_10, rf_52_11, rf_53_0, rf_55_0, rf_57_0, rf_59_0, rf_61_0, rf_63_0, rf_65_0, rf_67_0, rf_69_0, rf_71_0, rf_73_0, a_7, p_7, f_7, c_7, a_9, p_9, f_9, c_9, a_11, p_11, f_11, c_11, a_14, p_14, f_14, c_14, a_16, p_16, f_16, c_16, a_18, p_18, f_18, c_18, a_21, p_21, f_21, c_21, a_23, p_23, f_23, c_23, a_25, p_25, f_25, c_25, a_30, p_30, f_30, c_30, a_32, p_32, f_32, c_32, a_34, p_34, f_34, c_34, a_36, p_36, f_36, c_36, a_38, p_38, f_38, c_38, a_40, p_40, f_40, c_40, a_44, p_44, f_44, c_44, a_46, p_46, f_46, c_46, a_48, p_48, f_48, c_48, a_50, p_50, f_50, c_50, a_53, p_53, f_53, c_53, a_55, p_55, f_55, c_55, a_57, p_57, f_57, c_57, a_59, p_59, f_59, c_59, a_61, p_61, f_61, c_61, a_63, p_63, f_63, c_63, a_65, p_65, f_65, c_65, a_67, p_67, f_67, c_67, a_69, p_69, f_69, c_69, a_71, p_71, f_71, c_71, a_73, p_73, f_73, c_73, c_1, i_1, w_1, z0_1, z1_1, c_2, i_2, w_2, z0_2, z1_2, c_4, i_4, w_4, z0_4, z1_4, c_6, i_6, w_6, z0_6, z1_6, c_13, i_13, w_13, z0_13, z1_13, c_20, i_20, w_20, z0_20, z1_20, c_27, i_27, w_27, z0_27, z1_27, c_28, i_28, w_28, z0_28, z1_28, c_29, i_29, w_29, z0_29, z1_29, c_42, i_42, w_42, z0_42, z1_42, c_43, i_43, w_43, z0_43, z1_43, c_52, i_52, w_52, z0_52, z1_52, X1_size, X1_literal, X1_numberOfStep, X1_ofFormula, X1_inAll, X1_user, X9_codeOf, X1_firstUse, X1_endOfUses, X2_open, X2_at, X2_add, X2_drop, X2_clear, X4_fuelLeft, X4_isActive, X4_isMarked, X4_mark, X4_usedCount, X4_usedAt, X4_setActive, X4_forget, X4_truthOf, a1]
    exact f1
  · intro l hl
    obtain ⟨l1, l2, l3⟩ := L_lc hl
    obtain ⟨g1, g2⟩ := f2 l hl
    rw [ulj_0, Nat.add_sub_cancel] at g1 g2
    have b1 := ul_cnt hE (l := l) N (Nat.le_refl _)
    have b2 := stt_dis (W := W) (F := E N) l2
    have b3 := stt_le (W := W) 302 (E N)
    refine ⟨stt W (E N) (cd l), ?_, ?_, by omega, g2⟩
    · rw [L_cd hl, rd_38 l2, f3 39 (by decide) (by decide)]; exact (a2 _ l2).1
    · rw [L_cd hl, rd_40 l2]; exact g1
end
