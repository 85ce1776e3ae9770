/-! Assumptions of the class; the table in the reference; its words of a run. -/
/-- the other signs of clause k's literals from place j on, d of them, without sp -/
def ops (lt : Nat → Nat → Int32) (k : Nat) (sp : Int32) : Nat → Nat → List Int32
  | 0, _ => []
  | d + 1, j => if lt k j = sp then ops lt k sp d (j + 1) else (- lt k j) :: ops lt k sp d (j + 1)
theorem ops_len {lt : Nat → Nat → Int32} {k : Nat} {sp : Int32} : ∀ d j, (ops lt k sp d j).length ≤ d
  | 0, _ => Nat.le_refl _
  | d + 1, j => by
    unfold ops
    split
    · exact Nat.le_trans (ops_len d (j + 1)) (Nat.le_succ d)
    · exact Nat.succ_le_succ (ops_len d (j + 1))
theorem ops_L {lt : Nat → Nat → Int32} {k : Nat} {sp : Int32} {s : Nat} (h : ∀ j, j < s → isL (lt k j)) : ∀ d j, j + d ≤ s → ∀ l ∈ ops lt k sp d j, isL l
  | 0, _, _, l, hl => by simp [ops] at hl
  | d + 1, j, hj, l, hl => by
    unfold ops at hl
    split at hl
    · exact ops_L h d (j + 1) (by omega) l hl
    · rcases List.mem_cons.mp hl with q | q
      · rw [q]; exact L_neg (h j (by omega))
      · exact ops_L h d (j + 1) (by omega) l q
def AS (I : Nat → Nat → Int32) (A : List Int32) : Prop := I 52 13 = nI A.length ∧ A.length ≤ 80 ∧ ∀ i, i < A.length → I 66 i = A.getD i 0
section
variable {v : zV} {J : Nat → Nat → Int64} {N : Nat} {sz : Nat → Nat} {lt : Nat → Nat → Int32}
theorem assume_loop (hO : OKD N sz lt) {k : Nat} (k1 : 1 ≤ k) (k2 : k ≤ N) (sp : Int32) : ∀ (d j n : Nat) (I : Nat → Nat → Int32) (A : List Int32), j + d = sz k → d < n → DBC I N sz lt → AS I A → A.length + d ≤ 80 →
    ∃ I', fX4_assumeOpposites_12 n 52 (nI k) sp (nI (sz k)) (nI j) (st I v J) = some (st I' v J) ∧ AS I' (A ++ ops lt k sp d j) ∧ (∀ q, q ≠ 13 → I' 52 q = I 52 q) ∧ (∀ a, a ≠ 52 → a ≠ 66 → I' a = I a) := by
  have h40 := (hO.2 k k1 k2).1
  intro d
  induction d with
  | zero =>
    intro j n I A hj hn hD hA hl
    obtain ⟨n, rfl⟩ : ∃ m, n = m + 1 := ⟨n - 1, by omega⟩
    refine ⟨I, ?_, by simpa [ops] using hA, fun _ _ => rfl, fun _ _ _ => rfl⟩
    unfold fX4_assumeOpposites_12
    rw [if_pos (nI_le (by omega) (by omega))]
  | succ d ih =>
    intro j n I A hj hn hD hA hl
    obtain ⟨n, rfl⟩ : ∃ m, n = m + 1 := ⟨n - 1, by omega⟩
    have hlt := hD.2.2 k j k1 k2 (by omega)
    by_cases e : lt k j = sp
    · obtain ⟨I', f1, f2, f3, f4⟩ := ih (j + 1) n I A (by omega) (by omega) hD hA (by omega)
      refine ⟨I', ?_, ?_, f3, f4⟩
      · conv => lhs; unfold fX4_assumeOpposites_12
        rw [if_neg (nI_ge (by omega) (by omega))]
        simp only [bnd_x, gd_0, gd_1, gd_o0, gd_o1, ite_self, rf_1_0, rf_1_1, rf_1_5, rf_1_6, rf_1_7, rf_2_0, rf_4_0, rf_6_0, rf_6_1, rf_6_2, rf_7_0, rf_9_0, rf_11_0, rf_13_0, rf_13_1, rf_13_2, rf_14_0, rf_16_0, rf_18_0, rf_20_0, rf_20_1, rf_20_2, rf_21_0, rf_23_0, rf_25_0, rf_27_0, rf_29_0, rf_29_1, rf_29_2, rf_29_3, rf_29_4, rf_29_5, rf_30_0, rf_32_0, rf_34_0, rf_36_0, rf_38_0, rf_40_0, rf_42_0, rf_42_1, rf_42_2, rf_42_3, rf_43_0, rf_43_1, rf_43_2, rf_44_0, rf_46_0, rf_48_0, rf_50_0, rf_52_0, rf_52_1, rf_52_2, rf_52_3, rf_52_4, rf_52_5, rf_52_6, rf_52_7, rf_52_8, rf_52_9, rf_52_10, rf_52_11, rf_53_0, rf_55_0, rf_57_0, rf_59_0, rf_61_0, rf_63_0, rf_65_0, rf_67_0, rf_69_0, rf_71_0, rf_73_0, a_7, p_7, f_7, c_7, a_9, p_9, f_9, c_9, a_11, p_11, f_11, c_11, a_14, p_14, f_14, c_14, a_16, p_16, f_16, c_16, a_18, p_18, f_18, c_18, a_21, p_21, f_21, c_21, a_23, p_23, f_23, c_23, a_25, p_25, f_25, c_25, a_30, p_30, f_30, c_30, a_32, p_32, f_32, c_32, a_34, p_34, f_34, c_34, a_36, p_36, f_36, c_36, a_38, p_38, f_38, c_38, a_40, p_40, f_40, c_40, a_44, p_44, f_44, c_44, a_46, p_46, f_46, c_46, a_48, p_48, f_48, c_48, a_50, p_50, f_50, c_50, a_53, p_53, f_53, c_53, a_55, p_55, f_55, c_55, a_57, p_57, f_57, c_57, a_59, p_59, f_59, c_59, a_61, p_61, f_61, c_61, a_63, p_63, f_63, c_63, a_65, p_65, f_65, c_65, a_67, p_67, f_67, c_67, a_69, p_69, f_69, c_69, a_71, p_71, f_71, c_71, a_73, p_73, f_73, c_73, c_1, i_1, w_1, z0_1, z1_1, c_2, i_2, w_2, z0_2, z1_2, c_4, i_4, w_4, z0_4, z1_4, c_6, i_6, w_6, z0_6, z1_6, c_13, i_13, w_13, z0_13, z1_13, c_20, i_20, w_20, z0_20, z1_20, c_27, i_27, w_27, z0_27, z1_27, c_28, i_28, w_28, z0_28, z1_28, c_29, i_29, w_29, z0_29, z1_29, c_42, i_42, w_42, z0_42, z1_42, c_43, i_43, w_43, z0_43, z1_43, c_52, i_52, w_52, z0_52, z1_52, X1_size, X1_literal, X1_numberOfStep, X1_ofFormula, X1_inAll, X1_user, X9_codeOf, X1_firstUse, X1_endOfUses, X2_open, X2_at, X2_add, X2_drop, X2_clear, X4_fuelLeft, X4_isActive, X4_isMarked, X4_mark, X4_usedCount, X4_usedAt, X4_setActive, X4_forget, X4_truthOf, fX4_assumeOpposites_60]
        rw [hlt, if_pos e, nI_1, f1]
      · unfold ops; rw [if_pos e]; exact f2
    · obtain ⟨a1, a2, a3⟩ := hA
      have hI1 : ∀ b, b ≠ 52 → b ≠ 66 → up (up I 66 A.length (-lt k j)) 52 13 (nI (A.length + 1)) b = I b := by
        intro b b1 b2
        rw [up_ne b1, up_ne b2]
      obtain ⟨I', f1, f2, f3, f4⟩ := ih (j + 1) n (up (up I 66 A.length (-lt k j)) 52 13 (nI (A.length + 1))) (A ++ [-lt k j]) (by omega) (by omega) (DBC_fr hD (hI1 29 (by decide) (by decide)) (hI1 31 (by decide) (by decide)) (hI1 33 (by decide) (by decide))) (by
        refine ⟨by rw [up_self]; simp, by simp; omega, ?_⟩
        intro i hi
        rw [up_ne (by decide), up_at]
        simp only [List.length_append, List.length_cons, List.length_nil] at hi
        by_cases q : i = A.length
        · subst q; rw [vup_s]; simp
        · rw [vup_n q, a3 i (by omega)]
          simp only [List.getD_eq_getElem?_getD]
          rw [List.getElem?_append_left (by omega)]) (by simp; omega)
      refine ⟨I', ?_, ?_, ?_, ?_⟩
      · conv => lhs; unfold fX4_assumeOpposites_12
        rw [if_neg (nI_ge (by omega) (by omega))]
        simp only [bnd_x, gd_0, gd_1, gd_o0, gd_o1, ite_self, rf_1_0, rf_1_1, rf_1_5, rf_1_6, rf_1_7, rf_2_0, rf_4_0, rf_6_0, rf_6_1, rf_6_2, rf_7_0, rf_9_0, rf_11_0, rf_13_0, rf_13_1, rf_13_2, rf_14_0, rf_16_0, rf_18_0, rf_20_0, rf_20_1, rf_20_2, rf_21_0, rf_23_0, rf_25_0, rf_27_0, rf_29_0, rf_29_1, rf_29_2, rf_29_3, rf_29_4, rf_29_5, rf_30_0, rf_32_0, rf_34_0, rf_36_0, rf_38_0, rf_40_0, rf_42_0, rf_42_1, rf_42_2, rf_42_3, rf_43_0, rf_43_1, rf_43_2, rf_44_0, rf_46_0, rf_48_0, rf_50_0, rf_52_0, rf_52_1, rf_52_2, rf_52_3, rf_52_4, rf_52_5, rf_52_6, rf_52_7, rf_52_8, rf_52_9, rf_52_10, rf_52_11, rf_53_0, rf_55_0, rf_57_0, rf_59_0, rf_61_0, rf_63_0, rf_65_0, rf_67_0, rf_69_0, rf_71_0, rf_73_0, a_7, p_7, f_7, c_7, a_9, p_9, f_9, c_9, a_11, p_11, f_11, c_11, a_14, p_14, f_14, c_14, a_16, p_16, f_16, c_16, a_18, p_18, f_18, c_18, a_21, p_21, f_21, c_21, a_23, p_23, f_23, c_23, a_25, p_25, f_25, c_25, a_30, p_30, f_30, c_30, a_32, p_32, f_32, c_32, a_34, p_34, f_34, c_34, a_36, p_36, f_36, c_36, a_38, p_38, f_38, c_38, a_40, p_40, f_40, c_40, a_44, p_44, f_44, c_44, a_46, p_46, f_46, c_46, a_48, p_48, f_48, c_48, a_50, p_50, f_50, c_50, a_53, p_53, f_53, c_53, a_55, p_55, f_55, c_55, a_57, p_57, f_57, c_57, a_59, p_59, f_59, c_59, a_61, p_61, f_61, c_61, a_63, p_63, f_63, c_63, a_65, p_65, f_65, c_65, a_67, p_67, f_67, c_67, a_69, p_69, f_69, c_69, a_71, p_71, f_71, c_71, a_73, p_73, f_73, c_73, c_1, i_1, w_1, z0_1, z1_1, c_2, i_2, w_2, z0_2, z1_2, c_4, i_4, w_4, z0_4, z1_4, c_6, i_6, w_6, z0_6, z1_6, c_13, i_13, w_13, z0_13, z1_13, c_20, i_20, w_20, z0_20, z1_20, c_27, i_27, w_27, z0_27, z1_27, c_28, i_28, w_28, z0_28, z1_28, c_29, i_29, w_29, z0_29, z1_29, c_42, i_42, w_42, z0_42, z1_42, c_43, i_43, w_43, z0_43, z1_43, c_52, i_52, w_52, z0_52, z1_52, X1_size, X1_literal, X1_numberOfStep, X1_ofFormula, X1_inAll, X1_user, X9_codeOf, X1_firstUse, X1_endOfUses, X2_open, X2_at, X2_add, X2_drop, X2_clear, X4_fuelLeft, X4_isActive, X4_isMarked, X4_mark, X4_usedCount, X4_usedAt, X4_setActive, X4_forget, X4_truthOf, fX4_assumeOpposites_60]
        rw [hlt, if_neg e, a1, wr_65 (by omega)]
        simp only [up_ne (show (52 : Nat) ≠ 66 by decide)]
        rw [a1, nI_1, nI_1, f1]
      · unfold ops; rw [if_neg e]
        simpa using f2
      · intro q hq
        rw [f3 q hq, up_at, vup_n hq, up_ne (by decide)]
      · intro a b1 b2
        rw [f4 a b1 b2, hI1 a b1 b2]
theorem assume_ok {I : Nat → Nat → Int32} (hO : OKD N sz lt) {k : Nat} (k1 : 1 ≤ k) (k2 : k ≤ N) (sp : Int32) (A : List Int32) (hD : DBC I N sz lt) (hA : AS I A) (hl : A.length ≤ 40) :
    ∃ I', fX4_assumeOpposites 52 (nI k) sp (st I v J) = some (st I' v J) ∧ AS I' (A ++ ops lt k sp (sz k) 0) ∧ (∀ q, q ≠ 13 → I' 52 q = I 52 q) ∧ (∀ a, a ≠ 52 → a ≠ 66 → I' a = I a) := by
  have h40 := (hO.2 k k1 k2).1
  have hz := zfu_big
  have q := assume_loop (v := v) (J := J) hO k1 k2 sp (sz k) 0 zfu I A (by omega) (by omega) hD hA (by omega)
  rw [nI_0] at q
  simp only [fX4_assumeOpposites, bnd_x, gd_0, gd_1, gd_o0, gd_o1, ite_self, rf_1_0, rf_1_1, rf_1_5, rf_1_6, rf_1_7, rf_2_0, rf_4_0, rf_6_0, rf_6_1, rf_6_2, rf_7_0, rf_9_0, rf_11_0, rf_13_0, rf_13_1, rf_13_2, rf_14_0, rf_16_0, rf_18_0, rf_20_0, rf_20_1, rf_20_2, rf_21_0, rf_23_0, rf_25_0, rf_27_0, rf_29_0, rf_29_1, rf_29_2, rf_29_3, rf_29_4, rf_29_5, rf_30_0, rf_32_0, rf_34_0, rf_36_0, rf_38_0, rf_40_0, rf_42_0, rf_42_1, rf_42_2, rf_42_3, rf_43_0, rf_43_1, rf_43_2, rf_44_0, rf_46_0, rf_48_0, rf_50_0, rf_52_0, rf_52_1, rf_52_2, rf_52_3, rf_52_4, rf_52_5, rf_52_6, rf_52_7, rf_52_8, rf_52_9, rf_52_10, rf_52_11, rf_53_0, rf_55_0, rf_57_0, rf_59_0, rf_61_0, rf_63_0, rf_65_0, rf_67_0, rf_69_0, rf_71_0, rf_73_0, a_7, p_7, f_7, c_7, a_9, p_9, f_9, c_9, a_11, p_11, f_11, c_11, a_14, p_14, f_14, c_14, a_16, p_16, f_16, c_16, a_18, p_18, f_18, c_18, a_21, p_21, f_21, c_21, a_23, p_23, f_23, c_23, a_25, p_25, f_25, c_25, a_30, p_30, f_30, c_30, a_32, p_32, f_32, c_32, a_34, p_34, f_34, c_34, a_36, p_36, f_36, c_36, a_38, p_38, f_38, c_38, a_40, p_40, f_40, c_40, a_44, p_44, f_44, c_44, a_46, p_46, f_46, c_46, a_48, p_48, f_48, c_48, a_50, p_50, f_50, c_50, a_53, p_53, f_53, c_53, a_55, p_55, f_55, c_55, a_57, p_57, f_57, c_57, a_59, p_59, f_59, c_59, a_61, p_61, f_61, c_61, a_63, p_63, f_63, c_63, a_65, p_65, f_65, c_65, a_67, p_67, f_67, c_67, a_69, p_69, f_69, c_69, a_71, p_71, f_71, c_71, a_73, p_73, f_73, c_73, c_1, i_1, w_1, z0_1, z1_1, c_2, i_2, w_2, z0_2, z1_2, c_4, i_4, w_4, z0_4, z1_4, c_6, i_6, w_6, z0_6, z1_6, c_13, i_13, w_13, z0_13, z1_13, c_20, i_20, w_20, z0_20, z1_20, c_27, i_27, w_27, z0_27, z1_27, c_28, i_28, w_28, z0_28, z1_28, c_29, i_29, w_29, z0_29, z1_29, c_42, i_42, w_42, z0_42, z1_42, c_43, i_43, w_43, z0_43, z1_43, c_52, i_52, w_52, z0_52, z1_52, X1_size, X1_literal, X1_numberOfStep, X1_ofFormula, X1_inAll, X1_user, X9_codeOf, X1_firstUse, X1_endOfUses, X2_open, X2_at, X2_add, X2_drop, X2_clear, X4_fuelLeft, X4_isActive, X4_isMarked, X4_mark, X4_usedCount, X4_usedAt, X4_setActive, X4_forget, X4_truthOf]
  rw [hD.2.1 k k1 k2]
  exact q
/-! the reference -/
def DBR (I : Nat → Nat → Int32) (N : Nat) (sz : Nat → Nat) (lt : Nat → Nat → Int32) : Prop :=
  I 75 33 = nI N ∧ ∃ nc, I 75 19 = nI nc ∧ nc ≤ 300 ∧ ∀ k, 1 ≤ k → k ≤ N → (k ≤ nc → I 79 k = nI (sz k) ∧ ∃ a, I 78 k = nI a ∧ a + sz k ≤ 2000 ∧ ∀ j, j < sz k → I 80 (a + j) = lt k j) ∧ (nc < k → ∃ i, I 89 k = nI i ∧ i ≤ 300 ∧ I 82 i = nI (sz k) ∧ ∃ a, I 81 i = nI a ∧ a + sz k ≤ 2000 ∧ ∀ j, j < sz k → I 83 (a + j) = lt k j)
theorem DBR_fr {I I' : Nat → Nat → Int32} (h : DBR I N sz lt) (h1 : I' 75 33 = I 75 33) (h2 : I' 75 19 = I 75 19) (a78 : I' 78 = I 78) (a79 : I' 79 = I 79) (a80 : I' 80 = I 80) (a81 : I' 81 = I 81) (a82 : I' 82 = I 82) (a83 : I' 83 = I 83) (a89 : I' 89 = I 89) : DBR I' N sz lt := by
  unfold DBR
  rw [h1, h2, a78, a79, a80, a81, a82, a83, a89]
  exact h
theorem long_ok {I : Nat → Nat → Int32} (hN : N ≤ 600) (h : DBR I N sz lt) {k : Nat} (k1 : 1 ≤ k) (k2 : k ≤ N) : fX10_longOf 75 (nI k) (st I v J) = some (nI (sz k), st I v J) := by
  obtain ⟨-, nc, e, hnc, H⟩ := h
  obtain ⟨H1, H2⟩ := H k k1 k2
  simp only [fX10_longOf, bnd_x, gd_0, gd_1, gd_o0, gd_o1, ite_self, rf_75_1, rf_75_3, rf_75_12, rf_75_13, rf_75_14, rf_75_15, rf_75_16, rf_75_17, rf_75_18, rf_75_22, rf_75_23, rf_75_24, rf_75_25, rf_75_31, rf_75_32, rf_75_41, rf_75_42, rf_75_43, rf_75_44, rf_75_45, rf_75_46, rf_75_47, rf_75_48, rf_75_53, rf_75_54, rf_75_55, rf_75_57, c_75, i_75, w_75, z0_75, z1_75]
  rw [e]
  by_cases q : k ≤ nc
  · rw [if_neg (nI_nlt q (by omega)), qa_79 (by omega), (H1 q).1, bnd_x]
  · obtain ⟨i, i1, i2, i3, -⟩ := H2 (by omega)
    rw [if_pos (nI_lt (by omega) (by omega)), qa_89 (by omega), bnd_x, i1, qa_82 (by omega), bnd_x, i3]
theorem lit_ok {I : Nat → Nat → Int32} (hN : N ≤ 600) (h : DBR I N sz lt) {k j : Nat} (k1 : 1 ≤ k) (k2 : k ≤ N) (hj : j < sz k) : fX10_literalOf 75 (nI k) (nI j) (st I v J) = some (lt k j, st I v J) := by
  obtain ⟨-, nc, e, hnc, H⟩ := h
  obtain ⟨H1, H2⟩ := H k k1 k2
  simp only [fX10_literalOf, bnd_x, gd_0, gd_1, gd_o0, gd_o1, ite_self, rf_75_1, rf_75_3, rf_75_12, rf_75_13, rf_75_14, rf_75_15, rf_75_16, rf_75_17, rf_75_18, rf_75_22, rf_75_23, rf_75_24, rf_75_25, rf_75_31, rf_75_32, rf_75_41, rf_75_42, rf_75_43, rf_75_44, rf_75_45, rf_75_46, rf_75_47, rf_75_48, rf_75_53, rf_75_54, rf_75_55, rf_75_57, c_75, i_75, w_75, z0_75, z1_75]
  rw [e]
  by_cases q : k ≤ nc
  · obtain ⟨-, a, a1, a2, a3⟩ := H1 q
    rw [if_neg (nI_nlt q (by omega)), qa_78 (by omega), bnd_x, a1, nI_add, qa_80 (by omega), bnd_x, a3 j hj]
  · obtain ⟨i, i1, i2, i3, a, a1, a2, a3⟩ := H2 (by omega)
    rw [if_pos (nI_lt (by omega) (by omega)), qa_89 (by omega), bnd_x, i1, qa_81 (by omega), bnd_x, a1, nI_add, qa_83 (by omega), bnd_x, a3 j hj]
theorem value_ok {I : Nat → Nat → Int32} {l : Int32} (h : isL l) : fX10_valueOf 75 l (st I v J) = some (tv (I 96) l, st I v J) := by
  have h2 := L_av h
  have h3 := L_abs h
  simp only [fX10_valueOf, bnd_x, gd_0, gd_1, gd_o0, gd_o1, ite_self, rf_75_1, rf_75_3, rf_75_12, rf_75_13, rf_75_14, rf_75_15, rf_75_16, rf_75_17, rf_75_18, rf_75_22, rf_75_23, rf_75_24, rf_75_25, rf_75_31, rf_75_32, rf_75_41, rf_75_42, rf_75_43, rf_75_44, rf_75_45, rf_75_46, rf_75_47, rf_75_48, rf_75_53, rf_75_54, rf_75_55, rf_75_57, c_75, i_75, w_75, z0_75, z1_75, tv]
  by_cases q : l ≤ 0
  · rw [if_pos q] at h3 ⊢
    rw [h3, qa_96 (by omega), bnd_x, if_pos q]
  · rw [if_neg q] at h3 ⊢
    conv => lhs; rw [h3]
    rw [qa_96 (by omega), bnd_x, if_neg q]
/-- a literal becomes true -/
def mb (I : Nat → Nat → Int32) (n f : Nat) (l r : Int32) : Nat → Nat → Int32 := up (up (up (up (up I 75 38 (nI f)) 96 (av l) (sg l)) 97 n l) 98 n r) 75 49 (nI (n + 1))
theorem becomes_ok {I : Nat → Nat → Int32} {l r : Int32} {n f : Nat} (h : isL l) (hf : I 75 38 = nI (f + 1)) (hf2 : f < 2 ^ 30) (hn : I 75 49 = nI n) (hn2 : n < 151) : fX10_becomes 75 l r (st I v J) = some (st (mb I n f l r) v J) := by
  have h2 := L_av h
  have h3 := L_abs h
  have k14 : ∀ (I : Nat → Nat → Int32) (x : Nat) (y : Int32) , up I 96 x y 75 = I 75 := fun I x y => up_ne (by decide)
  have k15 : ∀ (I : Nat → Nat → Int32) (x : Nat) (y : Int32) , up I 97 x y 75 = I 75 := fun I x y => up_ne (by decide)
  have k16 : ∀ (I : Nat → Nat → Int32) (x : Nat) (y : Int32) , up I 98 x y 75 = I 75 := fun I x y => up_ne (by decide)
  have k17 : ∀ (I : Nat → Nat → Int32) (y : Int32) , up I 75 38 y 75 49 = I 75 49 := fun I y => by simp [up]
  have core : ∀ y, fX10_becomes_46 75 l r y (nI (av l)) 96 (st (up I 75 38 (nI f)) v J) = some (st (up (up (up (up (up I 75 38 (nI f)) 96 (av l) y) 97 n l) 98 n r) 75 49 (nI (n + 1))) v J) := by
    intro y
    simp only [fX10_becomes_46, bnd_x, gd_0, gd_1, gd_o0, gd_o1, ite_self, rf_75_1, rf_75_3, rf_75_12, rf_75_13, rf_75_14, rf_75_15, rf_75_16, rf_75_17, rf_75_18, rf_75_22, rf_75_23, rf_75_24, rf_75_25, rf_75_31, rf_75_32, rf_75_41, rf_75_42, rf_75_43, rf_75_44, rf_75_45, rf_75_46, rf_75_47, rf_75_48, rf_75_53, rf_75_54, rf_75_55, rf_75_57, c_75, i_75, w_75, z0_75, z1_75, ua_96 (show av l < 151 by omega), k14, k15, k16, k17, hn, ua_97 hn2, ua_98 hn2, nI_1]
  simp only [fX10_becomes, fX10_becomes_37, bnd_x, gd_0, gd_1, gd_o0, gd_o1, ite_self, rf_75_1, rf_75_3, rf_75_12, rf_75_13, rf_75_14, rf_75_15, rf_75_16, rf_75_17, rf_75_18, rf_75_22, rf_75_23, rf_75_24, rf_75_25, rf_75_31, rf_75_32, rf_75_41, rf_75_42, rf_75_43, rf_75_44, rf_75_45, rf_75_46, rf_75_47, rf_75_48, rf_75_53, rf_75_54, rf_75_55, rf_75_57, c_75, i_75, w_75, z0_75, z1_75]
  rw [hf, if_neg (nI_ne0 (by omega) (by omega)), nI_pred]
  unfold mb sg
  by_cases q : l ≤ 0
  · rw [if_pos q] at h3
    simp only [if_pos q]
    rw [h3, core]
  · rw [if_neg q] at h3
    simp only [if_neg q]
    conv => lhs; arg 5; rw [h3]
    rw [core]
theorem becomes_out {I : Nat → Nat → Int32} {l r : Int32} (hf : I 75 38 = nI 0) : fX10_becomes 75 l r (st I v J) = some (st (up I 75 52 1) v J) := by
  simp only [fX10_becomes, bnd_x, gd_0, gd_1, gd_o0, gd_o1, ite_self, rf_75_1, rf_75_3, rf_75_12, rf_75_13, rf_75_14, rf_75_15, rf_75_16, rf_75_17, rf_75_18, rf_75_22, rf_75_23, rf_75_24, rf_75_25, rf_75_31, rf_75_32, rf_75_41, rf_75_42, rf_75_43, rf_75_44, rf_75_45, rf_75_46, rf_75_47, rf_75_48, rf_75_53, rf_75_54, rf_75_55, rf_75_57, c_75, i_75, w_75, z0_75, z1_75]
  rw [hf, nI_0, if_pos rfl]
end
