/-! Deletions: class and reference. -/
section
variable {N : Nat} {sz : Nat → Nat} {lt : Nat → Nat → Int32}
theorem zz_p {k : Nat} (h : 1 ≤ k) : nI k - 1 = nI (k - 1) := by
  obtain ⟨m, rfl⟩ : ∃ m, k = m + 1 := ⟨k - 1, by omega⟩
  exact nI_pred m
theorem zz_d (k : Nat) : nI (k + 1) + (-1) = nI k := by
  rw [← Int32.sub_eq_add_neg]; exact nI_pred k
/-- where the class's clauses lie -/
def DBE (I : Nat → Nat → Int32) (N : Nat) (sz : Nat → Nat) (lt : Nat → Nat → Int32) : Prop :=
  ∃ e : Nat → Nat, ∀ k, 1 ≤ k → k ≤ N → I 33 (k - 1) = nI (e (k - 1)) ∧ I 33 k = nI (e k) ∧ e k = e (k - 1) + sz k ∧ e k ≤ 4000 ∧ ∀ j, j < sz k → I 31 (e (k - 1) + j) = lt k j
theorem DBE_fr {I I1 : Nat → Nat → Int32} (h : DBE I N sz lt) (a : I1 33 = I 33) (b : I1 31 = I 31) : DBE I1 N sz lt := by
  unfold DBE
  rw [a, b]; exact h
/-- step i: its size, its literals, its number -/
def STP (I I' : Nat → Nat → Int32) (f N i s : Nat) (g : Nat → Int32) (b : Bool) (u : Nat) : Prop :=
  s ≤ 40 ∧ shSize I f (nI i) = nI s ∧ (∀ j, j < s → shLit I f (nI i) (nI j) = g j) ∧ I' 82 i = nI s ∧ (∃ a, I' 81 i = nI a ∧ a + s ≤ 2000 ∧ ∀ j, j < s → I' 83 (a + j) = g j) ∧ rd I (f + 5) (nI i) = b2 b ∧ I' 84 i = b2 b ∧ I 35 i = nI u ∧ I' 90 i = nI u ∧ (b = true → u = 0) ∧ (b = false → 1 ≤ u ∧ u ≤ N)
def STAT (I I' : Nat → Nat → Int32) (f N : Nat) (sz : Nat → Nat) (lt : Nat → Nat → Int32) (ns : Nat) : Prop :=
  isSh f = true ∧ DBE I N sz lt ∧ ns ≤ 300 ∧ I f 3 = nI ns ∧ I' 75 20 = nI ns ∧ ∀ i, 1 ≤ i → i ≤ ns → ∃ s g b u, STP I I' f N i s g b u
theorem STAT_fr {I I' I1 I2 : Nat → Nat → Int32} {f ns : Nat} (h : STAT I I' f N sz lt ns) (a : ∀ r, r < 42 → I1 r = I r) (b : ∀ r, r < 92 → r ≠ 75 → r ≠ 91 → I2 r = I' r) (c : I2 75 20 = I' 75 20) : STAT I1 I2 f N sz lt ns := by
  obtain ⟨h1, h2, h3, h4, h5, h6⟩ := h
  have hf : f ≤ 20 := by rcases isSh_i h1 with q | q | q <;> omega
  refine ⟨h1, DBE_fr h2 (a 33 (by omega)) (a 31 (by omega)), h3, by rw [a f (by omega)]; exact h4, by rw [c]; exact h5, fun i i1 i2 => ?_⟩
  obtain ⟨s, g, bb, u, p1, p2, p3, p4, p5, p6, p7, p8, p9, p10, p11⟩ := h6 i i1 i2
  have r1 : ∀ x, rd I1 (f + 3) x = rd I (f + 3) x := rd_fr (a _ (by omega))
  have r2 : ∀ x, rd I1 (f + 1) x = rd I (f + 1) x := rd_fr (a _ (by omega))
  have r3 : ∀ x, rd I1 (f + 5) x = rd I (f + 5) x := rd_fr (a _ (by omega))
  have e1 : ∀ x, shSize I1 f x = shSize I f x := fun x => by unfold shSize; rw [r1, r1]
  have e2 : ∀ x y, shLit I1 f x y = shLit I f x y := fun x y => by unfold shLit; rw [e1, r1, r2]
  refine ⟨s, g, bb, u, p1, by rw [e1]; exact p2, fun j hj => by rw [e2]; exact p3 j hj, by rw [b 82 (by omega) (by omega) (by omega)]; exact p4, ?_, by rw [r3]; exact p6, by rw [b 84 (by omega) (by omega) (by omega)]; exact p7, by rw [a 35 (by omega)]; exact p8, by rw [b 90 (by omega) (by omega) (by omega)]; exact p9, p10, p11⟩
  rw [b 81 (by omega) (by omega) (by omega), b 83 (by omega) (by omega) (by omega)]; exact p5
def asB (sz : Nat → Nat) (lt : Nat → Nat → Int32) (k s : Nat) (g : Nat → Int32) : Bool := decide (sz k = s) && (List.range' 0 s).all (fun j => hs sz lt k (g j))
theorem contains_loop {v : zV} {J : Nat → Nat → Int64} (hO : OKD N sz lt) {I : Nat → Nat → Int32} {k : Nat} (k1 : 1 ≤ k) (k2 : k ≤ N) (l : Int32) {e e1 : Nat} (h1 : I 33 k = nI e1) (h2 : e1 = e + sz k) (h3 : e1 ≤ 4000) (h4 : ∀ j, j < sz k → I 31 (e + j) = lt k j) : ∀ (d j n : Nat), j + d = sz k → d < n →
    fX1_contains_11 n 29 (nI k) l (nI (e + j)) (st I v J) = some (b2 ((List.range' j d).any (fun i => lt k i == l)), st I v J) := by
  have hN := hO.1
  intro d
  induction d with
  | zero =>
    intro j n hj hn
    obtain ⟨n, rfl⟩ : ∃ m, n = m + 1 := ⟨n - 1, by omega⟩
    conv => lhs; unfold fX1_contains_11
    simp only [bnd_x, gd_0, gd_1, gd_o0, gd_o1, ite_self, rf_1_0, rf_1_1, rf_1_5, rf_1_6, rf_1_7, rf_2_0, rf_4_0, rf_6_0, rf_6_1, rf_6_2, rf_7_0, rf_9_0, rf_11_0, rf_13_0, rf_13_1, rf_13_2, rf_14_0, rf_16_0, rf_18_0, rf_20_0, rf_20_1, rf_20_2, rf_21_0, rf_23_0, rf_25_0, rf_27_0, rf_29_0, rf_29_1, rf_29_2, rf_29_3, rf_29_4, rf_29_5, rf_30_0, rf_32_0, rf_34_0, rf_36_0, rf_38_0, rf_40_0, rf_42_0, rf_42_1, rf_42_2, rf_42_3, rf_43_0, rf_43_1, rf_43_2, rf_44_0, rf_46_0, rf_48_0, rf_50_0, rf_52_0, rf_52_1, rf_52_2, rf_52_3, rf_52_4, rf_52_5, rf_52_6, rf_52_7, rf_52_8, rf_52_9, rf_52_10, rf_52_11, rf_53_0, rf_55_0, rf_57_0, rf_59_0, rf_61_0, rf_63_0, rf_65_0, rf_67_0, rf_69_0, rf_71_0, rf_73_0, a_7, p_7, f_7, c_7, a_9, p_9, f_9, c_9, a_11, p_11, f_11, c_11, a_14, p_14, f_14, c_14, a_16, p_16, f_16, c_16, a_18, p_18, f_18, c_18, a_21, p_21, f_21, c_21, a_23, p_23, f_23, c_23, a_25, p_25, f_25, c_25, a_30, p_30, f_30, c_30, a_32, p_32, f_32, c_32, a_34, p_34, f_34, c_34, a_36, p_36, f_36, c_36, a_38, p_38, f_38, c_38, a_40, p_40, f_40, c_40, a_44, p_44, f_44, c_44, a_46, p_46, f_46, c_46, a_48, p_48, f_48, c_48, a_50, p_50, f_50, c_50, a_53, p_53, f_53, c_53, a_55, p_55, f_55, c_55, a_57, p_57, f_57, c_57, a_59, p_59, f_59, c_59, a_61, p_61, f_61, c_61, a_63, p_63, f_63, c_63, a_65, p_65, f_65, c_65, a_67, p_67, f_67, c_67, a_69, p_69, f_69, c_69, a_71, p_71, f_71, c_71, a_73, p_73, f_73, c_73, c_1, i_1, w_1, z0_1, z1_1, c_2, i_2, w_2, z0_2, z1_2, c_4, i_4, w_4, z0_4, z1_4, c_6, i_6, w_6, z0_6, z1_6, c_13, i_13, w_13, z0_13, z1_13, c_20, i_20, w_20, z0_20, z1_20, c_27, i_27, w_27, z0_27, z1_27, c_28, i_28, w_28, z0_28, z1_28, c_29, i_29, w_29, z0_29, z1_29, c_42, i_42, w_42, z0_42, z1_42, c_43, i_43, w_43, z0_43, z1_43, c_52, i_52, w_52, z0_52, z1_52, X1_size, X1_literal, X1_numberOfStep, X1_ofFormula, X1_inAll, X1_user, X9_codeOf, X1_firstUse, X1_endOfUses, X2_open, X2_at, X2_add, X2_drop, X2_clear, X4_fuelLeft, X4_isActive, X4_isMarked, X4_mark, X4_usedCount, X4_usedAt, X4_setActive, X4_forget, X4_truthOf, rd_32 (show k < 601 by omega), h1, if_pos (nI_le (show e1 ≤ e + j by omega) (show e + j < 2 ^ 31 by omega))]
    simp [b2]
  | succ d ih =>
    intro j n hj hn
    obtain ⟨n, rfl⟩ : ∃ m, n = m + 1 := ⟨n - 1, by omega⟩
    conv => lhs; unfold fX1_contains_11
    have hr : List.range' j (d + 1) = j :: List.range' (j + 1) d := by simp [List.range'_succ]
    simp only [bnd_x, gd_0, gd_1, gd_o0, gd_o1, ite_self, rf_1_0, rf_1_1, rf_1_5, rf_1_6, rf_1_7, rf_2_0, rf_4_0, rf_6_0, rf_6_1, rf_6_2, rf_7_0, rf_9_0, rf_11_0, rf_13_0, rf_13_1, rf_13_2, rf_14_0, rf_16_0, rf_18_0, rf_20_0, rf_20_1, rf_20_2, rf_21_0, rf_23_0, rf_25_0, rf_27_0, rf_29_0, rf_29_1, rf_29_2, rf_29_3, rf_29_4, rf_29_5, rf_30_0, rf_32_0, rf_34_0, rf_36_0, rf_38_0, rf_40_0, rf_42_0, rf_42_1, rf_42_2, rf_42_3, rf_43_0, rf_43_1, rf_43_2, rf_44_0, rf_46_0, rf_48_0, rf_50_0, rf_52_0, rf_52_1, rf_52_2, rf_52_3, rf_52_4, rf_52_5, rf_52_6, rf_52_7, rf_52_8, rf_52_9, rf_52_10, rf_52_11, rf_53_0, rf_55_0, rf_57_0, rf_59_0, rf_61_0, rf_63_0, rf_65_0, rf_67_0, rf_69_0, rf_71_0, rf_73_0, a_7, p_7, f_7, c_7, a_9, p_9, f_9, c_9, a_11, p_11, f_11, c_11, a_14, p_14, f_14, c_14, a_16, p_16, f_16, c_16, a_18, p_18, f_18, c_18, a_21, p_21, f_21, c_21, a_23, p_23, f_23, c_23, a_25, p_25, f_25, c_25, a_30, p_30, f_30, c_30, a_32, p_32, f_32, c_32, a_34, p_34, f_34, c_34, a_36, p_36, f_36, c_36, a_38, p_38, f_38, c_38, a_40, p_40, f_40, c_40, a_44, p_44, f_44, c_44, a_46, p_46, f_46, c_46, a_48, p_48, f_48, c_48, a_50, p_50, f_50, c_50, a_53, p_53, f_53, c_53, a_55, p_55, f_55, c_55, a_57, p_57, f_57, c_57, a_59, p_59, f_59, c_59, a_61, p_61, f_61, c_61, a_63, p_63, f_63, c_63, a_65, p_65, f_65, c_65, a_67, p_67, f_67, c_67, a_69, p_69, f_69, c_69, a_71, p_71, f_71, c_71, a_73, p_73, f_73, c_73, c_1, i_1, w_1, z0_1, z1_1, c_2, i_2, w_2, z0_2, z1_2, c_4, i_4, w_4, z0_4, z1_4, c_6, i_6, w_6, z0_6, z1_6, c_13, i_13, w_13, z0_13, z1_13, c_20, i_20, w_20, z0_20, z1_20, c_27, i_27, w_27, z0_27, z1_27, c_28, i_28, w_28, z0_28, z1_28, c_29, i_29, w_29, z0_29, z1_29, c_42, i_42, w_42, z0_42, z1_42, c_43, i_43, w_43, z0_43, z1_43, c_52, i_52, w_52, z0_52, z1_52, X1_size, X1_literal, X1_numberOfStep, X1_ofFormula, X1_inAll, X1_user, X9_codeOf, X1_firstUse, X1_endOfUses, X2_open, X2_at, X2_add, X2_drop, X2_clear, X4_fuelLeft, X4_isActive, X4_isMarked, X4_mark, X4_usedCount, X4_usedAt, X4_setActive, X4_forget, X4_truthOf, rd_32 (show k < 601 by omega), h1, if_neg (nI_ge (show e + j < e1 by omega) (show e1 < 2 ^ 31 by omega)), rd_30 (show e + j < 4000 by omega), h4 j (by omega), nI_1]
    rw [show e + j + 1 = e + (j + 1) by omega, ih (j + 1) n (by omega) (by omega), hr, List.any_cons]
    by_cases c : lt k j = l
    · rw [if_pos c]; simp [b2, c]
    · rw [if_neg c, show (lt k j == l) = false from by simpa using c, Bool.false_or]
theorem contains_ok {v : zV} {J : Nat → Nat → Int64} (hO : OKD N sz lt) {I : Nat → Nat → Int32} (hE : DBE I N sz lt) {k : Nat} (k1 : 1 ≤ k) (k2 : k ≤ N) (l : Int32) : fX1_contains 29 (nI k) l (st I v J) = some (b2 (hs sz lt k l), st I v J) := by
  have hN := hO.1
  have hz := zfu_big
  obtain ⟨h40, -, -⟩ := hO.2 k k1 k2
  obtain ⟨e, he⟩ := hE
  obtain ⟨a1, a2, a3, a4, a5⟩ := he k k1 k2
  have q := contains_loop (v := v) (J := J) hO k1 k2 l (e := e (k - 1)) a2 a3 a4 a5 (sz k) 0 zfu (by omega) (by omega)
  unfold fX1_contains
  have : nI k - 1 = nI (k - 1) := zz_p k1
  simp only [bnd_x, gd_0, gd_1, gd_o0, gd_o1, ite_self, rf_1_0, rf_1_1, rf_1_5, rf_1_6, rf_1_7, rf_2_0, rf_4_0, rf_6_0, rf_6_1, rf_6_2, rf_7_0, rf_9_0, rf_11_0, rf_13_0, rf_13_1, rf_13_2, rf_14_0, rf_16_0, rf_18_0, rf_20_0, rf_20_1, rf_20_2, rf_21_0, rf_23_0, rf_25_0, rf_27_0, rf_29_0, rf_29_1, rf_29_2, rf_29_3, rf_29_4, rf_29_5, rf_30_0, rf_32_0, rf_34_0, rf_36_0, rf_38_0, rf_40_0, rf_42_0, rf_42_1, rf_42_2, rf_42_3, rf_43_0, rf_43_1, rf_43_2, rf_44_0, rf_46_0, rf_48_0, rf_50_0, rf_52_0, rf_52_1, rf_52_2, rf_52_3, rf_52_4, rf_52_5, rf_52_6, rf_52_7, rf_52_8, rf_52_9, rf_52_10, rf_52_11, rf_53_0, rf_55_0, rf_57_0, rf_59_0, rf_61_0, rf_63_0, rf_65_0, rf_67_0, rf_69_0, rf_71_0, rf_73_0, a_7, p_7, f_7, c_7, a_9, p_9, f_9, c_9, a_11, p_11, f_11, c_11, a_14, p_14, f_14, c_14, a_16, p_16, f_16, c_16, a_18, p_18, f_18, c_18, a_21, p_21, f_21, c_21, a_23, p_23, f_23, c_23, a_25, p_25, f_25, c_25, a_30, p_30, f_30, c_30, a_32, p_32, f_32, c_32, a_34, p_34, f_34, c_34, a_36, p_36, f_36, c_36, a_38, p_38, f_38, c_38, a_40, p_40, f_40, c_40, a_44, p_44, f_44, c_44, a_46, p_46, f_46, c_46, a_48, p_48, f_48, c_48, a_50, p_50, f_50, c_50, a_53, p_53, f_53, c_53, a_55, p_55, f_55, c_55, a_57, p_57, f_57, c_57, a_59, p_59, f_59, c_59, a_61, p_61, f_61, c_61, a_63, p_63, f_63, c_63, a_65, p_65, f_65, c_65, a_67, p_67, f_67, c_67, a_69, p_69, f_69, c_69, a_71, p_71, f_71, c_71, a_73, p_73, f_73, c_73, c_1, i_1, w_1, z0_1, z1_1, c_2, i_2, w_2, z0_2, z1_2, c_4, i_4, w_4, z0_4, z1_4, c_6, i_6, w_6, z0_6, z1_6, c_13, i_13, w_13, z0_13, z1_13, c_20, i_20, w_20, z0_20, z1_20, c_27, i_27, w_27, z0_27, z1_27, c_28, i_28, w_28, z0_28, z1_28, c_29, i_29, w_29, z0_29, z1_29, c_42, i_42, w_42, z0_42, z1_42, c_43, i_43, w_43, z0_43, z1_43, c_52, i_52, w_52, z0_52, z1_52, X1_size, X1_literal, X1_numberOfStep, X1_ofFormula, X1_inAll, X1_user, X9_codeOf, X1_firstUse, X1_endOfUses, X2_open, X2_at, X2_add, X2_drop, X2_clear, X4_fuelLeft, X4_isActive, X4_isMarked, X4_mark, X4_usedCount, X4_usedAt, X4_setActive, X4_forget, X4_truthOf, this, rd_32 (show k - 1 < 601 by omega), a1]
  rw [show e (k - 1) + 0 = e (k - 1) by omega] at q
  rw [q]
  unfold hs
  rw [List.range_eq_range']
theorem isAs_loop {v : zV} {J : Nat → Nat → Int64} (hO : OKD N sz lt) {I : Nat → Nat → Int32} (hE : DBE I N sz lt) {k : Nat} (k1 : 1 ≤ k) (k2 : k ≤ N) (hf : isSh v.2.2.2.2.2.2 = true) {i s : Nat} {g : Nat → Int32} (hs40 : s ≤ 40) (hg : ∀ j, j < s → shLit I v.2.2.2.2.2.2 (nI i) (nI j) = g j) : ∀ (d j n : Nat), j + d = s → d < n →
    fX1_isAsStep_23 n 29 (nI k) (nI i) (nI s) (nI j) (st I v J) = some (b2 ((List.range' j d).all (fun x => hs sz lt k (g x))), st I v J) := by
  have h0 : v.2.2.2.2.2.2 ≠ 0 := by rcases isSh_i hf with q | q | q <;> rw [q] <;> decide
  intro d
  induction d with
  | zero =>
    intro j n hj hn
    obtain ⟨n, rfl⟩ : ∃ m, n = m + 1 := ⟨n - 1, by omega⟩
    conv => lhs; unfold fX1_isAsStep_23
    simp only [bnd_x, gd_0, gd_1, gd_o0, gd_o1, ite_self, rf_1_0, rf_1_1, rf_1_5, rf_1_6, rf_1_7, rf_2_0, rf_4_0, rf_6_0, rf_6_1, rf_6_2, rf_7_0, rf_9_0, rf_11_0, rf_13_0, rf_13_1, rf_13_2, rf_14_0, rf_16_0, rf_18_0, rf_20_0, rf_20_1, rf_20_2, rf_21_0, rf_23_0, rf_25_0, rf_27_0, rf_29_0, rf_29_1, rf_29_2, rf_29_3, rf_29_4, rf_29_5, rf_30_0, rf_32_0, rf_34_0, rf_36_0, rf_38_0, rf_40_0, rf_42_0, rf_42_1, rf_42_2, rf_42_3, rf_43_0, rf_43_1, rf_43_2, rf_44_0, rf_46_0, rf_48_0, rf_50_0, rf_52_0, rf_52_1, rf_52_2, rf_52_3, rf_52_4, rf_52_5, rf_52_6, rf_52_7, rf_52_8, rf_52_9, rf_52_10, rf_52_11, rf_53_0, rf_55_0, rf_57_0, rf_59_0, rf_61_0, rf_63_0, rf_65_0, rf_67_0, rf_69_0, rf_71_0, rf_73_0, a_7, p_7, f_7, c_7, a_9, p_9, f_9, c_9, a_11, p_11, f_11, c_11, a_14, p_14, f_14, c_14, a_16, p_16, f_16, c_16, a_18, p_18, f_18, c_18, a_21, p_21, f_21, c_21, a_23, p_23, f_23, c_23, a_25, p_25, f_25, c_25, a_30, p_30, f_30, c_30, a_32, p_32, f_32, c_32, a_34, p_34, f_34, c_34, a_36, p_36, f_36, c_36, a_38, p_38, f_38, c_38, a_40, p_40, f_40, c_40, a_44, p_44, f_44, c_44, a_46, p_46, f_46, c_46, a_48, p_48, f_48, c_48, a_50, p_50, f_50, c_50, a_53, p_53, f_53, c_53, a_55, p_55, f_55, c_55, a_57, p_57, f_57, c_57, a_59, p_59, f_59, c_59, a_61, p_61, f_61, c_61, a_63, p_63, f_63, c_63, a_65, p_65, f_65, c_65, a_67, p_67, f_67, c_67, a_69, p_69, f_69, c_69, a_71, p_71, f_71, c_71, a_73, p_73, f_73, c_73, c_1, i_1, w_1, z0_1, z1_1, c_2, i_2, w_2, z0_2, z1_2, c_4, i_4, w_4, z0_4, z1_4, c_6, i_6, w_6, z0_6, z1_6, c_13, i_13, w_13, z0_13, z1_13, c_20, i_20, w_20, z0_20, z1_20, c_27, i_27, w_27, z0_27, z1_27, c_28, i_28, w_28, z0_28, z1_28, c_29, i_29, w_29, z0_29, z1_29, c_42, i_42, w_42, z0_42, z1_42, c_43, i_43, w_43, z0_43, z1_43, c_52, i_52, w_52, z0_52, z1_52, X1_size, X1_literal, X1_numberOfStep, X1_ofFormula, X1_inAll, X1_user, X9_codeOf, X1_firstUse, X1_endOfUses, X2_open, X2_at, X2_add, X2_drop, X2_clear, X4_fuelLeft, X4_isActive, X4_isMarked, X4_mark, X4_usedCount, X4_usedAt, X4_setActive, X4_forget, X4_truthOf, if_pos (nI_le (show s ≤ j by omega) (show j < 2 ^ 31 by omega))]
    rfl
  | succ d ih =>
    intro j n hj hn
    obtain ⟨n, rfl⟩ : ∃ m, n = m + 1 := ⟨n - 1, by omega⟩
    conv => lhs; unfold fX1_isAsStep_23
    have hr : List.range' j (d + 1) = j :: List.range' (j + 1) d := by simp [List.range'_succ]
    simp only [bnd_x, gd_0, gd_1, gd_o0, gd_o1, ite_self, rf_1_0, rf_1_1, rf_1_5, rf_1_6, rf_1_7, rf_2_0, rf_4_0, rf_6_0, rf_6_1, rf_6_2, rf_7_0, rf_9_0, rf_11_0, rf_13_0, rf_13_1, rf_13_2, rf_14_0, rf_16_0, rf_18_0, rf_20_0, rf_20_1, rf_20_2, rf_21_0, rf_23_0, rf_25_0, rf_27_0, rf_29_0, rf_29_1, rf_29_2, rf_29_3, rf_29_4, rf_29_5, rf_30_0, rf_32_0, rf_34_0, rf_36_0, rf_38_0, rf_40_0, rf_42_0, rf_42_1, rf_42_2, rf_42_3, rf_43_0, rf_43_1, rf_43_2, rf_44_0, rf_46_0, rf_48_0, rf_50_0, rf_52_0, rf_52_1, rf_52_2, rf_52_3, rf_52_4, rf_52_5, rf_52_6, rf_52_7, rf_52_8, rf_52_9, rf_52_10, rf_52_11, rf_53_0, rf_55_0, rf_57_0, rf_59_0, rf_61_0, rf_63_0, rf_65_0, rf_67_0, rf_69_0, rf_71_0, rf_73_0, a_7, p_7, f_7, c_7, a_9, p_9, f_9, c_9, a_11, p_11, f_11, c_11, a_14, p_14, f_14, c_14, a_16, p_16, f_16, c_16, a_18, p_18, f_18, c_18, a_21, p_21, f_21, c_21, a_23, p_23, f_23, c_23, a_25, p_25, f_25, c_25, a_30, p_30, f_30, c_30, a_32, p_32, f_32, c_32, a_34, p_34, f_34, c_34, a_36, p_36, f_36, c_36, a_38, p_38, f_38, c_38, a_40, p_40, f_40, c_40, a_44, p_44, f_44, c_44, a_46, p_46, f_46, c_46, a_48, p_48, f_48, c_48, a_50, p_50, f_50, c_50, a_53, p_53, f_53, c_53, a_55, p_55, f_55, c_55, a_57, p_57, f_57, c_57, a_59, p_59, f_59, c_59, a_61, p_61, f_61, c_61, a_63, p_63, f_63, c_63, a_65, p_65, f_65, c_65, a_67, p_67, f_67, c_67, a_69, p_69, f_69, c_69, a_71, p_71, f_71, c_71, a_73, p_73, f_73, c_73, c_1, i_1, w_1, z0_1, z1_1, c_2, i_2, w_2, z0_2, z1_2, c_4, i_4, w_4, z0_4, z1_4, c_6, i_6, w_6, z0_6, z1_6, c_13, i_13, w_13, z0_13, z1_13, c_20, i_20, w_20, z0_20, z1_20, c_27, i_27, w_27, z0_27, z1_27, c_28, i_28, w_28, z0_28, z1_28, c_29, i_29, w_29, z0_29, z1_29, c_42, i_42, w_42, z0_42, z1_42, c_43, i_43, w_43, z0_43, z1_43, c_52, i_52, w_52, z0_52, z1_52, X1_size, X1_literal, X1_numberOfStep, X1_ofFormula, X1_inAll, X1_user, X9_codeOf, X1_firstUse, X1_endOfUses, X2_open, X2_at, X2_add, X2_drop, X2_clear, X4_fuelLeft, X4_isActive, X4_isMarked, X4_mark, X4_usedCount, X4_usedAt, X4_setActive, X4_forget, X4_truthOf, if_neg (nI_ge (show j < s by omega) (show s < 2 ^ 31 by omega)), rv_29_6 h0, cl_st (sh_f hf).1, X7_literal hf, hg j (by omega), contains_ok hO hE k1 k2, nI_1]
    rw [ih (j + 1) n (by omega) (by omega), hr, List.all_cons]
    cases hs sz lt k (g j) with
    | false => simp [b2]
    | true => rw [show b2 true = 1 from rfl, if_neg (by decide), Bool.true_and]
theorem isAs_ok {v : zV} {J : Nat → Nat → Int64} (hO : OKD N sz lt) {I : Nat → Nat → Int32} (hE : DBE I N sz lt) (hD : DBC I N sz lt) {k : Nat} (k1 : 1 ≤ k) (k2 : k ≤ N) (hf : isSh v.2.2.2.2.2.2 = true) {i s : Nat} {g : Nat → Int32} (hs40 : s ≤ 40) (hsz : shSize I v.2.2.2.2.2.2 (nI i) = nI s) (hg : ∀ j, j < s → shLit I v.2.2.2.2.2.2 (nI i) (nI j) = g j) :
    fX1_isAsStep 29 (nI k) (nI i) (st I v J) = some (b2 (asB sz lt k s g), st I v J) := by
  have h0 : v.2.2.2.2.2.2 ≠ 0 := by rcases isSh_i hf with q | q | q <;> rw [q] <;> decide
  have hz := zfu_big
  obtain ⟨h40, -, -⟩ := hO.2 k k1 k2
  have q := isAs_loop (v := v) (J := J) hO hE k1 k2 hf hs40 hg s 0 zfu (by omega) (by omega)
  rw [nI_0] at q
  unfold fX1_isAsStep
  simp only [bnd_x, gd_0, gd_1, gd_o0, gd_o1, ite_self, rf_1_0, rf_1_1, rf_1_5, rf_1_6, rf_1_7, rf_2_0, rf_4_0, rf_6_0, rf_6_1, rf_6_2, rf_7_0, rf_9_0, rf_11_0, rf_13_0, rf_13_1, rf_13_2, rf_14_0, rf_16_0, rf_18_0, rf_20_0, rf_20_1, rf_20_2, rf_21_0, rf_23_0, rf_25_0, rf_27_0, rf_29_0, rf_29_1, rf_29_2, rf_29_3, rf_29_4, rf_29_5, rf_30_0, rf_32_0, rf_34_0, rf_36_0, rf_38_0, rf_40_0, rf_42_0, rf_42_1, rf_42_2, rf_42_3, rf_43_0, rf_43_1, rf_43_2, rf_44_0, rf_46_0, rf_48_0, rf_50_0, rf_52_0, rf_52_1, rf_52_2, rf_52_3, rf_52_4, rf_52_5, rf_52_6, rf_52_7, rf_52_8, rf_52_9, rf_52_10, rf_52_11, rf_53_0, rf_55_0, rf_57_0, rf_59_0, rf_61_0, rf_63_0, rf_65_0, rf_67_0, rf_69_0, rf_71_0, rf_73_0, a_7, p_7, f_7, c_7, a_9, p_9, f_9, c_9, a_11, p_11, f_11, c_11, a_14, p_14, f_14, c_14, a_16, p_16, f_16, c_16, a_18, p_18, f_18, c_18, a_21, p_21, f_21, c_21, a_23, p_23, f_23, c_23, a_25, p_25, f_25, c_25, a_30, p_30, f_30, c_30, a_32, p_32, f_32, c_32, a_34, p_34, f_34, c_34, a_36, p_36, f_36, c_36, a_38, p_38, f_38, c_38, a_40, p_40, f_40, c_40, a_44, p_44, f_44, c_44, a_46, p_46, f_46, c_46, a_48, p_48, f_48, c_48, a_50, p_50, f_50, c_50, a_53, p_53, f_53, c_53, a_55, p_55, f_55, c_55, a_57, p_57, f_57, c_57, a_59, p_59, f_59, c_59, a_61, p_61, f_61, c_61, a_63, p_63, f_63, c_63, a_65, p_65, f_65, c_65, a_67, p_67, f_67, c_67, a_69, p_69, f_69, c_69, a_71, p_71, f_71, c_71, a_73, p_73, f_73, c_73, c_1, i_1, w_1, z0_1, z1_1, c_2, i_2, w_2, z0_2, z1_2, c_4, i_4, w_4, z0_4, z1_4, c_6, i_6, w_6, z0_6, z1_6, c_13, i_13, w_13, z0_13, z1_13, c_20, i_20, w_20, z0_20, z1_20, c_27, i_27, w_27, z0_27, z1_27, c_28, i_28, w_28, z0_28, z1_28, c_29, i_29, w_29, z0_29, z1_29, c_42, i_42, w_42, z0_42, z1_42, c_43, i_43, w_43, z0_43, z1_43, c_52, i_52, w_52, z0_52, z1_52, X1_size, X1_literal, X1_numberOfStep, X1_ofFormula, X1_inAll, X1_user, X9_codeOf, X1_firstUse, X1_endOfUses, X2_open, X2_at, X2_add, X2_drop, X2_clear, X4_fuelLeft, X4_isActive, X4_isMarked, X4_mark, X4_usedCount, X4_usedAt, X4_setActive, X4_forget, X4_truthOf, hD.2.1 k k1 k2, rv_29_6 h0, cl_st (sh_f hf).1, X7_size hf, hsz]
  unfold asB
  by_cases c : sz k = s
  · rw [c, if_pos rfl, q]; simp
  · rw [if_neg (fun x => c ((nI_eq (by omega) (by omega)).mp x))]; simp [c, b2]
theorem isOf_loop {v : zV} {J : Nat → Nat → Int64} (hO : OKD N sz lt) {I : Nat → Nat → Int32} (hR : DBR I N sz lt) {k : Nat} (k1 : 1 ≤ k) (k2 : k ≤ N) {i s a : Nat} {g : Nat → Int32} (hs40 : s ≤ 40) (hi : i ≤ 300) (h82 : I 82 i = nI s) (h81 : I 81 i = nI a) (ha : a + s ≤ 2000) (hg : ∀ j, j < s → I 83 (a + j) = g j) : ∀ (d j n : Nat) (b : Bool), j + d = s → d < n →
    fX10_isOf_23 n 75 (nI k) (nI i) (b2 b) (nI j) (st I v J) = some (b2 (b && (List.range' j d).all (fun x => hs sz lt k (g x))), st I v J) := by
  intro d
  induction d with
  | zero =>
    intro j n b hj hn
    obtain ⟨n, rfl⟩ : ∃ m, n = m + 1 := ⟨n - 1, by omega⟩
    conv => lhs; unfold fX10_isOf_23
    simp only [bnd_x, gd_0, gd_1, gd_o0, gd_o1, ite_self, rf_75_1, rf_75_3, rf_75_12, rf_75_13, rf_75_14, rf_75_15, rf_75_16, rf_75_17, rf_75_18, rf_75_22, rf_75_23, rf_75_24, rf_75_25, rf_75_31, rf_75_32, rf_75_41, rf_75_42, rf_75_43, rf_75_44, rf_75_45, rf_75_46, rf_75_47, rf_75_48, rf_75_53, rf_75_54, rf_75_55, rf_75_57, c_75, i_75, w_75, z0_75, z1_75, qa_82 (show i < 301 by omega), h82, if_pos (nI_le (show s ≤ j by omega) (show j < 2 ^ 31 by omega)), gd_p (b2_01 b)]
    simp
  | succ d ih =>
    intro j n b hj hn
    obtain ⟨n, rfl⟩ : ∃ m, n = m + 1 := ⟨n - 1, by omega⟩
    conv => lhs; unfold fX10_isOf_23
    have hr : List.range' j (d + 1) = j :: List.range' (j + 1) d := by simp [List.range'_succ]
    cases b with
    | false =>
      rw [show b2 false = 0 from rfl, if_pos rfl, gd_p (Or.inl rfl)]
      rfl
    | true =>
      rw [show b2 true = 1 from rfl, if_neg (by decide)]
      simp only [bnd_x, gd_0, gd_1, gd_o0, gd_o1, ite_self, rf_75_1, rf_75_3, rf_75_12, rf_75_13, rf_75_14, rf_75_15, rf_75_16, rf_75_17, rf_75_18, rf_75_22, rf_75_23, rf_75_24, rf_75_25, rf_75_31, rf_75_32, rf_75_41, rf_75_42, rf_75_43, rf_75_44, rf_75_45, rf_75_46, rf_75_47, rf_75_48, rf_75_53, rf_75_54, rf_75_55, rf_75_57, c_75, i_75, w_75, z0_75, z1_75, qa_82 (show i < 301 by omega), qa_81 (show i < 301 by omega), h81, h82, if_neg (nI_ge (show j < s by omega) (show s < 2 ^ 31 by omega)), nI_add, qa_83 (show a + j < 2000 by omega), hg j (by omega), has_ok hO hR k1 k2, nI_1]
      rw [ih (j + 1) n _ (by omega) (by omega), hr, List.all_cons, Bool.true_and]
theorem isOf_ok {v : zV} {J : Nat → Nat → Int64} (hO : OKD N sz lt) {I : Nat → Nat → Int32} (hR : DBR I N sz lt) {k : Nat} (k1 : 1 ≤ k) (k2 : k ≤ N) {i s a : Nat} {g : Nat → Int32} (hs40 : s ≤ 40) (hi : i ≤ 300) (h82 : I 82 i = nI s) (h81 : I 81 i = nI a) (ha : a + s ≤ 2000) (hg : ∀ j, j < s → I 83 (a + j) = g j) :
    fX10_isOf 75 (nI k) (nI i) (st I v J) = some (b2 (asB sz lt k s g), st I v J) := by
  have hz := zfu_big
  obtain ⟨h40, -, -⟩ := hO.2 k k1 k2
  have q1 := isOf_loop (v := v) (J := J) hO hR k1 k2 hs40 hi h82 h81 ha hg s 0 zfu true (by omega) (by omega)
  have q0 := isOf_loop (v := v) (J := J) hO hR k1 k2 hs40 hi h82 h81 ha hg s 0 zfu false (by omega) (by omega)
  rw [nI_0] at q1 q0
  unfold fX10_isOf
  simp only [long_ok hO.1 hR k1 k2, bnd_x, gd_0, gd_1, gd_o0, gd_o1, ite_self, rf_75_1, rf_75_3, rf_75_12, rf_75_13, rf_75_14, rf_75_15, rf_75_16, rf_75_17, rf_75_18, rf_75_22, rf_75_23, rf_75_24, rf_75_25, rf_75_31, rf_75_32, rf_75_41, rf_75_42, rf_75_43, rf_75_44, rf_75_45, rf_75_46, rf_75_47, rf_75_48, rf_75_53, rf_75_54, rf_75_55, rf_75_57, c_75, i_75, w_75, z0_75, z1_75, qa_82 (show i < 301 by omega), h82, fX10_isOf_19]
  unfold asB
  by_cases c : sz k = s
  · rw [c, if_pos rfl]
    exact (show _ = _ from q1).trans (by simp)
  · rw [if_neg (fun x => c ((nI_eq (by omega) (by omega)).mp x))]
    exact (show _ = _ from q0).trans (by simp [c])
theorem reason_loop {v : zV} {J : Nat → Nat → Int64} {I : Nat → Nat → Int32} {n k : Nat} (hn : n ≤ 150) (h14 : I 52 14 = nI n) : ∀ (d t f : Nat), t + d = n → d < f →
    fX4_isReason_2 f 52 (nI k) (nI t) (st I v J) = some (b2 ((List.range' t d).any (fun q => I 70 q == nI k)), st I v J) := by
  intro d
  induction d with
  | zero =>
    intro t f ht hf
    obtain ⟨f, rfl⟩ : ∃ m, f = m + 1 := ⟨f - 1, by omega⟩
    conv => lhs; unfold fX4_isReason_2
    simp only [bnd_x, gd_0, gd_1, gd_o0, gd_o1, ite_self, rf_1_0, rf_1_1, rf_1_5, rf_1_6, rf_1_7, rf_2_0, rf_4_0, rf_6_0, rf_6_1, rf_6_2, rf_7_0, rf_9_0, rf_11_0, rf_13_0, rf_13_1, rf_13_2, rf_14_0, rf_16_0, rf_18_0, rf_20_0, rf_20_1, rf_20_2, rf_21_0, rf_23_0, rf_25_0, rf_27_0, rf_29_0, rf_29_1, rf_29_2, rf_29_3, rf_29_4, rf_29_5, rf_30_0, rf_32_0, rf_34_0, rf_36_0, rf_38_0, rf_40_0, rf_42_0, rf_42_1, rf_42_2, rf_42_3, rf_43_0, rf_43_1, rf_43_2, rf_44_0, rf_46_0, rf_48_0, rf_50_0, rf_52_0, rf_52_1, rf_52_2, rf_52_3, rf_52_4, rf_52_5, rf_52_6, rf_52_7, rf_52_8, rf_52_9, rf_52_10, rf_52_11, rf_53_0, rf_55_0, rf_57_0, rf_59_0, rf_61_0, rf_63_0, rf_65_0, rf_67_0, rf_69_0, rf_71_0, rf_73_0, a_7, p_7, f_7, c_7, a_9, p_9, f_9, c_9, a_11, p_11, f_11, c_11, a_14, p_14, f_14, c_14, a_16, p_16, f_16, c_16, a_18, p_18, f_18, c_18, a_21, p_21, f_21, c_21, a_23, p_23, f_23, c_23, a_25, p_25, f_25, c_25, a_30, p_30, f_30, c_30, a_32, p_32, f_32, c_32, a_34, p_34, f_34, c_34, a_36, p_36, f_36, c_36, a_38, p_38, f_38, c_38, a_40, p_40, f_40, c_40, a_44, p_44, f_44, c_44, a_46, p_46, f_46, c_46, a_48, p_48, f_48, c_48, a_50, p_50, f_50, c_50, a_53, p_53, f_53, c_53, a_55, p_55, f_55, c_55, a_57, p_57, f_57, c_57, a_59, p_59, f_59, c_59, a_61, p_61, f_61, c_61, a_63, p_63, f_63, c_63, a_65, p_65, f_65, c_65, a_67, p_67, f_67, c_67, a_69, p_69, f_69, c_69, a_71, p_71, f_71, c_71, a_73, p_73, f_73, c_73, c_1, i_1, w_1, z0_1, z1_1, c_2, i_2, w_2, z0_2, z1_2, c_4, i_4, w_4, z0_4, z1_4, c_6, i_6, w_6, z0_6, z1_6, c_13, i_13, w_13, z0_13, z1_13, c_20, i_20, w_20, z0_20, z1_20, c_27, i_27, w_27, z0_27, z1_27, c_28, i_28, w_28, z0_28, z1_28, c_29, i_29, w_29, z0_29, z1_29, c_42, i_42, w_42, z0_42, z1_42, c_43, i_43, w_43, z0_43, z1_43, c_52, i_52, w_52, z0_52, z1_52, X1_size, X1_literal, X1_numberOfStep, X1_ofFormula, X1_inAll, X1_user, X9_codeOf, X1_firstUse, X1_endOfUses, X2_open, X2_at, X2_add, X2_drop, X2_clear, X4_fuelLeft, X4_isActive, X4_isMarked, X4_mark, X4_usedCount, X4_usedAt, X4_setActive, X4_forget, X4_truthOf, h14, if_pos (nI_le (show n ≤ t by omega) (show t < 2 ^ 31 by omega))]
    rfl
  | succ d ih =>
    intro t f ht hf
    obtain ⟨f, rfl⟩ : ∃ m, f = m + 1 := ⟨f - 1, by omega⟩
    conv => lhs; unfold fX4_isReason_2
    simp only [bnd_x, gd_0, gd_1, gd_o0, gd_o1, ite_self, rf_1_0, rf_1_1, rf_1_5, rf_1_6, rf_1_7, rf_2_0, rf_4_0, rf_6_0, rf_6_1, rf_6_2, rf_7_0, rf_9_0, rf_11_0, rf_13_0, rf_13_1, rf_13_2, rf_14_0, rf_16_0, rf_18_0, rf_20_0, rf_20_1, rf_20_2, rf_21_0, rf_23_0, rf_25_0, rf_27_0, rf_29_0, rf_29_1, rf_29_2, rf_29_3, rf_29_4, rf_29_5, rf_30_0, rf_32_0, rf_34_0, rf_36_0, rf_38_0, rf_40_0, rf_42_0, rf_42_1, rf_42_2, rf_42_3, rf_43_0, rf_43_1, rf_43_2, rf_44_0, rf_46_0, rf_48_0, rf_50_0, rf_52_0, rf_52_1, rf_52_2, rf_52_3, rf_52_4, rf_52_5, rf_52_6, rf_52_7, rf_52_8, rf_52_9, rf_52_10, rf_52_11, rf_53_0, rf_55_0, rf_57_0, rf_59_0, rf_61_0, rf_63_0, rf_65_0, rf_67_0, rf_69_0, rf_71_0, rf_73_0, a_7, p_7, f_7, c_7, a_9, p_9, f_9, c_9, a_11, p_11, f_11, c_11, a_14, p_14, f_14, c_14, a_16, p_16, f_16, c_16, a_18, p_18, f_18, c_18, a_21, p_21, f_21, c_21, a_23, p_23, f_23, c_23, a_25, p_25, f_25, c_25, a_30, p_30, f_30, c_30, a_32, p_32, f_32, c_32, a_34, p_34, f_34, c_34, a_36, p_36, f_36, c_36, a_38, p_38, f_38, c_38, a_40, p_40, f_40, c_40, a_44, p_44, f_44, c_44, a_46, p_46, f_46, c_46, a_48, p_48, f_48, c_48, a_50, p_50, f_50, c_50, a_53, p_53, f_53, c_53, a_55, p_55, f_55, c_55, a_57, p_57, f_57, c_57, a_59, p_59, f_59, c_59, a_61, p_61, f_61, c_61, a_63, p_63, f_63, c_63, a_65, p_65, f_65, c_65, a_67, p_67, f_67, c_67, a_69, p_69, f_69, c_69, a_71, p_71, f_71, c_71, a_73, p_73, f_73, c_73, c_1, i_1, w_1, z0_1, z1_1, c_2, i_2, w_2, z0_2, z1_2, c_4, i_4, w_4, z0_4, z1_4, c_6, i_6, w_6, z0_6, z1_6, c_13, i_13, w_13, z0_13, z1_13, c_20, i_20, w_20, z0_20, z1_20, c_27, i_27, w_27, z0_27, z1_27, c_28, i_28, w_28, z0_28, z1_28, c_29, i_29, w_29, z0_29, z1_29, c_42, i_42, w_42, z0_42, z1_42, c_43, i_43, w_43, z0_43, z1_43, c_52, i_52, w_52, z0_52, z1_52, X1_size, X1_literal, X1_numberOfStep, X1_ofFormula, X1_inAll, X1_user, X9_codeOf, X1_firstUse, X1_endOfUses, X2_open, X2_at, X2_add, X2_drop, X2_clear, X4_fuelLeft, X4_isActive, X4_isMarked, X4_mark, X4_usedCount, X4_usedAt, X4_setActive, X4_forget, X4_truthOf, h14, if_neg (nI_ge (show t < n by omega) (show n < 2 ^ 31 by omega)), rd_69 (show t < 150 by omega), nI_1]
    have hr : List.range' t (d + 1) = t :: List.range' (t + 1) d := by simp [List.range'_succ]
    rw [hr, List.any_cons]
    by_cases c : I 70 t = nI k
    · rw [if_pos c, show (I 70 t == nI k) = true from by simpa using c, Bool.true_or]; rfl
    · rw [if_neg c, ih (t + 1) f (by omega) (by omega), show (I 70 t == nI k) = false from by simpa using c, Bool.false_or]
/-- what was removed by which step -/
def RG (I I' : Nat → Nat → Int32) (N ns : Nat) : Prop := ∀ i, 1 ≤ i → i ≤ ns → ∃ g, g ≤ N ∧ I 51 i = nI g ∧ I' 95 i = nI g
theorem remove_loop {v v' : zV} {J J' : Nat → Nat → Int64} (hO : OKD N sz lt) {I I' : Nat → Nat → Int32} (h : RJ I I' N sz lt) {ns : Nat} (hS : STAT I I' v.2.2.2.2.2.2 N sz lt ns) (hZ : RZ I I' N) (hG : RG I I' N ns) {i : Nat} (i1 : 1 ≤ i) (i2 : i ≤ ns) : ∀ (k m m' : Nat), k ≤ N → k < m → k < m' →
    ∃ I1 I2, fX3_remove_8 m 42 (nI i) (nI k) (st I v J) = some (st I1 v J) ∧ fX10_delete_5 m' 75 (nI i) (I 42 5) (nI k) (st I' v' J') = some (st I2 v' J') ∧ RJ I1 I2 N sz lt ∧ RG I1 I2 N ns ∧ (∀ a, a ≠ 51 → a ≠ 54 → I1 a = I a) ∧ (∀ a, a ≠ 91 → a ≠ 95 → I2 a = I' a) := by
  have hN := hO.1
  have hz := zfu_big
  obtain ⟨s1, s2, s3, s4, s5, s6⟩ := hS
  obtain ⟨s, g, bb, u, p1, p2, p3, p4, ⟨a, p5, p5', p5''⟩, p6, p7, p8, p9, p10, p11⟩ := s6 i i1 i2
  intro k
  induction k with
  | zero =>
    intro m m' hk hm hm'
    obtain ⟨m, rfl⟩ : ∃ q, m = q + 1 := ⟨m - 1, by omega⟩
    obtain ⟨m', rfl⟩ : ∃ q, m' = q + 1 := ⟨m' - 1, by omega⟩
    refine ⟨I, I', ?_, ?_, h, hG, fun _ _ _ => rfl, fun _ _ _ => rfl⟩
    · conv => lhs; unfold fX3_remove_8
      rw [if_pos (by decide)]
    · conv => lhs; unfold fX10_delete_5
      rw [if_pos (by decide)]
      unfold fX10_delete_33
      rw [if_pos (by rfl)]
  | succ k ih =>
    intro m m' hk hm hm'
    obtain ⟨m, rfl⟩ : ∃ q, m = q + 1 := ⟨m - 1, by omega⟩
    obtain ⟨m', rfl⟩ : ∃ q, m' = q + 1 := ⟨m' - 1, by omega⟩
    obtain ⟨I1, I2, f1, f2, f3⟩ := ih m m' (by omega) (by omega) (by omega)
    have hA := h.2.2.2.1
    obtain ⟨am1, am2, am3, am4⟩ := hA (k + 1) (by omega) hk
    have e1 : nI (k + 1) + (-1) = nI k := zz_d k
    obtain ⟨n, hn, h14, hrz⟩ := hZ
    have hrs := reason_loop (v := v) (J := J) (I := I) (k := k + 1) hn h14 n 0 zfu (by omega) (by omega)
    rw [nI_0] at hrs
    have c1 : ¬ nI (k + 1) < 1 := nI_nlt (b := 1) (a := k + 1) (by omega) (by omega)
    have c2 : ¬ nI (k + 1) ≤ 0 := nI_nle (show 0 < k + 1 by omega) (by omega)
    have c3 : ¬ nI (k + 1) = 0 := nI_ne0 (show 0 < k + 1 by omega) (by omega)
    have hC : fX3_remove_8 (m + 1) 42 (nI i) (nI (k + 1)) (st I v J) = if I 54 (k + 1) = 0 then fX3_remove_8 m 42 (nI i) (nI k) (st I v J) else if asB sz lt (k + 1) s g = false then fX3_remove_8 m 42 (nI i) (nI k) (st I v J) else if I 42 5 = 0 then some (st (up (up I 54 (k + 1) 0) 51 i (nI (k + 1))) v J) else if I' 94 (k + 1) ≠ 0 then some (st I v J) else some (st (up (up I 54 (k + 1) 0) 51 i (nI (k + 1))) v J) := by
      conv => lhs; unfold fX3_remove_8
      rw [if_neg c1]
      simp only [bnd_x, gd_0, gd_1, gd_o0, gd_o1, ite_self, rf_1_0, rf_1_1, rf_1_5, rf_1_6, rf_1_7, rf_2_0, rf_4_0, rf_6_0, rf_6_1, rf_6_2, rf_7_0, rf_9_0, rf_11_0, rf_13_0, rf_13_1, rf_13_2, rf_14_0, rf_16_0, rf_18_0, rf_20_0, rf_20_1, rf_20_2, rf_21_0, rf_23_0, rf_25_0, rf_27_0, rf_29_0, rf_29_1, rf_29_2, rf_29_3, rf_29_4, rf_29_5, rf_30_0, rf_32_0, rf_34_0, rf_36_0, rf_38_0, rf_40_0, rf_42_0, rf_42_1, rf_42_2, rf_42_3, rf_43_0, rf_43_1, rf_43_2, rf_44_0, rf_46_0, rf_48_0, rf_50_0, rf_52_0, rf_52_1, rf_52_2, rf_52_3, rf_52_4, rf_52_5, rf_52_6, rf_52_7, rf_52_8, rf_52_9, rf_52_10, rf_52_11, rf_53_0, rf_55_0, rf_57_0, rf_59_0, rf_61_0, rf_63_0, rf_65_0, rf_67_0, rf_69_0, rf_71_0, rf_73_0, a_7, p_7, f_7, c_7, a_9, p_9, f_9, c_9, a_11, p_11, f_11, c_11, a_14, p_14, f_14, c_14, a_16, p_16, f_16, c_16, a_18, p_18, f_18, c_18, a_21, p_21, f_21, c_21, a_23, p_23, f_23, c_23, a_25, p_25, f_25, c_25, a_30, p_30, f_30, c_30, a_32, p_32, f_32, c_32, a_34, p_34, f_34, c_34, a_36, p_36, f_36, c_36, a_38, p_38, f_38, c_38, a_40, p_40, f_40, c_40, a_44, p_44, f_44, c_44, a_46, p_46, f_46, c_46, a_48, p_48, f_48, c_48, a_50, p_50, f_50, c_50, a_53, p_53, f_53, c_53, a_55, p_55, f_55, c_55, a_57, p_57, f_57, c_57, a_59, p_59, f_59, c_59, a_61, p_61, f_61, c_61, a_63, p_63, f_63, c_63, a_65, p_65, f_65, c_65, a_67, p_67, f_67, c_67, a_69, p_69, f_69, c_69, a_71, p_71, f_71, c_71, a_73, p_73, f_73, c_73, c_1, i_1, w_1, z0_1, z1_1, c_2, i_2, w_2, z0_2, z1_2, c_4, i_4, w_4, z0_4, z1_4, c_6, i_6, w_6, z0_6, z1_6, c_13, i_13, w_13, z0_13, z1_13, c_20, i_20, w_20, z0_20, z1_20, c_27, i_27, w_27, z0_27, z1_27, c_28, i_28, w_28, z0_28, z1_28, c_29, i_29, w_29, z0_29, z1_29, c_42, i_42, w_42, z0_42, z1_42, c_43, i_43, w_43, z0_43, z1_43, c_52, i_52, w_52, z0_52, z1_52, X1_size, X1_literal, X1_numberOfStep, X1_ofFormula, X1_inAll, X1_user, X9_codeOf, X1_firstUse, X1_endOfUses, X2_open, X2_at, X2_add, X2_drop, X2_clear, X4_fuelLeft, X4_isActive, X4_isMarked, X4_mark, X4_usedCount, X4_usedAt, X4_setActive, X4_forget, X4_truthOf, rd_53 (show k + 1 < 601 by omega), isAs_ok hO s2 h.1 (show 1 ≤ k + 1 by omega) hk s1 p1 p2 p3, fX3_remove_73, e1, fX3_remove_54, wr_53 (show k + 1 < 601 by omega), wr_50 (show i < 301 by omega), fX4_isReason, hrs]
      by_cases z1 : I 54 (k + 1) = 0
      · rw [if_pos (by rw [z1]; rfl), if_pos z1]
      · rw [if_neg (by unfold nz; rw [if_neg z1]; decide), if_neg z1]
        cases asB sz lt (k + 1) s g with
        | false => rw [show b2 false = 0 from rfl, if_pos (rfl : (0 : Int32) = 0), if_pos (rfl : false = false)]
        | true =>
          rw [show b2 true = 1 from rfl, if_neg (show ¬ (1 : Int32) = 0 by decide), if_neg (show ¬ true = false by decide)]
          by_cases z2 : I 42 5 = 0
          · rw [if_pos z2, if_pos z2]; rfl
          · rw [if_neg z2, if_neg z2]
            by_cases z3 : I' 94 (k + 1) ≠ 0
            · obtain ⟨t, t1, t2⟩ := (hrz (k + 1) (by omega) hk).mp z3
              rw [if_pos z3, show ((List.range' 0 n).any (fun q => I 70 q == nI (k + 1))) = true from List.any_eq_true.mpr ⟨t, by simp [t1], by simpa using t2⟩, if_neg (by decide)]
            · have hf : ((List.range' 0 n).any (fun q => I 70 q == nI (k + 1))) = false := by
                rw [List.any_eq_false]
                intro t t1 t2
                exact z3 ((hrz (k + 1) (by omega) hk).mpr ⟨t, by simpa using t1, by simpa using t2⟩)
              rw [if_neg z3, hf, if_pos (by rfl)]; rfl
    have hM : fX10_delete_5 (m' + 1) 75 (nI i) (I 42 5) (nI (k + 1)) (st I' v' J') = if I 54 (k + 1) = 0 then fX10_delete_5 m' 75 (nI i) (I 42 5) (nI k) (st I' v' J') else if asB sz lt (k + 1) s g = false then fX10_delete_5 m' 75 (nI i) (I 42 5) (nI k) (st I' v' J') else if I 42 5 = 0 then some (st (up (up I' 91 (k + 1) 0) 95 i (nI (k + 1))) v' J') else if I' 94 (k + 1) ≠ 0 then some (st I' v' J') else some (st (up (up I' 91 (k + 1) 0) 95 i (nI (k + 1))) v' J') := by
      conv => lhs; unfold fX10_delete_5
      rw [if_neg c2]
      simp only [bnd_x, gd_0, gd_1, gd_o0, gd_o1, ite_self, rf_75_1, rf_75_3, rf_75_12, rf_75_13, rf_75_14, rf_75_15, rf_75_16, rf_75_17, rf_75_18, rf_75_22, rf_75_23, rf_75_24, rf_75_25, rf_75_31, rf_75_32, rf_75_41, rf_75_42, rf_75_43, rf_75_44, rf_75_45, rf_75_46, rf_75_47, rf_75_48, rf_75_53, rf_75_54, rf_75_55, rf_75_57, c_75, i_75, w_75, z0_75, z1_75, qa_91 (show k + 1 < 601 by omega), am1, fX10_delete_27, e1, isOf_ok hO h.2.2.1 (show 1 ≤ k + 1 by omega) hk p1 (show i ≤ 300 by omega) p4 p5 p5' p5'', fX10_delete_33, fX10_delete_51, if_neg c3, qa_94 (show k + 1 < 601 by omega), uz_91 (show k + 1 < 601 by omega) (Or.inl rfl), ua_95 (show i < 301 by omega)]
      by_cases z1 : I 54 (k + 1) = 0
      · rw [if_pos z1, if_pos z1]
      · rw [if_neg z1, if_neg z1]
        cases asB sz lt (k + 1) s g with
        | false => rw [show b2 false = 0 from rfl, if_pos (rfl : (0 : Int32) = 0), if_pos (rfl : false = false)]
        | true =>
          rw [show b2 true = 1 from rfl, if_neg (show ¬ (1 : Int32) = 0 by decide), if_neg (show ¬ true = false by decide)]
          by_cases z2 : I 42 5 = 0
          · rw [if_pos z2, if_pos z2]
          · rw [if_neg z2, if_neg z2]
            by_cases z3 : I' 94 (k + 1) ≠ 0
            · rw [if_pos z3, if_neg z3]
            · rw [if_neg z3, if_pos (Classical.not_not.mp z3)]
    have hend : RJ (up (up I 54 (k + 1) 0) 51 i (nI (k + 1))) (up (up I' 91 (k + 1) 0) 95 i (nI (k + 1))) N sz lt ∧ RG (up (up I 54 (k + 1) 0) 51 i (nI (k + 1))) (up (up I' 91 (k + 1) 0) 95 i (nI (k + 1))) N ns ∧ (∀ a, a ≠ 51 → a ≠ 54 → (up (up I 54 (k + 1) 0) 51 i (nI (k + 1))) a = I a) ∧ (∀ a, a ≠ 91 → a ≠ 95 → (up (up I' 91 (k + 1) 0) 95 i (nI (k + 1))) a = I' a) := by
      refine ⟨?_, ?_, fun a a1 a2 => by rw [up_ne a1, up_ne a2], fun a a1 a2 => by rw [up_ne a2, up_ne a1]⟩
      · apply RJ_am h
        · intro a ha; rw [up_ne (fun q => by subst q; exact absurd ha (by decide)), up_ne (fun q => by subst q; exact absurd ha (by decide))]
        · intro j _; rw [up_ne (by decide), up_ne (by decide)]
        · intro a ha; rw [up_ne (fun q => by subst q; exact absurd ha (by decide)), up_ne (fun q => by subst q; exact absurd ha (by decide))]
        · intro j _; rw [up_ne (by decide), up_ne (by decide)]
        · intro q q1 q2
          obtain ⟨x1, x2, x3, x4⟩ := hA q q1 q2
          rw [up_ne (show (54 : Nat) ≠ 51 by decide), up_ne (show (56 : Nat) ≠ 51 by decide), up_ne (show (56 : Nat) ≠ 54 by decide), up_ne (show (91 : Nat) ≠ 95 by decide), up_ne (show (92 : Nat) ≠ 95 by decide), up_ne (show (92 : Nat) ≠ 91 by decide), up_at, up_at]
          by_cases e : q = k + 1
          · subst e; rw [vup_s, vup_s]; exact ⟨rfl, x2, Or.inl rfl, x4⟩
          · rw [vup_n e, vup_n e]; exact ⟨x1, x2, x3, x4⟩
        · exact HR_fr h.2.2.2.2.2.2.2.2 (by rw [up_ne (by decide), up_ne (by decide)]) (by rw [up_ne (by decide), up_ne (by decide)]) (by rw [up_ne (by decide), up_ne (by decide)]) (by rw [up_ne (by decide), up_ne (by decide)]) (by rw [up_ne (by decide), up_ne (by decide)]) (by rw [up_ne (by decide), up_ne (by decide)]) (by rw [up_ne (by decide), up_ne (by decide)]) (by rw [up_ne (by decide), up_ne (by decide)])
      · intro q q1 q2
        rw [up_at, up_at, up_ne (show (51 : Nat) ≠ 54 by decide), up_ne (show (95 : Nat) ≠ 91 by decide)]
        by_cases e : q = i
        · subst e; exact ⟨k + 1, hk, vup_s .., vup_s ..⟩
        · rw [vup_n e, vup_n e]; exact hG q q1 q2
    rw [hC, hM]
    split
    · exact ⟨I1, I2, f1, f2, f3⟩
    · split
      · exact ⟨I1, I2, f1, f2, f3⟩
      · split
        · exact ⟨_, _, rfl, rfl, hend⟩
        · split
          · exact ⟨_, _, rfl, rfl, h, hG, fun _ _ _ => rfl, fun _ _ _ => rfl⟩
          · exact ⟨_, _, rfl, rfl, hend⟩
theorem remove_lock {v v' : zV} {J J' : Nat → Nat → Int64} (hO : OKD N sz lt) {I I' : Nat → Nat → Int32} (h : RJ I I' N sz lt) {ns : Nat} (hS : STAT I I' v.2.2.2.2.2.2 N sz lt ns) (hZ : RZ I I' N) (hG : RG I I' N ns) {i : Nat} (i1 : 1 ≤ i) (i2 : i ≤ ns) :
    ∃ I1 I2, fX3_remove 42 (nI i) (st I v J) = some (st I1 v J) ∧ fX10_delete 75 (nI i) (I 42 5) (st I' v' J') = some (st I2 v' J') ∧ RJ I1 I2 N sz lt ∧ RG I1 I2 N ns ∧ (∀ a, a ≠ 51 → a ≠ 54 → I1 a = I a) ∧ (∀ a, a ≠ 91 → a ≠ 95 → I2 a = I' a) := by
  have hN := hO.1
  have hz := zfu_big
  obtain ⟨I1, I2, f1, f2, f3⟩ := remove_loop (v := v) (v' := v') (J := J) (J' := J') hO h hS hZ hG i1 i2 N zfu zfu (Nat.le_refl _) (by omega) (by omega)
  refine ⟨I1, I2, ?_, ?_, f3⟩
  · unfold fX3_remove
    simp only [bnd_x, gd_0, gd_1, gd_o0, gd_o1, ite_self, rf_1_0, rf_1_1, rf_1_5, rf_1_6, rf_1_7, rf_2_0, rf_4_0, rf_6_0, rf_6_1, rf_6_2, rf_7_0, rf_9_0, rf_11_0, rf_13_0, rf_13_1, rf_13_2, rf_14_0, rf_16_0, rf_18_0, rf_20_0, rf_20_1, rf_20_2, rf_21_0, rf_23_0, rf_25_0, rf_27_0, rf_29_0, rf_29_1, rf_29_2, rf_29_3, rf_29_4, rf_29_5, rf_30_0, rf_32_0, rf_34_0, rf_36_0, rf_38_0, rf_40_0, rf_42_0, rf_42_1, rf_42_2, rf_42_3, rf_43_0, rf_43_1, rf_43_2, rf_44_0, rf_46_0, rf_48_0, rf_50_0, rf_52_0, rf_52_1, rf_52_2, rf_52_3, rf_52_4, rf_52_5, rf_52_6, rf_52_7, rf_52_8, rf_52_9, rf_52_10, rf_52_11, rf_53_0, rf_55_0, rf_57_0, rf_59_0, rf_61_0, rf_63_0, rf_65_0, rf_67_0, rf_69_0, rf_71_0, rf_73_0, a_7, p_7, f_7, c_7, a_9, p_9, f_9, c_9, a_11, p_11, f_11, c_11, a_14, p_14, f_14, c_14, a_16, p_16, f_16, c_16, a_18, p_18, f_18, c_18, a_21, p_21, f_21, c_21, a_23, p_23, f_23, c_23, a_25, p_25, f_25, c_25, a_30, p_30, f_30, c_30, a_32, p_32, f_32, c_32, a_34, p_34, f_34, c_34, a_36, p_36, f_36, c_36, a_38, p_38, f_38, c_38, a_40, p_40, f_40, c_40, a_44, p_44, f_44, c_44, a_46, p_46, f_46, c_46, a_48, p_48, f_48, c_48, a_50, p_50, f_50, c_50, a_53, p_53, f_53, c_53, a_55, p_55, f_55, c_55, a_57, p_57, f_57, c_57, a_59, p_59, f_59, c_59, a_61, p_61, f_61, c_61, a_63, p_63, f_63, c_63, a_65, p_65, f_65, c_65, a_67, p_67, f_67, c_67, a_69, p_69, f_69, c_69, a_71, p_71, f_71, c_71, a_73, p_73, f_73, c_73, c_1, i_1, w_1, z0_1, z1_1, c_2, i_2, w_2, z0_2, z1_2, c_4, i_4, w_4, z0_4, z1_4, c_6, i_6, w_6, z0_6, z1_6, c_13, i_13, w_13, z0_13, z1_13, c_20, i_20, w_20, z0_20, z1_20, c_27, i_27, w_27, z0_27, z1_27, c_28, i_28, w_28, z0_28, z1_28, c_29, i_29, w_29, z0_29, z1_29, c_42, i_42, w_42, z0_42, z1_42, c_43, i_43, w_43, z0_43, z1_43, c_52, i_52, w_52, z0_52, z1_52, X1_size, X1_literal, X1_numberOfStep, X1_ofFormula, X1_inAll, X1_user, X9_codeOf, X1_firstUse, X1_endOfUses, X2_open, X2_at, X2_add, X2_drop, X2_clear, X4_fuelLeft, X4_isActive, X4_isMarked, X4_mark, X4_usedCount, X4_usedAt, X4_setActive, X4_forget, X4_truthOf, h.1.1]
    exact f1
  · unfold fX10_delete
    simp only [bnd_x, gd_0, gd_1, gd_o0, gd_o1, ite_self, rf_75_1, rf_75_3, rf_75_12, rf_75_13, rf_75_14, rf_75_15, rf_75_16, rf_75_17, rf_75_18, rf_75_22, rf_75_23, rf_75_24, rf_75_25, rf_75_31, rf_75_32, rf_75_41, rf_75_42, rf_75_43, rf_75_44, rf_75_45, rf_75_46, rf_75_47, rf_75_48, rf_75_53, rf_75_54, rf_75_55, rf_75_57, c_75, i_75, w_75, z0_75, z1_75, h.2.2.1.1]
    exact f2
end
