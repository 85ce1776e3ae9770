/-! The clauses as a table: N of them, sizes sz, literals lt. What the class holds of it. -/
theorem zfu_big : 99999 < zfu := by decide
def hs (sz : Nat → Nat) (lt : Nat → Nat → Int32) (k : Nat) (l : Int32) : Bool := (List.range (sz k)).any (fun j => lt k j == l)
theorem hs_i {sz : Nat → Nat} {lt : Nat → Nat → Int32} {k : Nat} {l : Int32} : hs sz lt k l = true ↔ ∃ j, j < sz k ∧ lt k j = l := by
  simp [hs, List.any_eq_true]
def ul (N : Nat) (sz : Nat → Nat) (lt : Nat → Nat → Int32) (l : Int32) : List Nat := (List.range' 1 N).filter (fun k => hs sz lt k l)
theorem ul_m {N : Nat} {sz : Nat → Nat} {lt : Nat → Nat → Int32} {l : Int32} {k : Nat} : k ∈ ul N sz lt l ↔ (1 ≤ k ∧ k ≤ N) ∧ hs sz lt k l = true := by
  simp only [ul, List.mem_filter, List.mem_range'_1]
  constructor
  · rintro ⟨⟨a, b⟩, c⟩; exact ⟨⟨a, by omega⟩, c⟩
  · rintro ⟨⟨a, b⟩, c⟩; exact ⟨⟨a, by omega⟩, c⟩
theorem ul_nd {N : Nat} {sz : Nat → Nat} {lt : Nat → Nat → Int32} {l : Int32} : (ul N sz lt l).Nodup := List.Pairwise.filter _ (List.nodup_range' (step := 1))
def OKD (N : Nat) (sz : Nat → Nat) (lt : Nat → Nat → Int32) : Prop := N ≤ 600 ∧ ∀ k, 1 ≤ k → k ≤ N → sz k ≤ 40 ∧ (∀ j, j < sz k → isL (lt k j)) ∧ (∀ i j, i < j → j < sz k → lt k i ≠ lt k j)
def DBC (I : Nat → Nat → Int32) (N : Nat) (sz : Nat → Nat) (lt : Nat → Nat → Int32) : Prop :=
  I 29 9 = nI N ∧ (∀ k, 1 ≤ k → k ≤ N → clSize I (nI k) = nI (sz k)) ∧ (∀ k j, 1 ≤ k → k ≤ N → j < sz k → clLit I (nI k) (nI j) = lt k j)
def USC (I : Nat → Nat → Int32) (N : Nat) (sz : Nat → Nat) (lt : Nat → Nat → Int32) : Prop :=
  ∀ l, isL l → ∃ a, rd I 38 (codeOf l) = nI a ∧ rd I 40 (codeOf l) = nI (a + (ul N sz lt l).length) ∧ a + (ul N sz lt l).length ≤ 4000 ∧ ∀ i, i < (ul N sz lt l).length → I 37 (a + i) = nI ((ul N sz lt l).getD i 0)
theorem rd_fr {I I' : Nat → Nat → Int32} {r : Nat} (h : I' (r + 1) = I (r + 1)) (p : Int32) : rd I' r p = rd I r p := by
  unfold rd; rw [h]
theorem DBC_fr {I I' : Nat → Nat → Int32} {N : Nat} {sz : Nat → Nat} {lt : Nat → Nat → Int32} (h : DBC I N sz lt) (h1 : I' 29 = I 29) (h2 : I' 31 = I 31) (h3 : I' 33 = I 33) : DBC I' N sz lt := by
  have e1 : ∀ p, rd I' 32 p = rd I 32 p := rd_fr h3
  have e2 : ∀ p, rd I' 30 p = rd I 30 p := rd_fr h2
  have e3 : ∀ p, clSize I' p = clSize I p := by
    intro p; unfold clSize; rw [e1, e1]
  refine ⟨by rw [h1]; exact h.1, fun k a b => ?_, fun k j a b c => ?_⟩
  · rw [← h.2.1 k a b]
    exact e3 _
  · rw [← h.2.2 k j a b c]
    unfold clLit
    rw [e3, e1, e2]
theorem USC_fr {I I' : Nat → Nat → Int32} {N : Nat} {sz : Nat → Nat} {lt : Nat → Nat → Int32} (h : USC I N sz lt) (h1 : I' 37 = I 37) (h2 : I' 39 = I 39) (h3 : I' 41 = I 41) : USC I' N sz lt := by
  intro l hl
  obtain ⟨a, b, c, d, e⟩ := h l hl
  refine ⟨a, by rw [rd_fr h2]; exact b, by rw [rd_fr h3]; exact c, d, fun i hi => by rw [h1]; exact e i hi⟩
/-- satisfied; literals that are not false -/
def sat (V : Nat → Int32) (sz : Nat → Nat) (lt : Nat → Nat → Int32) (k : Nat) : Prop := ∃ j, j < sz k ∧ tv V (lt k j) = 1
def lf (V : Nat → Int32) (sz : Nat → Nat) (lt : Nat → Nat → Int32) (k : Nat) : Nat := cn (fun j => !(tv V (lt k j) == -1)) (sz k)
theorem lf_le {V : Nat → Int32} {sz : Nat → Nat} {lt : Nat → Nat → Int32} {k : Nat} : lf V sz lt k ≤ sz k := cn_le _ _
theorem vup_back {V : Nat → Int32} {l : Int32} (h : tv V l = 1) : vup (vup V (av l) 0) (av l) (sg l) = V := by
  funext z
  unfold vup
  by_cases e : z = av l
  · rw [if_pos e, e]
    unfold tv at h
    unfold sg
    split at h
    · rename_i q; rw [if_pos q, ← h, Int32.neg_neg]
    · rename_i q; rw [if_neg q, ← h]
  · rw [if_neg e, if_neg e]
theorem tv_0 {V : Nat → Int32} {l : Int32} : tv (vup V (av l) 0) l = 0 := by
  unfold tv vup
  rw [if_pos rfl]; split <;> rfl
theorem tv_00 {V : Nat → Int32} {l : Int32} (h : V (av l) = 0) : tv V l = 0 := by
  unfold tv; rw [h]; split <;> rfl
theorem tv_i0 {V : Nat → Int32} {l : Int32} (h : tv V l = 0) : V (av l) = 0 := by
  unfold tv at h
  split at h
  · rw [← Int32.neg_neg (a := V (av l)), h]; rfl
  · exact h
section
variable {I : Nat → Nat → Int32} {v : zV} {J : Nat → Nat → Int64} {N : Nat} {sz : Nat → Nat} {lt : Nat → Nat → Int32}
theorem lf_up {V : Nat → Int32} (hO : OKD N sz lt) {k : Nat} (k1 : 1 ≤ k) (k2 : k ≤ N) {l : Int32} (hl : isL l) (h0 : tv V l = 0) :
    (hs sz lt k (-l) = true → lf V sz lt k = lf (vup V (av l) (sg l)) sz lt k + 1) ∧ (hs sz lt k (-l) = false → lf (vup V (av l) (sg l)) sz lt k = lf V sz lt k) := by
  obtain ⟨-, hlit, hnd⟩ := hO.2 k k1 k2
  have hn0 : tv V (-l) = 0 := by rw [tv_neg hl, h0]; rfl
  constructor
  · intro h
    obtain ⟨j0, hj0, ej0⟩ := hs_i.mp h
    unfold lf
    apply cn_one hj0
    · simp [ej0, hn0]
    · show (!(tv (vup V (av l) (sg l)) (lt k j0) == -1)) = false
      rw [ej0, tv_up hl (L_neg hl), if_neg (fun q => L_ne hl q.symm), if_pos rfl]; rfl
    · intro i hi hne
      show (!(tv V (lt k i) == -1)) = (!(tv (vup V (av l) (sg l)) (lt k i) == -1))
      rw [tv_up hl (hlit i hi)]
      have hne2 : lt k i ≠ -l := by
        rw [← ej0]
        rcases Nat.lt_or_gt_of_ne hne with q | q
        · exact hnd i j0 q hj0
        · exact fun e => hnd j0 i q hi e.symm
      by_cases e : lt k i = l
      · rw [if_pos e, e, h0]; rfl
      · rw [if_neg e, if_neg hne2]
  · intro h
    unfold lf
    apply cn_congr
    intro i hi
    show (!(tv (vup V (av l) (sg l)) (lt k i) == -1)) = (!(tv V (lt k i) == -1))
    rw [tv_up hl (hlit i hi)]
    have hne2 : lt k i ≠ -l := by
      intro e
      have := hs_i.mpr ⟨i, hi, e⟩
      rw [h] at this
      exact Bool.noConfusion this
    by_cases e : lt k i = l
    · rw [if_pos e, e, h0]; rfl
    · rw [if_neg e, if_neg hne2]
theorem truth_tv {l : Int32} (h : isL l) : truth I l = tv (I 64) l := by
  have := L_av h
  unfold truth tv
  rw [L_zab h, rd_63 (by omega)]
/-- isSatisfied -/
theorem le0 {x : Int32} (h : x = 0 ∨ x = 1 ∨ x = -1) (h1 : x ≠ 1) : x ≤ 0 := by
  rcases h with q | q | q
  · rw [q]; decide
  · exact absurd q h1
  · rw [q]; decide
theorem sat_loop (hO : OKD N sz lt) (hD : DBC I N sz lt) (hV : vv (I 64)) {k : Nat} (k1 : 1 ≤ k) (k2 : k ≤ N) : ∀ (d j n : Nat), j + d = sz k → d < n → (∀ i, i < j → tv (I 64) (lt k i) ≠ 1) →
    ∃ r, fX4_isSatisfied_11 n 52 (nI k) (nI (sz k)) (nI j) (st I v J) = some (r, st I v J) ∧ ((r = 0 ∧ ¬ sat (I 64) sz lt k) ∨ (r = 1 ∧ sat (I 64) sz lt k)) := by
  obtain ⟨hs40, hlit, -⟩ := hO.2 k k1 k2
  intro d
  induction d with
  | zero =>
    intro j n hj hn hx
    obtain ⟨n, rfl⟩ : ∃ m, n = m + 1 := ⟨n - 1, by omega⟩
    refine ⟨0, ?_, Or.inl ⟨rfl, ?_⟩⟩
    · unfold fX4_isSatisfied_11
      simp only [if_pos (nI_le (show sz k ≤ j by omega) (by omega)), bnd_x, gd_0, gd_1, gd_o0, gd_o1, ite_self, rf_1_0, rf_1_1, rf_1_5, rf_1_6, rf_1_7, rf_2_0, rf_4_0, rf_6_0, rf_6_1, rf_6_2, rf_7_0, rf_9_0, rf_11_0, rf_13_0, rf_13_1, rf_13_2, rf_14_0, rf_16_0, rf_18_0, rf_20_0, rf_20_1, rf_20_2, rf_21_0, rf_23_0, rf_25_0, rf_27_0, rf_29_0, rf_29_1, rf_29_2, rf_29_3, rf_29_4, rf_29_5, rf_30_0, rf_32_0, rf_34_0, rf_36_0, rf_38_0, rf_40_0, rf_42_0, rf_42_1, rf_42_2, rf_42_3, rf_43_0, rf_43_1, rf_43_2, rf_44_0, rf_46_0, rf_48_0, rf_50_0, rf_52_0, rf_52_1, rf_52_2, rf_52_3, rf_52_4, rf_52_5, rf_52_6, rf_52_7, rf_52_8, rf_52_9, rf_52_10, rf_52_11, rf_53_0, rf_55_0, rf_57_0, rf_59_0, rf_61_0, rf_63_0, rf_65_0, rf_67_0, rf_69_0, rf_71_0, rf_73_0, a_7, p_7, f_7, c_7, a_9, p_9, f_9, c_9, a_11, p_11, f_11, c_11, a_14, p_14, f_14, c_14, a_16, p_16, f_16, c_16, a_18, p_18, f_18, c_18, a_21, p_21, f_21, c_21, a_23, p_23, f_23, c_23, a_25, p_25, f_25, c_25, a_30, p_30, f_30, c_30, a_32, p_32, f_32, c_32, a_34, p_34, f_34, c_34, a_36, p_36, f_36, c_36, a_38, p_38, f_38, c_38, a_40, p_40, f_40, c_40, a_44, p_44, f_44, c_44, a_46, p_46, f_46, c_46, a_48, p_48, f_48, c_48, a_50, p_50, f_50, c_50, a_53, p_53, f_53, c_53, a_55, p_55, f_55, c_55, a_57, p_57, f_57, c_57, a_59, p_59, f_59, c_59, a_61, p_61, f_61, c_61, a_63, p_63, f_63, c_63, a_65, p_65, f_65, c_65, a_67, p_67, f_67, c_67, a_69, p_69, f_69, c_69, a_71, p_71, f_71, c_71, a_73, p_73, f_73, c_73, c_1, i_1, w_1, z0_1, z1_1, c_2, i_2, w_2, z0_2, z1_2, c_4, i_4, w_4, z0_4, z1_4, c_6, i_6, w_6, z0_6, z1_6, c_13, i_13, w_13, z0_13, z1_13, c_20, i_20, w_20, z0_20, z1_20, c_27, i_27, w_27, z0_27, z1_27, c_28, i_28, w_28, z0_28, z1_28, c_29, i_29, w_29, z0_29, z1_29, c_42, i_42, w_42, z0_42, z1_42, c_43, i_43, w_43, z0_43, z1_43, c_52, i_52, w_52, z0_52, z1_52, X1_size, X1_literal, X1_numberOfStep, X1_ofFormula, X1_inAll, X1_user, X9_codeOf, X1_firstUse, X1_endOfUses, X2_open, X2_at, X2_add, X2_drop, X2_clear, X4_fuelLeft, X4_isActive, X4_isMarked, X4_mark, X4_usedCount, X4_usedAt, X4_setActive, X4_forget, X4_truthOf]
    · rintro ⟨i, hi, e⟩
      exact hx i (by omega) e
  | succ d ih =>
    intro j n hj hn hx
    obtain ⟨n, rfl⟩ : ∃ m, n = m + 1 := ⟨n - 1, by omega⟩
    have hl := hlit j (by omega)
    unfold fX4_isSatisfied_11
    rw [if_neg (nI_ge (by omega) (by omega))]
    simp only [bnd_x, gd_0, gd_1, gd_o0, gd_o1, ite_self, rf_1_0, rf_1_1, rf_1_5, rf_1_6, rf_1_7, rf_2_0, rf_4_0, rf_6_0, rf_6_1, rf_6_2, rf_7_0, rf_9_0, rf_11_0, rf_13_0, rf_13_1, rf_13_2, rf_14_0, rf_16_0, rf_18_0, rf_20_0, rf_20_1, rf_20_2, rf_21_0, rf_23_0, rf_25_0, rf_27_0, rf_29_0, rf_29_1, rf_29_2, rf_29_3, rf_29_4, rf_29_5, rf_30_0, rf_32_0, rf_34_0, rf_36_0, rf_38_0, rf_40_0, rf_42_0, rf_42_1, rf_42_2, rf_42_3, rf_43_0, rf_43_1, rf_43_2, rf_44_0, rf_46_0, rf_48_0, rf_50_0, rf_52_0, rf_52_1, rf_52_2, rf_52_3, rf_52_4, rf_52_5, rf_52_6, rf_52_7, rf_52_8, rf_52_9, rf_52_10, rf_52_11, rf_53_0, rf_55_0, rf_57_0, rf_59_0, rf_61_0, rf_63_0, rf_65_0, rf_67_0, rf_69_0, rf_71_0, rf_73_0, a_7, p_7, f_7, c_7, a_9, p_9, f_9, c_9, a_11, p_11, f_11, c_11, a_14, p_14, f_14, c_14, a_16, p_16, f_16, c_16, a_18, p_18, f_18, c_18, a_21, p_21, f_21, c_21, a_23, p_23, f_23, c_23, a_25, p_25, f_25, c_25, a_30, p_30, f_30, c_30, a_32, p_32, f_32, c_32, a_34, p_34, f_34, c_34, a_36, p_36, f_36, c_36, a_38, p_38, f_38, c_38, a_40, p_40, f_40, c_40, a_44, p_44, f_44, c_44, a_46, p_46, f_46, c_46, a_48, p_48, f_48, c_48, a_50, p_50, f_50, c_50, a_53, p_53, f_53, c_53, a_55, p_55, f_55, c_55, a_57, p_57, f_57, c_57, a_59, p_59, f_59, c_59, a_61, p_61, f_61, c_61, a_63, p_63, f_63, c_63, a_65, p_65, f_65, c_65, a_67, p_67, f_67, c_67, a_69, p_69, f_69, c_69, a_71, p_71, f_71, c_71, a_73, p_73, f_73, c_73, c_1, i_1, w_1, z0_1, z1_1, c_2, i_2, w_2, z0_2, z1_2, c_4, i_4, w_4, z0_4, z1_4, c_6, i_6, w_6, z0_6, z1_6, c_13, i_13, w_13, z0_13, z1_13, c_20, i_20, w_20, z0_20, z1_20, c_27, i_27, w_27, z0_27, z1_27, c_28, i_28, w_28, z0_28, z1_28, c_29, i_29, w_29, z0_29, z1_29, c_42, i_42, w_42, z0_42, z1_42, c_43, i_43, w_43, z0_43, z1_43, c_52, i_52, w_52, z0_52, z1_52, X1_size, X1_literal, X1_numberOfStep, X1_ofFormula, X1_inAll, X1_user, X9_codeOf, X1_firstUse, X1_endOfUses, X2_open, X2_at, X2_add, X2_drop, X2_clear, X4_fuelLeft, X4_isActive, X4_isMarked, X4_mark, X4_usedCount, X4_usedAt, X4_setActive, X4_forget, X4_truthOf]
    rw [hD.2.2 k j k1 k2 (by omega), truth_tv hl]
    by_cases e : tv (I 64) (lt k j) = 1
    · refine ⟨1, ?_, Or.inr ⟨rfl, j, by omega, e⟩⟩
      rw [e, if_neg (by decide)]
    · rw [if_pos (le0 (tv_v hV hl) e), nI_1]
      exact ih (j + 1) n (by omega) (by omega) (fun i hi => by
        by_cases q : i = j
        · rw [q]; exact e
        · exact hx i (by omega))
theorem sat_ok (hO : OKD N sz lt) (hD : DBC I N sz lt) (hV : vv (I 64)) {k : Nat} (k1 : 1 ≤ k) (k2 : k ≤ N) :
    ∃ r, fX4_isSatisfied 52 (nI k) (st I v J) = some (r, st I v J) ∧ ((r = 0 ∧ ¬ sat (I 64) sz lt k) ∨ (r = 1 ∧ sat (I 64) sz lt k)) := by
  have h40 := (hO.2 k k1 k2).1
  simp only [fX4_isSatisfied, bnd_x, gd_0, gd_1, gd_o0, gd_o1, ite_self, rf_1_0, rf_1_1, rf_1_5, rf_1_6, rf_1_7, rf_2_0, rf_4_0, rf_6_0, rf_6_1, rf_6_2, rf_7_0, rf_9_0, rf_11_0, rf_13_0, rf_13_1, rf_13_2, rf_14_0, rf_16_0, rf_18_0, rf_20_0, rf_20_1, rf_20_2, rf_21_0, rf_23_0, rf_25_0, rf_27_0, rf_29_0, rf_29_1, rf_29_2, rf_29_3, rf_29_4, rf_29_5, rf_30_0, rf_32_0, rf_34_0, rf_36_0, rf_38_0, rf_40_0, rf_42_0, rf_42_1, rf_42_2, rf_42_3, rf_43_0, rf_43_1, rf_43_2, rf_44_0, rf_46_0, rf_48_0, rf_50_0, rf_52_0, rf_52_1, rf_52_2, rf_52_3, rf_52_4, rf_52_5, rf_52_6, rf_52_7, rf_52_8, rf_52_9, rf_52_10, rf_52_11, rf_53_0, rf_55_0, rf_57_0, rf_59_0, rf_61_0, rf_63_0, rf_65_0, rf_67_0, rf_69_0, rf_71_0, rf_73_0, a_7, p_7, f_7, c_7, a_9, p_9, f_9, c_9, a_11, p_11, f_11, c_11, a_14, p_14, f_14, c_14, a_16, p_16, f_16, c_16, a_18, p_18, f_18, c_18, a_21, p_21, f_21, c_21, a_23, p_23, f_23, c_23, a_25, p_25, f_25, c_25, a_30, p_30, f_30, c_30, a_32, p_32, f_32, c_32, a_34, p_34, f_34, c_34, a_36, p_36, f_36, c_36, a_38, p_38, f_38, c_38, a_40, p_40, f_40, c_40, a_44, p_44, f_44, c_44, a_46, p_46, f_46, c_46, a_48, p_48, f_48, c_48, a_50, p_50, f_50, c_50, a_53, p_53, f_53, c_53, a_55, p_55, f_55, c_55, a_57, p_57, f_57, c_57, a_59, p_59, f_59, c_59, a_61, p_61, f_61, c_61, a_63, p_63, f_63, c_63, a_65, p_65, f_65, c_65, a_67, p_67, f_67, c_67, a_69, p_69, f_69, c_69, a_71, p_71, f_71, c_71, a_73, p_73, f_73, c_73, c_1, i_1, w_1, z0_1, z1_1, c_2, i_2, w_2, z0_2, z1_2, c_4, i_4, w_4, z0_4, z1_4, c_6, i_6, w_6, z0_6, z1_6, c_13, i_13, w_13, z0_13, z1_13, c_20, i_20, w_20, z0_20, z1_20, c_27, i_27, w_27, z0_27, z1_27, c_28, i_28, w_28, z0_28, z1_28, c_29, i_29, w_29, z0_29, z1_29, c_42, i_42, w_42, z0_42, z1_42, c_43, i_43, w_43, z0_43, z1_43, c_52, i_52, w_52, z0_52, z1_52, X1_size, X1_literal, X1_numberOfStep, X1_ofFormula, X1_inAll, X1_user, X9_codeOf, X1_firstUse, X1_endOfUses, X2_open, X2_at, X2_add, X2_drop, X2_clear, X4_fuelLeft, X4_isActive, X4_isMarked, X4_mark, X4_usedCount, X4_usedAt, X4_setActive, X4_forget, X4_truthOf]
  rw [hD.2.1 k k1 k2]
  have hz := zfu_big
  have q := sat_loop (v := v) (J := J) hO hD hV k1 k2 (sz k) 0 zfu (by omega) (by omega) (fun i hi => by omega)
  rw [nI_0] at q
  exact q
/-- openLiteral -/
theorem open_loop (hO : OKD N sz lt) (hD : DBC I N sz lt) {k : Nat} (k1 : 1 ≤ k) (k2 : k ≤ N) : ∀ (d j n : Nat), j + d = sz k → d < n → (∀ i, i < j → tv (I 64) (lt k i) ≠ 0) →
    ∃ r, fX4_openLiteral_11 n 52 (nI k) (nI (sz k)) (nI j) (st I v J) = some (r, st I v J) ∧ ((r = 0 ∧ ∀ j, j < sz k → tv (I 64) (lt k j) ≠ 0) ∨ (∃ j, j < sz k ∧ r = lt k j ∧ tv (I 64) (lt k j) = 0)) := by
  obtain ⟨hs40, hlit, -⟩ := hO.2 k k1 k2
  intro d
  induction d with
  | zero =>
    intro j n hj hn hx
    obtain ⟨n, rfl⟩ : ∃ m, n = m + 1 := ⟨n - 1, by omega⟩
    refine ⟨0, ?_, Or.inl ⟨rfl, fun i hi => hx i (by omega)⟩⟩
    unfold fX4_openLiteral_11
    simp only [if_pos (nI_le (show sz k ≤ j by omega) (by omega)), bnd_x, gd_0, gd_1, gd_o0, gd_o1, ite_self, rf_1_0, rf_1_1, rf_1_5, rf_1_6, rf_1_7, rf_2_0, rf_4_0, rf_6_0, rf_6_1, rf_6_2, rf_7_0, rf_9_0, rf_11_0, rf_13_0, rf_13_1, rf_13_2, rf_14_0, rf_16_0, rf_18_0, rf_20_0, rf_20_1, rf_20_2, rf_21_0, rf_23_0, rf_25_0, rf_27_0, rf_29_0, rf_29_1, rf_29_2, rf_29_3, rf_29_4, rf_29_5, rf_30_0, rf_32_0, rf_34_0, rf_36_0, rf_38_0, rf_40_0, rf_42_0, rf_42_1, rf_42_2, rf_42_3, rf_43_0, rf_43_1, rf_43_2, rf_44_0, rf_46_0, rf_48_0, rf_50_0, rf_52_0, rf_52_1, rf_52_2, rf_52_3, rf_52_4, rf_52_5, rf_52_6, rf_52_7, rf_52_8, rf_52_9, rf_52_10, rf_52_11, rf_53_0, rf_55_0, rf_57_0, rf_59_0, rf_61_0, rf_63_0, rf_65_0, rf_67_0, rf_69_0, rf_71_0, rf_73_0, a_7, p_7, f_7, c_7, a_9, p_9, f_9, c_9, a_11, p_11, f_11, c_11, a_14, p_14, f_14, c_14, a_16, p_16, f_16, c_16, a_18, p_18, f_18, c_18, a_21, p_21, f_21, c_21, a_23, p_23, f_23, c_23, a_25, p_25, f_25, c_25, a_30, p_30, f_30, c_30, a_32, p_32, f_32, c_32, a_34, p_34, f_34, c_34, a_36, p_36, f_36, c_36, a_38, p_38, f_38, c_38, a_40, p_40, f_40, c_40, a_44, p_44, f_44, c_44, a_46, p_46, f_46, c_46, a_48, p_48, f_48, c_48, a_50, p_50, f_50, c_50, a_53, p_53, f_53, c_53, a_55, p_55, f_55, c_55, a_57, p_57, f_57, c_57, a_59, p_59, f_59, c_59, a_61, p_61, f_61, c_61, a_63, p_63, f_63, c_63, a_65, p_65, f_65, c_65, a_67, p_67, f_67, c_67, a_69, p_69, f_69, c_69, a_71, p_71, f_71, c_71, a_73, p_73, f_73, c_73, c_1, i_1, w_1, z0_1, z1_1, c_2, i_2, w_2, z0_2, z1_2, c_4, i_4, w_4, z0_4, z1_4, c_6, i_6, w_6, z0_6, z1_6, c_13, i_13, w_13, z0_13, z1_13, c_20, i_20, w_20, z0_20, z1_20, c_27, i_27, w_27, z0_27, z1_27, c_28, i_28, w_28, z0_28, z1_28, c_29, i_29, w_29, z0_29, z1_29, c_42, i_42, w_42, z0_42, z1_42, c_43, i_43, w_43, z0_43, z1_43, c_52, i_52, w_52, z0_52, z1_52, X1_size, X1_literal, X1_numberOfStep, X1_ofFormula, X1_inAll, X1_user, X9_codeOf, X1_firstUse, X1_endOfUses, X2_open, X2_at, X2_add, X2_drop, X2_clear, X4_fuelLeft, X4_isActive, X4_isMarked, X4_mark, X4_usedCount, X4_usedAt, X4_setActive, X4_forget, X4_truthOf]
  | succ d ih =>
    intro j n hj hn hx
    obtain ⟨n, rfl⟩ : ∃ m, n = m + 1 := ⟨n - 1, by omega⟩
    have hl := hlit j (by omega)
    unfold fX4_openLiteral_11
    rw [if_neg (nI_ge (by omega) (by omega))]
    simp only [bnd_x, gd_0, gd_1, gd_o0, gd_o1, ite_self, rf_1_0, rf_1_1, rf_1_5, rf_1_6, rf_1_7, rf_2_0, rf_4_0, rf_6_0, rf_6_1, rf_6_2, rf_7_0, rf_9_0, rf_11_0, rf_13_0, rf_13_1, rf_13_2, rf_14_0, rf_16_0, rf_18_0, rf_20_0, rf_20_1, rf_20_2, rf_21_0, rf_23_0, rf_25_0, rf_27_0, rf_29_0, rf_29_1, rf_29_2, rf_29_3, rf_29_4, rf_29_5, rf_30_0, rf_32_0, rf_34_0, rf_36_0, rf_38_0, rf_40_0, rf_42_0, rf_42_1, rf_42_2, rf_42_3, rf_43_0, rf_43_1, rf_43_2, rf_44_0, rf_46_0, rf_48_0, rf_50_0, rf_52_0, rf_52_1, rf_52_2, rf_52_3, rf_52_4, rf_52_5, rf_52_6, rf_52_7, rf_52_8, rf_52_9, rf_52_10, rf_52_11, rf_53_0, rf_55_0, rf_57_0, rf_59_0, rf_61_0, rf_63_0, rf_65_0, rf_67_0, rf_69_0, rf_71_0, rf_73_0, a_7, p_7, f_7, c_7, a_9, p_9, f_9, c_9, a_11, p_11, f_11, c_11, a_14, p_14, f_14, c_14, a_16, p_16, f_16, c_16, a_18, p_18, f_18, c_18, a_21, p_21, f_21, c_21, a_23, p_23, f_23, c_23, a_25, p_25, f_25, c_25, a_30, p_30, f_30, c_30, a_32, p_32, f_32, c_32, a_34, p_34, f_34, c_34, a_36, p_36, f_36, c_36, a_38, p_38, f_38, c_38, a_40, p_40, f_40, c_40, a_44, p_44, f_44, c_44, a_46, p_46, f_46, c_46, a_48, p_48, f_48, c_48, a_50, p_50, f_50, c_50, a_53, p_53, f_53, c_53, a_55, p_55, f_55, c_55, a_57, p_57, f_57, c_57, a_59, p_59, f_59, c_59, a_61, p_61, f_61, c_61, a_63, p_63, f_63, c_63, a_65, p_65, f_65, c_65, a_67, p_67, f_67, c_67, a_69, p_69, f_69, c_69, a_71, p_71, f_71, c_71, a_73, p_73, f_73, c_73, c_1, i_1, w_1, z0_1, z1_1, c_2, i_2, w_2, z0_2, z1_2, c_4, i_4, w_4, z0_4, z1_4, c_6, i_6, w_6, z0_6, z1_6, c_13, i_13, w_13, z0_13, z1_13, c_20, i_20, w_20, z0_20, z1_20, c_27, i_27, w_27, z0_27, z1_27, c_28, i_28, w_28, z0_28, z1_28, c_29, i_29, w_29, z0_29, z1_29, c_42, i_42, w_42, z0_42, z1_42, c_43, i_43, w_43, z0_43, z1_43, c_52, i_52, w_52, z0_52, z1_52, X1_size, X1_literal, X1_numberOfStep, X1_ofFormula, X1_inAll, X1_user, X9_codeOf, X1_firstUse, X1_endOfUses, X2_open, X2_at, X2_add, X2_drop, X2_clear, X4_fuelLeft, X4_isActive, X4_isMarked, X4_mark, X4_usedCount, X4_usedAt, X4_setActive, X4_forget, X4_truthOf]
    rw [hD.2.2 k j k1 k2 (by omega), truth_tv hl]
    by_cases e : tv (I 64) (lt k j) = 0
    · refine ⟨lt k j, ?_, Or.inr ⟨j, by omega, rfl, e⟩⟩
      rw [if_pos e]
    · rw [if_neg e, nI_1]
      exact ih (j + 1) n (by omega) (by omega) (fun i hi => by
        by_cases q : i = j
        · rw [q]; exact e
        · exact hx i (by omega))
theorem open_ok (hO : OKD N sz lt) (hD : DBC I N sz lt) {k : Nat} (k1 : 1 ≤ k) (k2 : k ≤ N) :
    ∃ r, fX4_openLiteral 52 (nI k) (st I v J) = some (r, st I v J) ∧ ((r = 0 ∧ ∀ j, j < sz k → tv (I 64) (lt k j) ≠ 0) ∨ (∃ j, j < sz k ∧ r = lt k j ∧ tv (I 64) (lt k j) = 0)) := by
  have h40 := (hO.2 k k1 k2).1
  have hz := zfu_big
  simp only [fX4_openLiteral, bnd_x, gd_0, gd_1, gd_o0, gd_o1, ite_self, rf_1_0, rf_1_1, rf_1_5, rf_1_6, rf_1_7, rf_2_0, rf_4_0, rf_6_0, rf_6_1, rf_6_2, rf_7_0, rf_9_0, rf_11_0, rf_13_0, rf_13_1, rf_13_2, rf_14_0, rf_16_0, rf_18_0, rf_20_0, rf_20_1, rf_20_2, rf_21_0, rf_23_0, rf_25_0, rf_27_0, rf_29_0, rf_29_1, rf_29_2, rf_29_3, rf_29_4, rf_29_5, rf_30_0, rf_32_0, rf_34_0, rf_36_0, rf_38_0, rf_40_0, rf_42_0, rf_42_1, rf_42_2, rf_42_3, rf_43_0, rf_43_1, rf_43_2, rf_44_0, rf_46_0, rf_48_0, rf_50_0, rf_52_0, rf_52_1, rf_52_2, rf_52_3, rf_52_4, rf_52_5, rf_52_6, rf_52_7, rf_52_8, rf_52_9, rf_52_10, rf_52_11, rf_53_0, rf_55_0, rf_57_0, rf_59_0, rf_61_0, rf_63_0, rf_65_0, rf_67_0, rf_69_0, rf_71_0, rf_73_0, a_7, p_7, f_7, c_7, a_9, p_9, f_9, c_9, a_11, p_11, f_11, c_11, a_14, p_14, f_14, c_14, a_16, p_16, f_16, c_16, a_18, p_18, f_18, c_18, a_21, p_21, f_21, c_21, a_23, p_23, f_23, c_23, a_25, p_25, f_25, c_25, a_30, p_30, f_30, c_30, a_32, p_32, f_32, c_32, a_34, p_34, f_34, c_34, a_36, p_36, f_36, c_36, a_38, p_38, f_38, c_38, a_40, p_40, f_40, c_40, a_44, p_44, f_44, c_44, a_46, p_46, f_46, c_46, a_48, p_48, f_48, c_48, a_50, p_50, f_50, c_50, a_53, p_53, f_53, c_53, a_55, p_55, f_55, c_55, a_57, p_57, f_57, c_57, a_59, p_59, f_59, c_59, a_61, p_61, f_61, c_61, a_63, p_63, f_63, c_63, a_65, p_65, f_65, c_65, a_67, p_67, f_67, c_67, a_69, p_69, f_69, c_69, a_71, p_71, f_71, c_71, a_73, p_73, f_73, c_73, c_1, i_1, w_1, z0_1, z1_1, c_2, i_2, w_2, z0_2, z1_2, c_4, i_4, w_4, z0_4, z1_4, c_6, i_6, w_6, z0_6, z1_6, c_13, i_13, w_13, z0_13, z1_13, c_20, i_20, w_20, z0_20, z1_20, c_27, i_27, w_27, z0_27, z1_27, c_28, i_28, w_28, z0_28, z1_28, c_29, i_29, w_29, z0_29, z1_29, c_42, i_42, w_42, z0_42, z1_42, c_43, i_43, w_43, z0_43, z1_43, c_52, i_52, w_52, z0_52, z1_52, X1_size, X1_literal, X1_numberOfStep, X1_ofFormula, X1_inAll, X1_user, X9_codeOf, X1_firstUse, X1_endOfUses, X2_open, X2_at, X2_add, X2_drop, X2_clear, X4_fuelLeft, X4_isActive, X4_isMarked, X4_mark, X4_usedCount, X4_usedAt, X4_setActive, X4_forget, X4_truthOf]
  rw [hD.2.1 k k1 k2]
  have q := open_loop (v := v) (J := J) hO hD k1 k2 (sz k) 0 zfu (by omega) (by omega) (fun i hi => by omega)
  rw [nI_0] at q
  exact q
end
