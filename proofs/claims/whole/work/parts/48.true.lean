/-! A literal becomes true; is taken back; restart. -/
section
variable {v : zV} {J : Nat → Nat → Int64} {N : Nat} {sz : Nat → Nat} {lt : Nat → Nat → Int32}
theorem rb_fr {I I' : Nat → Nat → Int32} (h : I' 62 = I 62) (r : Nat) : rb I' r = rb I r := by unfold rb; rw [h]
theorem rank_fr {I I' : Nat → Nat → Int32} (h : I' 56 = I 56) (r : Nat) : rank I' r = rank I r := by unfold rank; rw [h]
theorem up_at {I : Nat → Nat → Int32} (r k : Nat) (x : Int32) : up I r k x r = vup (I r) k x := by
  funext j; simp [up, vup]
theorem vup_s (V : Nat → Int32) (x : Nat) (y : Int32) : vup V x y x = y := by simp [vup]
theorem vup_n {V : Nat → Int32} {x z : Nat} {y : Int32} (h : z ≠ x) : vup V x y z = V z := by simp [vup, h]
theorem mt_loop : ∀ (L : List Nat) (a n : Nat) (I : Nat → Nat → Int32), (∀ i, i < L.length → I 37 (a + i) = nI (L.getD i 0)) → a + L.length ≤ 4000 → L.Nodup → (∀ k ∈ L, 1 ≤ k ∧ k ≤ 600) → L.length < n →
    ∃ I', fX4_makeTrue_94 n 52 (nI (a + L.length)) (nI a) (st I v J) = some (1, st I' v J) ∧ (∀ k, I' 58 k = if k ∈ L then I 58 k - 1 else I 58 k) ∧ (∀ r, r < 1216 → (rb I' r = true ↔ rb I r = true ∨ ∃ k ∈ L, I 54 k ≠ 0 ∧ I 58 k - 1 = 1 ∧ r = rank I k)) ∧ (∀ a, a ≠ 58 → a ≠ 62 → I' a = I a) := by
  intro L
  induction L with
  | nil =>
    intro a n I hu hb hd hk hn
    obtain ⟨n, rfl⟩ : ∃ m, n = m + 1 := ⟨n - 1, by have : 0 < n := hn; omega⟩
    refine ⟨I, ?_, ?_, ?_, fun _ _ _ => rfl⟩
    · unfold fX4_makeTrue_94
      simp only [List.length_nil, Nat.add_zero, if_pos (nI_le (Nat.le_refl a) (show a < 2 ^ 31 by have : a + 0 ≤ 4000 := hb; omega)), bnd_x, gd_0, gd_1, gd_o0, gd_o1, ite_self, rf_1_0, rf_1_1, rf_1_5, rf_1_6, rf_1_7, rf_2_0, rf_4_0, rf_6_0, rf_6_1, rf_6_2, rf_7_0, rf_9_0, rf_11_0, rf_13_0, rf_13_1, rf_13_2, rf_14_0, rf_16_0, rf_18_0, rf_20_0, rf_20_1, rf_20_2, rf_21_0, rf_23_0, rf_25_0, rf_27_0, rf_29_0, rf_29_1, rf_29_2, rf_29_3, rf_29_4, rf_29_5, rf_30_0, rf_32_0, rf_34_0, rf_36_0, rf_38_0, rf_40_0, rf_42_0, rf_42_1, rf_42_2, rf_42_3, rf_43_0, rf_43_1, rf_43_2, rf_44_0, rf_46_0, rf_48_0, rf_50_0, rf_52_0, rf_52_1, rf_52_2, rf_52_3, rf_52_4, rf_52_5, rf_52_6, rf_52_7, rf_52_8, rf_52_9, rf_52_10, rf_52_11, rf_53_0, rf_55_0, rf_57_0, rf_59_0, rf_61_0, rf_63_0, rf_65_0, rf_67_0, rf_69_0, rf_71_0, rf_73_0, a_7, p_7, f_7, c_7, a_9, p_9, f_9, c_9, a_11, p_11, f_11, c_11, a_14, p_14, f_14, c_14, a_16, p_16, f_16, c_16, a_18, p_18, f_18, c_18, a_21, p_21, f_21, c_21, a_23, p_23, f_23, c_23, a_25, p_25, f_25, c_25, a_30, p_30, f_30, c_30, a_32, p_32, f_32, c_32, a_34, p_34, f_34, c_34, a_36, p_36, f_36, c_36, a_38, p_38, f_38, c_38, a_40, p_40, f_40, c_40, a_44, p_44, f_44, c_44, a_46, p_46, f_46, c_46, a_48, p_48, f_48, c_48, a_50, p_50, f_50, c_50, a_53, p_53, f_53, c_53, a_55, p_55, f_55, c_55, a_57, p_57, f_57, c_57, a_59, p_59, f_59, c_59, a_61, p_61, f_61, c_61, a_63, p_63, f_63, c_63, a_65, p_65, f_65, c_65, a_67, p_67, f_67, c_67, a_69, p_69, f_69, c_69, a_71, p_71, f_71, c_71, a_73, p_73, f_73, c_73, c_1, i_1, w_1, z0_1, z1_1, c_2, i_2, w_2, z0_2, z1_2, c_4, i_4, w_4, z0_4, z1_4, c_6, i_6, w_6, z0_6, z1_6, c_13, i_13, w_13, z0_13, z1_13, c_20, i_20, w_20, z0_20, z1_20, c_27, i_27, w_27, z0_27, z1_27, c_28, i_28, w_28, z0_28, z1_28, c_29, i_29, w_29, z0_29, z1_29, c_42, i_42, w_42, z0_42, z1_42, c_43, i_43, w_43, z0_43, z1_43, c_52, i_52, w_52, z0_52, z1_52, X1_size, X1_literal, X1_numberOfStep, X1_ofFormula, X1_inAll, X1_user, X9_codeOf, X1_firstUse, X1_endOfUses, X2_open, X2_at, X2_add, X2_drop, X2_clear, X4_fuelLeft, X4_isActive, X4_isMarked, X4_mark, X4_usedCount, X4_usedAt, X4_setActive, X4_forget, X4_truthOf]
    · intro k; simp
    · intro r _; simp
  | cons k L ih =>
    intro a n I hu hb hd hk hn
    obtain ⟨n, rfl⟩ : ∃ m, n = m + 1 := ⟨n - 1, by omega⟩
    have hl : (k :: L).length = L.length + 1 := rfl
    rw [hl] at hb hn hu
    rw [hl]
    obtain ⟨hk1, hk2⟩ := hk k (List.mem_cons_self ..)
    have hkL : k ∉ L := (List.nodup_cons.mp hd).1
    have hdL : L.Nodup := (List.nodup_cons.mp hd).2
    have hu0 : I 37 a = nI k := by have := hu 0 (by omega); simpa using this
    have hr : ∃ I2, (fX4_makeTrue_94 (n + 1) 52 (nI (a + (L.length + 1))) (nI a) (st I v J) = fX4_makeTrue_94 n 52 (nI (a + 1 + L.length)) (nI (a + 1)) (st I2 v J)) ∧ I2 58 = vup (I 58) k (I 58 k - 1) ∧ (∀ r, r < 1216 → (rb I2 r = true ↔ rb I r = true ∨ (I 54 k ≠ 0 ∧ I 58 k - 1 = 1 ∧ r = rank I k))) ∧ (∀ a, a ≠ 58 → a ≠ 62 → I2 a = I a) := by
      have hs : fX4_makeTrue_94 (n + 1) 52 (nI (a + (L.length + 1))) (nI a) (st I v J) = (if I 58 k - 1 = 1 then bnd (fX4_makeReady 52 (nI k) (st (up I 58 k (I 58 k - 1)) v J)) fun q => fX4_makeTrue_94 n 52 (nI (a + 1 + L.length)) (nI (a + 1)) q else fX4_makeTrue_94 n 52 (nI (a + 1 + L.length)) (nI (a + 1)) (st (up I 58 k (I 58 k - 1)) v J)) := by
        conv => lhs; unfold fX4_makeTrue_94
        simp only [if_neg (nI_ge (show a < a + (L.length + 1) by omega) (by omega)), bnd_x, gd_0, gd_1, gd_o0, gd_o1, ite_self, rf_1_0, rf_1_1, rf_1_5, rf_1_6, rf_1_7, rf_2_0, rf_4_0, rf_6_0, rf_6_1, rf_6_2, rf_7_0, rf_9_0, rf_11_0, rf_13_0, rf_13_1, rf_13_2, rf_14_0, rf_16_0, rf_18_0, rf_20_0, rf_20_1, rf_20_2, rf_21_0, rf_23_0, rf_25_0, rf_27_0, rf_29_0, rf_29_1, rf_29_2, rf_29_3, rf_29_4, rf_29_5, rf_30_0, rf_32_0, rf_34_0, rf_36_0, rf_38_0, rf_40_0, rf_42_0, rf_42_1, rf_42_2, rf_42_3, rf_43_0, rf_43_1, rf_43_2, rf_44_0, rf_46_0, rf_48_0, rf_50_0, rf_52_0, rf_52_1, rf_52_2, rf_52_3, rf_52_4, rf_52_5, rf_52_6, rf_52_7, rf_52_8, rf_52_9, rf_52_10, rf_52_11, rf_53_0, rf_55_0, rf_57_0, rf_59_0, rf_61_0, rf_63_0, rf_65_0, rf_67_0, rf_69_0, rf_71_0, rf_73_0, a_7, p_7, f_7, c_7, a_9, p_9, f_9, c_9, a_11, p_11, f_11, c_11, a_14, p_14, f_14, c_14, a_16, p_16, f_16, c_16, a_18, p_18, f_18, c_18, a_21, p_21, f_21, c_21, a_23, p_23, f_23, c_23, a_25, p_25, f_25, c_25, a_30, p_30, f_30, c_30, a_32, p_32, f_32, c_32, a_34, p_34, f_34, c_34, a_36, p_36, f_36, c_36, a_38, p_38, f_38, c_38, a_40, p_40, f_40, c_40, a_44, p_44, f_44, c_44, a_46, p_46, f_46, c_46, a_48, p_48, f_48, c_48, a_50, p_50, f_50, c_50, a_53, p_53, f_53, c_53, a_55, p_55, f_55, c_55, a_57, p_57, f_57, c_57, a_59, p_59, f_59, c_59, a_61, p_61, f_61, c_61, a_63, p_63, f_63, c_63, a_65, p_65, f_65, c_65, a_67, p_67, f_67, c_67, a_69, p_69, f_69, c_69, a_71, p_71, f_71, c_71, a_73, p_73, f_73, c_73, c_1, i_1, w_1, z0_1, z1_1, c_2, i_2, w_2, z0_2, z1_2, c_4, i_4, w_4, z0_4, z1_4, c_6, i_6, w_6, z0_6, z1_6, c_13, i_13, w_13, z0_13, z1_13, c_20, i_20, w_20, z0_20, z1_20, c_27, i_27, w_27, z0_27, z1_27, c_28, i_28, w_28, z0_28, z1_28, c_29, i_29, w_29, z0_29, z1_29, c_42, i_42, w_42, z0_42, z1_42, c_43, i_43, w_43, z0_43, z1_43, c_52, i_52, w_52, z0_52, z1_52, X1_size, X1_literal, X1_numberOfStep, X1_ofFormula, X1_inAll, X1_user, X9_codeOf, X1_firstUse, X1_endOfUses, X2_open, X2_at, X2_add, X2_drop, X2_clear, X4_fuelLeft, X4_isActive, X4_isMarked, X4_mark, X4_usedCount, X4_usedAt, X4_setActive, X4_forget, X4_truthOf, fX4_makeTrue_147]
        rw [rd_36 (show a < 4000 by omega), hu0, rd_57 (by omega), wr_57 (by omega), nI_1, show a + (L.length + 1) = a + 1 + L.length by omega]
      rw [hs]
      by_cases e : I 58 k - 1 = 1
      · obtain ⟨I2, h1, h2, h3⟩ := makeReady_ok (I := up I 58 k (I 58 k - 1)) (v := v) (J := J) hk2
        refine ⟨I2, by rw [if_pos e, h1, bnd_x], ?_, ?_, ?_⟩
        · rw [h3 58 (by decide), up_at]
        · intro r hr
          rw [h2 r hr, rb_fr (up_ne (by decide)), rank_fr (up_ne (by decide)), up_ne (by decide)]
          simp [e]
        · intro b hb1 hb2
          rw [h3 b hb2, up_ne hb1]
      · refine ⟨up I 58 k (I 58 k - 1), by rw [if_neg e], up_at .., ?_, fun b hb1 _ => up_ne hb1⟩
        intro r hr
        rw [rb_fr (up_ne (by decide))]
        simp [e]
    obtain ⟨I2, e1, e2, e3, e4⟩ := hr
    obtain ⟨I', f1, f2, f3, f4⟩ := ih (a + 1) n I2 (fun i hi => by
      rw [e4 37 (by decide) (by decide)]
      have := hu (i + 1) (by omega)
      rw [show a + 1 + i = a + (i + 1) by omega, this]
      simp) (by omega) hdL (fun q hq => hk q (List.mem_cons_of_mem _ hq)) (by omega)
    refine ⟨I', by rw [e1, f1], ?_, ?_, ?_⟩
    · intro q
      rw [f2, e2]
      by_cases h1 : q = k
      · subst h1
        rw [if_neg hkL, if_pos (List.mem_cons_self ..), vup_s]
      · rw [vup_n h1]
        simp [h1]
    · intro r hr
      rw [f3 r hr, e3 r hr, e4 54 (by decide) (by decide)]
      constructor
      · rintro ((h | ⟨ha, hb, hc⟩) | ⟨q, hq, ha, hb, hc⟩)
        · exact Or.inl h
        · exact Or.inr ⟨k, List.mem_cons_self .., ha, hb, hc⟩
        · refine Or.inr ⟨q, List.mem_cons_of_mem _ hq, ha, ?_, ?_⟩
          · rw [e2, vup_n (by rintro rfl; exact hkL hq)] at hb; exact hb
          · rw [hc, rank_fr (e4 56 (by decide) (by decide))]
      · rintro (h | ⟨q, hq, ha, hb, hc⟩)
        · exact Or.inl (Or.inl h)
        · rcases List.mem_cons.mp hq with h1 | h1
          · subst h1; exact Or.inl (Or.inr ⟨ha, hb, hc⟩)
          · refine Or.inr ⟨q, h1, ha, ?_, ?_⟩
            · rw [e2, vup_n (by rintro rfl; exact hkL h1)]; exact hb
            · rw [hc, rank_fr (e4 56 (by decide) (by decide))]
    · intro b hb1 hb2
      rw [f4 b hb1 hb2, e4 b hb1 hb2]
theorem tb_loop : ∀ (L : List Nat) (a n : Nat) (I : Nat → Nat → Int32), (∀ i, i < L.length → I 37 (a + i) = nI (L.getD i 0)) → a + L.length ≤ 4000 → L.Nodup → (∀ k ∈ L, 1 ≤ k ∧ k ≤ 600) → L.length < n →
    ∃ I', fX4_takeBack_32 n 52 (nI (a + L.length)) (nI a) (st I v J) = some (st I' v J) ∧ (∀ k, I' 58 k = if k ∈ L then I 58 k + 1 else I 58 k) ∧ (∀ a, a ≠ 58 → I' a = I a) := by
  intro L
  induction L with
  | nil =>
    intro a n I hu hb hd hk hn
    obtain ⟨n, rfl⟩ : ∃ m, n = m + 1 := ⟨n - 1, by have : 0 < n := hn; omega⟩
    refine ⟨I, ?_, ?_, fun _ _ => rfl⟩
    · unfold fX4_takeBack_32
      simp only [List.length_nil, Nat.add_zero, if_pos (nI_le (Nat.le_refl a) (show a < 2 ^ 31 by have : a + 0 ≤ 4000 := hb; omega))]
    · intro k; simp
  | cons k L ih =>
    intro a n I hu hb hd hk hn
    obtain ⟨n, rfl⟩ : ∃ m, n = m + 1 := ⟨n - 1, by omega⟩
    have hl : (k :: L).length = L.length + 1 := rfl
    rw [hl] at hb hn hu
    rw [hl]
    obtain ⟨hk1, hk2⟩ := hk k (List.mem_cons_self ..)
    have hkL : k ∉ L := (List.nodup_cons.mp hd).1
    have hdL : L.Nodup := (List.nodup_cons.mp hd).2
    have hu0 : I 37 a = nI k := by have := hu 0 (by omega); simpa using this
    have hs : fX4_takeBack_32 (n + 1) 52 (nI (a + (L.length + 1))) (nI a) (st I v J) = fX4_takeBack_32 n 52 (nI (a + 1 + L.length)) (nI (a + 1)) (st (up I 58 k (I 58 k + 1)) v J) := by
      conv => lhs; unfold fX4_takeBack_32
      simp only [if_neg (nI_ge (show a < a + (L.length + 1) by omega) (by omega)), bnd_x, gd_0, gd_1, gd_o0, gd_o1, ite_self, rf_1_0, rf_1_1, rf_1_5, rf_1_6, rf_1_7, rf_2_0, rf_4_0, rf_6_0, rf_6_1, rf_6_2, rf_7_0, rf_9_0, rf_11_0, rf_13_0, rf_13_1, rf_13_2, rf_14_0, rf_16_0, rf_18_0, rf_20_0, rf_20_1, rf_20_2, rf_21_0, rf_23_0, rf_25_0, rf_27_0, rf_29_0, rf_29_1, rf_29_2, rf_29_3, rf_29_4, rf_29_5, rf_30_0, rf_32_0, rf_34_0, rf_36_0, rf_38_0, rf_40_0, rf_42_0, rf_42_1, rf_42_2, rf_42_3, rf_43_0, rf_43_1, rf_43_2, rf_44_0, rf_46_0, rf_48_0, rf_50_0, rf_52_0, rf_52_1, rf_52_2, rf_52_3, rf_52_4, rf_52_5, rf_52_6, rf_52_7, rf_52_8, rf_52_9, rf_52_10, rf_52_11, rf_53_0, rf_55_0, rf_57_0, rf_59_0, rf_61_0, rf_63_0, rf_65_0, rf_67_0, rf_69_0, rf_71_0, rf_73_0, a_7, p_7, f_7, c_7, a_9, p_9, f_9, c_9, a_11, p_11, f_11, c_11, a_14, p_14, f_14, c_14, a_16, p_16, f_16, c_16, a_18, p_18, f_18, c_18, a_21, p_21, f_21, c_21, a_23, p_23, f_23, c_23, a_25, p_25, f_25, c_25, a_30, p_30, f_30, c_30, a_32, p_32, f_32, c_32, a_34, p_34, f_34, c_34, a_36, p_36, f_36, c_36, a_38, p_38, f_38, c_38, a_40, p_40, f_40, c_40, a_44, p_44, f_44, c_44, a_46, p_46, f_46, c_46, a_48, p_48, f_48, c_48, a_50, p_50, f_50, c_50, a_53, p_53, f_53, c_53, a_55, p_55, f_55, c_55, a_57, p_57, f_57, c_57, a_59, p_59, f_59, c_59, a_61, p_61, f_61, c_61, a_63, p_63, f_63, c_63, a_65, p_65, f_65, c_65, a_67, p_67, f_67, c_67, a_69, p_69, f_69, c_69, a_71, p_71, f_71, c_71, a_73, p_73, f_73, c_73, c_1, i_1, w_1, z0_1, z1_1, c_2, i_2, w_2, z0_2, z1_2, c_4, i_4, w_4, z0_4, z1_4, c_6, i_6, w_6, z0_6, z1_6, c_13, i_13, w_13, z0_13, z1_13, c_20, i_20, w_20, z0_20, z1_20, c_27, i_27, w_27, z0_27, z1_27, c_28, i_28, w_28, z0_28, z1_28, c_29, i_29, w_29, z0_29, z1_29, c_42, i_42, w_42, z0_42, z1_42, c_43, i_43, w_43, z0_43, z1_43, c_52, i_52, w_52, z0_52, z1_52, X1_size, X1_literal, X1_numberOfStep, X1_ofFormula, X1_inAll, X1_user, X9_codeOf, X1_firstUse, X1_endOfUses, X2_open, X2_at, X2_add, X2_drop, X2_clear, X4_fuelLeft, X4_isActive, X4_isMarked, X4_mark, X4_usedCount, X4_usedAt, X4_setActive, X4_forget, X4_truthOf]
      rw [rd_36 (show a < 4000 by omega), hu0, rd_57 (by omega), wr_57 (by omega), nI_1, show a + (L.length + 1) = a + 1 + L.length by omega]
    obtain ⟨I', f1, f2, f4⟩ := ih (a + 1) n (up I 58 k (I 58 k + 1)) (fun i hi => by
      rw [up_ne (by decide)]
      have := hu (i + 1) (by omega)
      rw [show a + 1 + i = a + (i + 1) by omega, this]
      simp) (by omega) hdL (fun q hq => hk q (List.mem_cons_of_mem _ hq)) (by omega)
    refine ⟨I', by rw [hs, f1], ?_, ?_⟩
    · intro q
      rw [f2, up_at]
      by_cases h1 : q = k
      · subst h1
        rw [if_neg hkL, if_pos (List.mem_cons_self ..), vup_s]
      · rw [vup_n h1]
        simp [h1]
    · intro b hb1
      rw [f4 b hb1, up_ne hb1]
/-! the invariants of a run -/
def TI (I : Nat → Nat → Int32) (n : Nat) : Prop :=
  I 52 14 = nI n ∧ n + cn (fun i => I 64 (i + 1) == 0) 150 = 150 ∧ vv (I 64) ∧ (∀ t, t < n → isL (I 68 t) ∧ tv (I 64) (I 68 t) = 1) ∧ (∀ t t', t < t' → t' < n → av (I 68 t) ≠ av (I 68 t')) ∧ (∀ x, 1 ≤ x → x ≤ 150 → I 64 x ≠ 0 → ∃ t, t < n ∧ av (I 68 t) = x)
def LI (I : Nat → Nat → Int32) (N : Nat) (sz : Nat → Nat) (lt : Nat → Nat → Int32) : Prop := ∀ k, 1 ≤ k → k ≤ N → I 58 k = nI (lf (I 64) sz lt k)
def RIx (I : Nat → Nat → Int32) (N : Nat) (sz : Nat → Nat) (lt : Nat → Nat → Int32) (x : Nat) : Prop :=
  (∀ r, r < 1216 → rb I r = true → ∃ k, 1 ≤ k ∧ k ≤ N ∧ r = rank I k ∧ I 54 k ≠ 0 ∧ lf (I 64) sz lt k ≤ 1) ∧ (∀ k, 1 ≤ k → k ≤ N → k ≠ x → I 54 k ≠ 0 → lf (I 64) sz lt k ≤ 1 → ¬ sat (I 64) sz lt k → rb I (rank I k) = true)
def RI (I : Nat → Nat → Int32) (N : Nat) (sz : Nat → Nat) (lt : Nat → Nat → Int32) : Prop := RIx I N sz lt 0
theorem rank_inj {I : Nat → Nat → Int32} {a b : Nat} (ha : a ≤ 600) (hb : b ≤ 600) (h : rank I a = rank I b) : a = b := by
  unfold rank at h
  split at h <;> split at h <;> omega
theorem TI_lt {I : Nat → Nat → Int32} {n : Nat} (h : TI I n) {l : Int32} (hl : isL l) (h0 : tv (I 64) l = 0) : n < 150 := by
  have h1 := tv_i0 h0
  have h2 := L_av hl
  have : 0 < cn (fun i => I 64 (i + 1) == 0) 150 := cn_pos (i0 := av l - 1) (by omega) (by show (I 64 (av l - 1 + 1) == 0) = true; rw [show av l - 1 + 1 = av l by omega, h1]; rfl)
  have := h.2.1
  omega
theorem sg_ne (l : Int32) : sg l ≠ 0 := by unfold sg; split <;> decide
theorem TI_up {I I' : Nat → Nat → Int32} {n : Nat} (h : TI I n) {l : Int32} (hl : isL l) (h0 : tv (I 64) l = 0) (e1 : I' 64 = vup (I 64) (av l) (sg l)) (e2 : I' 68 = vup (I 68) n l) (e3 : I' 52 14 = nI (n + 1)) : TI I' (n + 1) := by
  obtain ⟨a, b, c, d, e, f⟩ := h
  have h2 := L_av hl
  have h1 := tv_i0 h0
  have hav : ∀ t, t < n → av (I 68 t) ≠ av l := by
    intro t ht q
    obtain ⟨q1, q2⟩ := d t ht
    rcases L_avi hl q1 q.symm with r | r
    · rw [r, h0] at q2; exact absurd q2 (by decide)
    · rw [r, tv_neg hl, h0] at q2; exact absurd q2 (by decide)
  refine ⟨e3, ?_, ?_, ?_, ?_, ?_⟩
  · rw [e1]
    have : cn (fun i => I 64 (i + 1) == 0) 150 = cn (fun i => vup (I 64) (av l) (sg l) (i + 1) == 0) 150 + 1 := by
      apply cn_one (i0 := av l - 1) (by omega)
      · show (I 64 (av l - 1 + 1) == 0) = true
        rw [show av l - 1 + 1 = av l by omega, h1]; rfl
      · show (vup (I 64) (av l) (sg l) (av l - 1 + 1) == 0) = false
        rw [show av l - 1 + 1 = av l by omega, vup_s]
        simpa using sg_ne l
      · intro i hi hne
        show (I 64 (i + 1) == 0) = (vup (I 64) (av l) (sg l) (i + 1) == 0)
        rw [vup_n (by omega)]
    omega
  · rw [e1]
    intro x hx0 hx
    unfold vup
    split
    · unfold sg; split <;> simp
    · exact c x hx0 hx
  · intro t ht
    rw [e1, e2]
    by_cases q : t = n
    · subst q
      rw [vup_s, tv_up hl hl, if_pos rfl]
      exact ⟨hl, rfl⟩
    · rw [vup_n q]
      obtain ⟨q1, q2⟩ := d t (by omega)
      refine ⟨q1, ?_⟩
      rw [tv_up hl q1]
      split
      · rfl
      · rw [if_neg]
        · exact q2
        · intro r
          exact hav t (by omega) (by rw [r, L_nav hl])
  · intro t t' h3 h4
    rw [e2]
    by_cases q : t' = n
    · subst q
      rw [vup_s, vup_n (by omega)]
      exact hav t h3
    · rw [vup_n q, vup_n (by omega)]
      exact e t t' h3 (by omega)
  · intro x hx1 hx2 hx
    rw [e1] at hx
    rw [e2]
    by_cases q : x = av l
    · exact ⟨n, by omega, by rw [vup_s, q]⟩
    · rw [vup_n q] at hx
      obtain ⟨t, ht, e⟩ := f x hx1 hx2 hx
      exact ⟨t, by omega, by rw [vup_n (by omega)]; exact e⟩
theorem makeTrue_ok {I : Nat → Nat → Int32} (hO : OKD N sz lt) (hU : USC I N sz lt) {n f : Nat} (hT : TI I n) (hL : LI I N sz lt) {x : Nat} (hR : RIx I N sz lt x) {l r : Int32} (hx : x = 0 ∨ hs sz lt x l = true) (hl : isL l) (h0 : tv (I 64) l = 0) (hf : I 52 17 = nI (f + 1)) (hf2 : f < 2 ^ 30) :
    ∃ I', fX4_makeTrue 52 l r (st I v J) = some (1, st I' v J) ∧ I' 64 = vup (I 64) (av l) (sg l) ∧ I' 68 = vup (I 68) n l ∧ I' 70 = vup (I 70) n r ∧ I' 52 = vup (vup (I 52) 17 (nI f)) 14 (nI (n + 1)) ∧ LI I' N sz lt ∧ RI I' N sz lt ∧ (∀ k, 1 ≤ k → k ≤ N → (rb I' (rank I' k) = true ∨ 2 ≤ lf (I' 64) sz lt k) → (rb I (rank I k) = true ∨ 2 ≤ lf (I 64) sz lt k)) ∧ (∀ a, a ≠ 52 → a ≠ 58 → a ≠ 62 → a ≠ 64 → a ≠ 68 → a ≠ 70 → I' a = I a) := by
  have hn := TI_lt hT hl h0
  have h2 := L_av hl
  obtain ⟨a, u1, u2, u3, u4⟩ := hU (-l) (L_neg hl)
  have hN : N ≤ 600 := hO.1
  have hlen : (ul N sz lt (-l)).length < zfu := by have := zfu_big; omega
  let I1 := up (up (up (up (up I 52 17 (nI f)) 64 (av l) (sg l)) 68 n l) 70 n r) 52 14 (nI (n + 1))
  have hI1 : ∀ b, b ≠ 52 → b ≠ 64 → b ≠ 68 → b ≠ 70 → I1 b = I b := by
    intro b b1 b2 b3 b4
    show up (up (up (up (up I 52 17 (nI f)) 64 (av l) (sg l)) 68 n l) 70 n r) 52 14 (nI (n + 1)) b = I b
    rw [up_ne b1, up_ne b4, up_ne b3, up_ne b2, up_ne b1]
  obtain ⟨I', f1, f2, f3, f4⟩ := mt_loop (v := v) (J := J) (ul N sz lt (-l)) a zfu I1 (fun i hi => by rw [hI1 37 (by decide) (by decide) (by decide) (by decide)]; exact u4 i hi) u3 ul_nd (fun k hk => by have := (ul_m.mp hk).1; omega) hlen
  have e64 : I' 64 = vup (I 64) (av l) (sg l) := by
    rw [f4 64 (by decide) (by decide)]
    show up (up (up (up (up I 52 17 (nI f)) 64 (av l) (sg l)) 68 n l) 70 n r) 52 14 (nI (n + 1)) 64 = _
    rw [up_ne (by decide), up_ne (by decide), up_ne (by decide), up_at, up_ne (by decide)]
  have hlf : ∀ k, 1 ≤ k → k ≤ N → I' 58 k = nI (lf (I' 64) sz lt k) ∧ (k ∈ ul N sz lt (-l) → lf (I 64) sz lt k = lf (I' 64) sz lt k + 1) ∧ (k ∉ ul N sz lt (-l) → lf (I' 64) sz lt k = lf (I 64) sz lt k) := by
    intro k k1 k2
    rw [f2, e64, hI1 58 (by decide) (by decide) (by decide) (by decide), hL k k1 k2]
    obtain ⟨g1, g2⟩ := lf_up (V := I 64) hO k1 k2 hl h0
    by_cases q : k ∈ ul N sz lt (-l)
    · have := g1 (ul_m.mp q).2
      rw [if_pos q, this, nI_pred]
      exact ⟨rfl, fun _ => rfl, fun c => absurd q c⟩
    · have : hs sz lt k (-l) = false := by
        cases h : hs sz lt k (-l) with
        | false => rfl
        | true => exact absurd (ul_m.mpr ⟨⟨k1, k2⟩, h⟩) q
      rw [if_neg q, g2 this]
      exact ⟨rfl, fun c => absurd c q, fun _ => rfl⟩
  have e54 : I' 54 = I 54 := by rw [f4 54 (by decide) (by decide), hI1 54 (by decide) (by decide) (by decide) (by decide)]
  have e56 : I' 56 = I 56 := by rw [f4 56 (by decide) (by decide), hI1 56 (by decide) (by decide) (by decide) (by decide)]
  refine ⟨I', ?_, e64, ?_, ?_, ?_, ?_, ⟨?_, ?_⟩, ?_, ?_⟩
  · have hs : fX4_makeTrue 52 l r (st I v J) = fX4_makeTrue_94 zfu 52 (nI (a + (ul N sz lt (-l)).length)) (nI a) (st I1 v J) := by
      have q1 : (0 : Int32) < nI (f + 1) := nI_lt (a := 0) (by omega) (by omega)
      have k14 : ∀ (I : Nat → Nat → Int32) (x : Nat) (y : Int32) , up I 64 x y 52 = I 52 := fun I x y => up_ne (by decide)
      have k15 : ∀ (I : Nat → Nat → Int32) (x : Nat) (y : Int32) , up I 68 x y 52 = I 52 := fun I x y => up_ne (by decide)
      have k16 : ∀ (I : Nat → Nat → Int32) (x : Nat) (y : Int32) , up I 70 x y 52 = I 52 := fun I x y => up_ne (by decide)
      have k17 : ∀ (I : Nat → Nat → Int32) (y : Int32) , up I 52 17 y 52 14 = I 52 14 := fun I y => by simp [up]
      have w1 : ∀ (I : Nat → Nat → Int32) (y : Int32), wr I 63 (nI (av l)) y = up I 64 (av l) y := fun I y => wr_63 (by omega)
      have w2 : ∀ (I : Nat → Nat → Int32) (y : Int32), wr I 67 (nI n) y = up I 68 n y := fun I y => wr_67 (by omega)
      have w3 : ∀ (I : Nat → Nat → Int32) (y : Int32), wr I 69 (nI n) y = up I 70 n y := fun I y => wr_69 (by omega)
      have r1 : rd I1 40 (codeOf (-l)) = nI (a + (ul N sz lt (-l)).length) := by rw [rd_fr (hI1 41 (by decide) (by decide) (by decide) (by decide))]; exact u2
      have r2 : rd I1 38 (codeOf (-l)) = nI a := by rw [rd_fr (hI1 39 (by decide) (by decide) (by decide) (by decide))]; exact u1
      have hsg : (if l ≤ 0 then fX4_makeTrue_36 52 l r (-1) (nI (av l)) 63 (st (up I 52 17 (nI f)) v J) else fX4_makeTrue_36 52 l r 1 (nI (av l)) 63 (st (up I 52 17 (nI f)) v J)) = fX4_makeTrue_36 52 l r (sg l) (nI (av l)) 63 (st (up I 52 17 (nI f)) v J) := by
        unfold sg; split <;> rfl
      simp only [fX4_makeTrue, bnd_x, gd_0, gd_1, gd_o0, gd_o1, ite_self, rf_1_0, rf_1_1, rf_1_5, rf_1_6, rf_1_7, rf_2_0, rf_4_0, rf_6_0, rf_6_1, rf_6_2, rf_7_0, rf_9_0, rf_11_0, rf_13_0, rf_13_1, rf_13_2, rf_14_0, rf_16_0, rf_18_0, rf_20_0, rf_20_1, rf_20_2, rf_21_0, rf_23_0, rf_25_0, rf_27_0, rf_29_0, rf_29_1, rf_29_2, rf_29_3, rf_29_4, rf_29_5, rf_30_0, rf_32_0, rf_34_0, rf_36_0, rf_38_0, rf_40_0, rf_42_0, rf_42_1, rf_42_2, rf_42_3, rf_43_0, rf_43_1, rf_43_2, rf_44_0, rf_46_0, rf_48_0, rf_50_0, rf_52_0, rf_52_1, rf_52_2, rf_52_3, rf_52_4, rf_52_5, rf_52_6, rf_52_7, rf_52_8, rf_52_9, rf_52_10, rf_52_11, rf_53_0, rf_55_0, rf_57_0, rf_59_0, rf_61_0, rf_63_0, rf_65_0, rf_67_0, rf_69_0, rf_71_0, rf_73_0, a_7, p_7, f_7, c_7, a_9, p_9, f_9, c_9, a_11, p_11, f_11, c_11, a_14, p_14, f_14, c_14, a_16, p_16, f_16, c_16, a_18, p_18, f_18, c_18, a_21, p_21, f_21, c_21, a_23, p_23, f_23, c_23, a_25, p_25, f_25, c_25, a_30, p_30, f_30, c_30, a_32, p_32, f_32, c_32, a_34, p_34, f_34, c_34, a_36, p_36, f_36, c_36, a_38, p_38, f_38, c_38, a_40, p_40, f_40, c_40, a_44, p_44, f_44, c_44, a_46, p_46, f_46, c_46, a_48, p_48, f_48, c_48, a_50, p_50, f_50, c_50, a_53, p_53, f_53, c_53, a_55, p_55, f_55, c_55, a_57, p_57, f_57, c_57, a_59, p_59, f_59, c_59, a_61, p_61, f_61, c_61, a_63, p_63, f_63, c_63, a_65, p_65, f_65, c_65, a_67, p_67, f_67, c_67, a_69, p_69, f_69, c_69, a_71, p_71, f_71, c_71, a_73, p_73, f_73, c_73, c_1, i_1, w_1, z0_1, z1_1, c_2, i_2, w_2, z0_2, z1_2, c_4, i_4, w_4, z0_4, z1_4, c_6, i_6, w_6, z0_6, z1_6, c_13, i_13, w_13, z0_13, z1_13, c_20, i_20, w_20, z0_20, z1_20, c_27, i_27, w_27, z0_27, z1_27, c_28, i_28, w_28, z0_28, z1_28, c_29, i_29, w_29, z0_29, z1_29, c_42, i_42, w_42, z0_42, z1_42, c_43, i_43, w_43, z0_43, z1_43, c_52, i_52, w_52, z0_52, z1_52, X1_size, X1_literal, X1_numberOfStep, X1_ofFormula, X1_inAll, X1_user, X9_codeOf, X1_firstUse, X1_endOfUses, X2_open, X2_at, X2_add, X2_drop, X2_clear, X4_fuelLeft, X4_isActive, X4_isMarked, X4_mark, X4_usedCount, X4_usedAt, X4_setActive, X4_forget, X4_truthOf]
      rw [hf, if_pos q1, nI_pred, L_zab hl, hsg]
      simp only [fX4_makeTrue_36, bnd_x, gd_0, gd_1, gd_o0, gd_o1, ite_self, rf_1_0, rf_1_1, rf_1_5, rf_1_6, rf_1_7, rf_2_0, rf_4_0, rf_6_0, rf_6_1, rf_6_2, rf_7_0, rf_9_0, rf_11_0, rf_13_0, rf_13_1, rf_13_2, rf_14_0, rf_16_0, rf_18_0, rf_20_0, rf_20_1, rf_20_2, rf_21_0, rf_23_0, rf_25_0, rf_27_0, rf_29_0, rf_29_1, rf_29_2, rf_29_3, rf_29_4, rf_29_5, rf_30_0, rf_32_0, rf_34_0, rf_36_0, rf_38_0, rf_40_0, rf_42_0, rf_42_1, rf_42_2, rf_42_3, rf_43_0, rf_43_1, rf_43_2, rf_44_0, rf_46_0, rf_48_0, rf_50_0, rf_52_0, rf_52_1, rf_52_2, rf_52_3, rf_52_4, rf_52_5, rf_52_6, rf_52_7, rf_52_8, rf_52_9, rf_52_10, rf_52_11, rf_53_0, rf_55_0, rf_57_0, rf_59_0, rf_61_0, rf_63_0, rf_65_0, rf_67_0, rf_69_0, rf_71_0, rf_73_0, a_7, p_7, f_7, c_7, a_9, p_9, f_9, c_9, a_11, p_11, f_11, c_11, a_14, p_14, f_14, c_14, a_16, p_16, f_16, c_16, a_18, p_18, f_18, c_18, a_21, p_21, f_21, c_21, a_23, p_23, f_23, c_23, a_25, p_25, f_25, c_25, a_30, p_30, f_30, c_30, a_32, p_32, f_32, c_32, a_34, p_34, f_34, c_34, a_36, p_36, f_36, c_36, a_38, p_38, f_38, c_38, a_40, p_40, f_40, c_40, a_44, p_44, f_44, c_44, a_46, p_46, f_46, c_46, a_48, p_48, f_48, c_48, a_50, p_50, f_50, c_50, a_53, p_53, f_53, c_53, a_55, p_55, f_55, c_55, a_57, p_57, f_57, c_57, a_59, p_59, f_59, c_59, a_61, p_61, f_61, c_61, a_63, p_63, f_63, c_63, a_65, p_65, f_65, c_65, a_67, p_67, f_67, c_67, a_69, p_69, f_69, c_69, a_71, p_71, f_71, c_71, a_73, p_73, f_73, c_73, c_1, i_1, w_1, z0_1, z1_1, c_2, i_2, w_2, z0_2, z1_2, c_4, i_4, w_4, z0_4, z1_4, c_6, i_6, w_6, z0_6, z1_6, c_13, i_13, w_13, z0_13, z1_13, c_20, i_20, w_20, z0_20, z1_20, c_27, i_27, w_27, z0_27, z1_27, c_28, i_28, w_28, z0_28, z1_28, c_29, i_29, w_29, z0_29, z1_29, c_42, i_42, w_42, z0_42, z1_42, c_43, i_43, w_43, z0_43, z1_43, c_52, i_52, w_52, z0_52, z1_52, X1_size, X1_literal, X1_numberOfStep, X1_ofFormula, X1_inAll, X1_user, X9_codeOf, X1_firstUse, X1_endOfUses, X2_open, X2_at, X2_add, X2_drop, X2_clear, X4_fuelLeft, X4_isActive, X4_isMarked, X4_mark, X4_usedCount, X4_usedAt, X4_setActive, X4_forget, X4_truthOf, w1, w2, w3, k14, k15, k16, k17, hT.1, nI_1]
      rw [show up (up (up (up (up I 52 17 (nI f)) 64 (av l) (sg l)) 68 n l) 70 n r) 52 14 (nI (n + 1)) = I1 from rfl, r1, r2]
    rw [hs, f1]
  · rw [f4 68 (by decide) (by decide)]
    show up (up (up (up (up I 52 17 (nI f)) 64 (av l) (sg l)) 68 n l) 70 n r) 52 14 (nI (n + 1)) 68 = _
    rw [up_ne (by decide), up_ne (by decide), up_at, up_ne (by decide), up_ne (by decide)]
  · rw [f4 70 (by decide) (by decide)]
    show up (up (up (up (up I 52 17 (nI f)) 64 (av l) (sg l)) 68 n l) 70 n r) 52 14 (nI (n + 1)) 70 = _
    rw [up_ne (by decide), up_at, up_ne (by decide), up_ne (by decide), up_ne (by decide)]
  · rw [f4 52 (by decide) (by decide)]
    show up (up (up (up (up I 52 17 (nI f)) 64 (av l) (sg l)) 68 n l) 70 n r) 52 14 (nI (n + 1)) 52 = _
    rw [up_at, up_ne (by decide), up_ne (by decide), up_ne (by decide), up_at]
  · intro k k1 k2
    exact (hlf k k1 k2).1
  · intro q hq hb
    rw [f3 q hq, rb_fr (hI1 62 (by decide) (by decide) (by decide) (by decide))] at hb
    rcases hb with hb | ⟨k, hk, ha, hb, hc⟩
    · obtain ⟨k, k1, k2, e, ha, hle⟩ := hR.1 q hq hb
      refine ⟨k, k1, k2, by rw [e, rank_fr e56], by rw [e54]; exact ha, ?_⟩
      obtain ⟨-, g1, g2⟩ := hlf k k1 k2
      by_cases m : k ∈ ul N sz lt (-l)
      · have := g1 m; omega
      · have := g2 m; omega
    · obtain ⟨⟨k1, k2⟩, -⟩ := ul_m.mp hk
      rw [hI1 54 (by decide) (by decide) (by decide) (by decide)] at ha
      rw [hI1 58 (by decide) (by decide) (by decide) (by decide), hL k k1 k2] at hb
      obtain ⟨-, g1, -⟩ := hlf k k1 k2
      have g := g1 hk
      refine ⟨k, k1, k2, by rw [hc, rank_fr (hI1 56 (by decide) (by decide) (by decide) (by decide)), rank_fr e56], by rw [e54]; exact ha, ?_⟩
      rw [g, nI_pred] at hb
      have h40 := (hO.2 k k1 k2).1
      have : lf (I 64) sz lt k ≤ sz k := lf_le
      have := (nI_eq (a := lf (I' 64) sz lt k) (b := 1) (by omega) (by decide)).mp hb
      omega
  · intro k k1 k2 _ ha hle hns
    rw [e54] at ha
    have hkx : k ≠ x := by
      intro q
      rcases hx with h | h
      · omega
      · obtain ⟨j, hj, ej⟩ := hs_i.mp h
        apply hns
        refine ⟨j, by rw [q]; exact hj, ?_⟩
        rw [q, ej, e64, tv_up hl hl, if_pos rfl]
    have hr := rank_lt (I := I') (show k ≤ 600 by omega)
    rw [f3 _ hr, rb_fr (hI1 62 (by decide) (by decide) (by decide) (by decide)), rank_fr e56]
    obtain ⟨-, g1, g2⟩ := hlf k k1 k2
    have hns0 : ¬ sat (I 64) sz lt k := by
      rintro ⟨j, hj, ej⟩
      apply hns
      refine ⟨j, hj, ?_⟩
      have hlj := (hO.2 k k1 k2).2.1 j hj
      rw [e64, tv_up hl hlj]
      split
      · rfl
      · rw [if_neg]
        · exact ej
        · intro q
          rw [q, tv_neg hl, h0] at ej
          exact absurd ej (by decide)
    by_cases q : lf (I 64) sz lt k ≤ 1
    · exact Or.inl (hR.2 k k1 k2 hkx ha q hns0)
    · right
      have m : k ∈ ul N sz lt (-l) := Classical.byContradiction fun m => by have := g2 m; omega
      have g := g1 m
      refine ⟨k, m, by rw [hI1 54 (by decide) (by decide) (by decide) (by decide)]; exact ha, ?_, by rw [rank_fr (hI1 56 (by decide) (by decide) (by decide) (by decide))]⟩
      rw [hI1 58 (by decide) (by decide) (by decide) (by decide), hL k k1 k2, g, nI_pred]
      rw [show lf (I' 64) sz lt k = 1 by omega]
      rfl
  · intro k k1 k2 h
    obtain ⟨-, g1, g2⟩ := hlf k k1 k2
    have hr := rank_lt (I := I') (show k ≤ 600 by omega)
    rw [f3 _ hr, rb_fr (hI1 62 (by decide) (by decide) (by decide) (by decide)), rank_fr e56] at h
    rcases h with (h | ⟨q, hq, -, hb, hc⟩) | h
    · exact Or.inl h
    · rw [rank_fr (hI1 56 (by decide) (by decide) (by decide) (by decide))] at hc
      obtain ⟨⟨q1, q2⟩, -⟩ := ul_m.mp hq
      have := rank_inj (by omega) (by omega) hc
      subst this
      rw [hI1 58 (by decide) (by decide) (by decide) (by decide), hL k k1 k2, g1 hq, nI_pred] at hb
      have h40 := (hO.2 k k1 k2).1
      have h41 : lf (I 64) sz lt k ≤ sz k := lf_le
      have g := g1 hq
      have := (nI_eq (a := lf (I' 64) sz lt k) (b := 1) (by omega) (by decide)).mp hb
      right; omega
    · right
      by_cases m : k ∈ ul N sz lt (-l)
      · have := g1 m; omega
      · have := g2 m; omega
  · intro b b1 b2 b3 b4 b5 b6
    rw [f4 b b2 b3, hI1 b b1 b4 b5 b6]
theorem makeTrue_out {I : Nat → Nat → Int32} {l r : Int32} (hf : I 52 17 = nI 0) : fX4_makeTrue 52 l r (st I v J) = some (0, st I v J) := by
  simp only [fX4_makeTrue, bnd_x, gd_0, gd_1, gd_o0, gd_o1, ite_self, rf_1_0, rf_1_1, rf_1_5, rf_1_6, rf_1_7, rf_2_0, rf_4_0, rf_6_0, rf_6_1, rf_6_2, rf_7_0, rf_9_0, rf_11_0, rf_13_0, rf_13_1, rf_13_2, rf_14_0, rf_16_0, rf_18_0, rf_20_0, rf_20_1, rf_20_2, rf_21_0, rf_23_0, rf_25_0, rf_27_0, rf_29_0, rf_29_1, rf_29_2, rf_29_3, rf_29_4, rf_29_5, rf_30_0, rf_32_0, rf_34_0, rf_36_0, rf_38_0, rf_40_0, rf_42_0, rf_42_1, rf_42_2, rf_42_3, rf_43_0, rf_43_1, rf_43_2, rf_44_0, rf_46_0, rf_48_0, rf_50_0, rf_52_0, rf_52_1, rf_52_2, rf_52_3, rf_52_4, rf_52_5, rf_52_6, rf_52_7, rf_52_8, rf_52_9, rf_52_10, rf_52_11, rf_53_0, rf_55_0, rf_57_0, rf_59_0, rf_61_0, rf_63_0, rf_65_0, rf_67_0, rf_69_0, rf_71_0, rf_73_0, a_7, p_7, f_7, c_7, a_9, p_9, f_9, c_9, a_11, p_11, f_11, c_11, a_14, p_14, f_14, c_14, a_16, p_16, f_16, c_16, a_18, p_18, f_18, c_18, a_21, p_21, f_21, c_21, a_23, p_23, f_23, c_23, a_25, p_25, f_25, c_25, a_30, p_30, f_30, c_30, a_32, p_32, f_32, c_32, a_34, p_34, f_34, c_34, a_36, p_36, f_36, c_36, a_38, p_38, f_38, c_38, a_40, p_40, f_40, c_40, a_44, p_44, f_44, c_44, a_46, p_46, f_46, c_46, a_48, p_48, f_48, c_48, a_50, p_50, f_50, c_50, a_53, p_53, f_53, c_53, a_55, p_55, f_55, c_55, a_57, p_57, f_57, c_57, a_59, p_59, f_59, c_59, a_61, p_61, f_61, c_61, a_63, p_63, f_63, c_63, a_65, p_65, f_65, c_65, a_67, p_67, f_67, c_67, a_69, p_69, f_69, c_69, a_71, p_71, f_71, c_71, a_73, p_73, f_73, c_73, c_1, i_1, w_1, z0_1, z1_1, c_2, i_2, w_2, z0_2, z1_2, c_4, i_4, w_4, z0_4, z1_4, c_6, i_6, w_6, z0_6, z1_6, c_13, i_13, w_13, z0_13, z1_13, c_20, i_20, w_20, z0_20, z1_20, c_27, i_27, w_27, z0_27, z1_27, c_28, i_28, w_28, z0_28, z1_28, c_29, i_29, w_29, z0_29, z1_29, c_42, i_42, w_42, z0_42, z1_42, c_43, i_43, w_43, z0_43, z1_43, c_52, i_52, w_52, z0_52, z1_52, X1_size, X1_literal, X1_numberOfStep, X1_ofFormula, X1_inAll, X1_user, X9_codeOf, X1_firstUse, X1_endOfUses, X2_open, X2_at, X2_add, X2_drop, X2_clear, X4_fuelLeft, X4_isActive, X4_isMarked, X4_mark, X4_usedCount, X4_usedAt, X4_setActive, X4_forget, X4_truthOf]
  rw [hf, if_neg (by decide)]
end
