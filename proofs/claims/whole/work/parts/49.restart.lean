/-! restart, assumptions. -/
section
variable {v : zV} {J : Nat → Nat → Int64} {N : Nat} {sz : Nat → Nat} {lt : Nat → Nat → Int32}
/-- while the trail is taken back: from place t on it still holds -/
def BI (I : Nat → Nat → Int32) (n t : Nat) : Prop :=
  (∀ q, t ≤ q → q < n → isL (I 68 q) ∧ tv (I 64) (I 68 q) = 1) ∧ (∀ q q', q < q' → q' < n → av (I 68 q) ≠ av (I 68 q')) ∧ (∀ x, 1 ≤ x → x ≤ 150 → I 64 x ≠ 0 → ∃ q, t ≤ q ∧ q < n ∧ av (I 68 q) = x) ∧ vv (I 64)
theorem takeBack_ok {I : Nat → Nat → Int32} (hO : OKD N sz lt) (hU : USC I N sz lt) (hL : LI I N sz lt) {l : Int32} (hl : isL l) (h1 : tv (I 64) l = 1) :
    ∃ I', fX4_takeBack 52 l (st I v J) = some (st I' v J) ∧ I' 64 = vup (I 64) (av l) 0 ∧ LI I' N sz lt ∧ (∀ a, a ≠ 58 → a ≠ 64 → I' a = I a) := by
  have h2 := L_av hl
  obtain ⟨a, u1, u2, u3, u4⟩ := hU (-l) (L_neg hl)
  have hN : N ≤ 600 := hO.1
  have hlen : (ul N sz lt (-l)).length < zfu := by have := zfu_big; omega
  have hI1 : ∀ b, b ≠ 64 → up I 64 (av l) 0 b = I b := fun b hb => up_ne hb
  obtain ⟨I', f1, f2, f4⟩ := tb_loop (v := v) (J := J) (ul N sz lt (-l)) a zfu (up I 64 (av l) 0) (fun i hi => by rw [hI1 37 (by decide)]; exact u4 i hi) u3 ul_nd (fun k hk => by have := (ul_m.mp hk).1; omega) hlen
  have e64 : I' 64 = vup (I 64) (av l) 0 := by rw [f4 64 (by decide), up_at]
  refine ⟨I', ?_, e64, ?_, ?_⟩
  · have r1 : rd (up I 64 (av l) 0) 40 (codeOf (-l)) = nI (a + (ul N sz lt (-l)).length) := by rw [rd_fr (hI1 41 (by decide))]; exact u2
    have r2 : rd (up I 64 (av l) 0) 38 (codeOf (-l)) = nI a := by rw [rd_fr (hI1 39 (by decide))]; exact u1
    simp only [fX4_takeBack, bnd_x, gd_0, gd_1, gd_o0, gd_o1, ite_self, rf_1_0, rf_1_1, rf_1_5, rf_1_6, rf_1_7, rf_2_0, rf_4_0, rf_6_0, rf_6_1, rf_6_2, rf_7_0, rf_9_0, rf_11_0, rf_13_0, rf_13_1, rf_13_2, rf_14_0, rf_16_0, rf_18_0, rf_20_0, rf_20_1, rf_20_2, rf_21_0, rf_23_0, rf_25_0, rf_27_0, rf_29_0, rf_29_1, rf_29_2, rf_29_3, rf_29_4, rf_29_5, rf_30_0, rf_32_0, rf_34_0, rf_36_0, rf_38_0, rf_40_0, rf_42_0, rf_42_1, rf_42_2, rf_42_3, rf_43_0, rf_43_1, rf_43_2, rf_44_0, rf_46_0, rf_48_0, rf_50_0, rf_52_0, rf_52_1, rf_52_2, rf_52_3, rf_52_4, rf_52_5, rf_52_6, rf_52_7, rf_52_8, rf_52_9, rf_52_10, rf_52_11, rf_53_0, rf_55_0, rf_57_0, rf_59_0, rf_61_0, rf_63_0, rf_65_0, rf_67_0, rf_69_0, rf_71_0, rf_73_0, a_7, p_7, f_7, c_7, a_9, p_9, f_9, c_9, a_11, p_11, f_11, c_11, a_14, p_14, f_14, c_14, a_16, p_16, f_16, c_16, a_18, p_18, f_18, c_18, a_21, p_21, f_21, c_21, a_23, p_23, f_23, c_23, a_25, p_25, f_25, c_25, a_30, p_30, f_30, c_30, a_32, p_32, f_32, c_32, a_34, p_34, f_34, c_34, a_36, p_36, f_36, c_36, a_38, p_38, f_38, c_38, a_40, p_40, f_40, c_40, a_44, p_44, f_44, c_44, a_46, p_46, f_46, c_46, a_48, p_48, f_48, c_48, a_50, p_50, f_50, c_50, a_53, p_53, f_53, c_53, a_55, p_55, f_55, c_55, a_57, p_57, f_57, c_57, a_59, p_59, f_59, c_59, a_61, p_61, f_61, c_61, a_63, p_63, f_63, c_63, a_65, p_65, f_65, c_65, a_67, p_67, f_67, c_67, a_69, p_69, f_69, c_69, a_71, p_71, f_71, c_71, a_73, p_73, f_73, c_73, c_1, i_1, w_1, z0_1, z1_1, c_2, i_2, w_2, z0_2, z1_2, c_4, i_4, w_4, z0_4, z1_4, c_6, i_6, w_6, z0_6, z1_6, c_13, i_13, w_13, z0_13, z1_13, c_20, i_20, w_20, z0_20, z1_20, c_27, i_27, w_27, z0_27, z1_27, c_28, i_28, w_28, z0_28, z1_28, c_29, i_29, w_29, z0_29, z1_29, c_42, i_42, w_42, z0_42, z1_42, c_43, i_43, w_43, z0_43, z1_43, c_52, i_52, w_52, z0_52, z1_52, X1_size, X1_literal, X1_numberOfStep, X1_ofFormula, X1_inAll, X1_user, X9_codeOf, X1_firstUse, X1_endOfUses, X2_open, X2_at, X2_add, X2_drop, X2_clear, X4_fuelLeft, X4_isActive, X4_isMarked, X4_mark, X4_usedCount, X4_usedAt, X4_setActive, X4_forget, X4_truthOf]
    rw [L_zab hl, wr_63 (by omega), r1, r2, f1]
  · intro k k1 k2
    rw [f2, e64, hI1 58 (by decide), hL k k1 k2]
    obtain ⟨g1, g2⟩ := lf_up (V := vup (I 64) (av l) 0) hO k1 k2 hl tv_0
    rw [vup_back h1] at g1 g2
    by_cases q : k ∈ ul N sz lt (-l)
    · have := g1 (ul_m.mp q).2
      rw [if_pos q, this, nI_1]
    · have : hs sz lt k (-l) = false := by
        cases h : hs sz lt k (-l) with
        | false => rfl
        | true => exact absurd (ul_m.mpr ⟨⟨k1, k2⟩, h⟩) q
      rw [if_neg q, g2 this]
  · intro b b1 b2
    rw [f4 b b1, hI1 b b2]
/-- the short ones -/
def SO (I : Nat → Nat → Int32) (N : Nat) (sz : Nat → Nat) : Prop :=
  ∃ c, c ≤ 600 ∧ I 52 12 = nI c ∧ (∀ i, i < c → ∃ k, 1 ≤ k ∧ k ≤ N ∧ sz k ≤ 1 ∧ I 60 i = nI k) ∧ (∀ k, 1 ≤ k → k ≤ N → sz k ≤ 1 → ∃ i, i < c ∧ I 60 i = nI k)
theorem short_loop (hN : N ≤ 600) {c : Nat} (hc : c ≤ 600) : ∀ (d i n : Nat) (I : Nat → Nat → Int32), i + d = c → d < n → I 52 12 = nI c → (∀ i, i < c → ∃ k, 1 ≤ k ∧ k ≤ N ∧ sz k ≤ 1 ∧ I 60 i = nI k) →
    ∃ I', fX4_restart_53 n 52 (nI i) (st I v J) = some (st I' v J) ∧ (∀ r, r < 1216 → (rb I' r = true ↔ rb I r = true ∨ ∃ q k, i ≤ q ∧ q < c ∧ I 60 q = nI k ∧ k ≤ 600 ∧ I 54 k ≠ 0 ∧ r = rank I k)) ∧ (∀ a, a ≠ 62 → I' a = I a) := by
  intro d
  induction d with
  | zero =>
    intro i n I hi hn h12 hs
    obtain ⟨n, rfl⟩ : ∃ m, n = m + 1 := ⟨n - 1, by omega⟩
    refine ⟨I, ?_, ?_, fun _ _ => rfl⟩
    · unfold fX4_restart_53
      simp only [bnd_x, gd_0, gd_1, gd_o0, gd_o1, ite_self, rf_1_0, rf_1_1, rf_1_5, rf_1_6, rf_1_7, rf_2_0, rf_4_0, rf_6_0, rf_6_1, rf_6_2, rf_7_0, rf_9_0, rf_11_0, rf_13_0, rf_13_1, rf_13_2, rf_14_0, rf_16_0, rf_18_0, rf_20_0, rf_20_1, rf_20_2, rf_21_0, rf_23_0, rf_25_0, rf_27_0, rf_29_0, rf_29_1, rf_29_2, rf_29_3, rf_29_4, rf_29_5, rf_30_0, rf_32_0, rf_34_0, rf_36_0, rf_38_0, rf_40_0, rf_42_0, rf_42_1, rf_42_2, rf_42_3, rf_43_0, rf_43_1, rf_43_2, rf_44_0, rf_46_0, rf_48_0, rf_50_0, rf_52_0, rf_52_1, rf_52_2, rf_52_3, rf_52_4, rf_52_5, rf_52_6, rf_52_7, rf_52_8, rf_52_9, rf_52_10, rf_52_11, rf_53_0, rf_55_0, rf_57_0, rf_59_0, rf_61_0, rf_63_0, rf_65_0, rf_67_0, rf_69_0, rf_71_0, rf_73_0, a_7, p_7, f_7, c_7, a_9, p_9, f_9, c_9, a_11, p_11, f_11, c_11, a_14, p_14, f_14, c_14, a_16, p_16, f_16, c_16, a_18, p_18, f_18, c_18, a_21, p_21, f_21, c_21, a_23, p_23, f_23, c_23, a_25, p_25, f_25, c_25, a_30, p_30, f_30, c_30, a_32, p_32, f_32, c_32, a_34, p_34, f_34, c_34, a_36, p_36, f_36, c_36, a_38, p_38, f_38, c_38, a_40, p_40, f_40, c_40, a_44, p_44, f_44, c_44, a_46, p_46, f_46, c_46, a_48, p_48, f_48, c_48, a_50, p_50, f_50, c_50, a_53, p_53, f_53, c_53, a_55, p_55, f_55, c_55, a_57, p_57, f_57, c_57, a_59, p_59, f_59, c_59, a_61, p_61, f_61, c_61, a_63, p_63, f_63, c_63, a_65, p_65, f_65, c_65, a_67, p_67, f_67, c_67, a_69, p_69, f_69, c_69, a_71, p_71, f_71, c_71, a_73, p_73, f_73, c_73, c_1, i_1, w_1, z0_1, z1_1, c_2, i_2, w_2, z0_2, z1_2, c_4, i_4, w_4, z0_4, z1_4, c_6, i_6, w_6, z0_6, z1_6, c_13, i_13, w_13, z0_13, z1_13, c_20, i_20, w_20, z0_20, z1_20, c_27, i_27, w_27, z0_27, z1_27, c_28, i_28, w_28, z0_28, z1_28, c_29, i_29, w_29, z0_29, z1_29, c_42, i_42, w_42, z0_42, z1_42, c_43, i_43, w_43, z0_43, z1_43, c_52, i_52, w_52, z0_52, z1_52, X1_size, X1_literal, X1_numberOfStep, X1_ofFormula, X1_inAll, X1_user, X9_codeOf, X1_firstUse, X1_endOfUses, X2_open, X2_at, X2_add, X2_drop, X2_clear, X4_fuelLeft, X4_isActive, X4_isMarked, X4_mark, X4_usedCount, X4_usedAt, X4_setActive, X4_forget, X4_truthOf]
      rw [h12, if_pos (nI_le (by omega) (by omega))]
    · intro r hr
      constructor
      · exact Or.inl
      · rintro (h | ⟨q, k, a, b, -⟩)
        · exact h
        · omega
  | succ d ih =>
    intro i n I hi hn h12 hs
    obtain ⟨n, rfl⟩ : ∃ m, n = m + 1 := ⟨n - 1, by omega⟩
    obtain ⟨k, k1, k2, -, ek⟩ := hs i (by omega)
    obtain ⟨I2, h1, h2, h3⟩ := makeReady_ok (I := I) (v := v) (J := J) (show k ≤ 600 by omega)
    obtain ⟨I', f1, f2, f3⟩ := ih (i + 1) n I2 (by omega) (by omega) (by rw [h3 52 (by decide)]; exact h12) (fun q hq => by rw [h3 60 (by decide)]; exact hs q hq)
    refine ⟨I', ?_, ?_, fun a ha => by rw [f3 a ha, h3 a ha]⟩
    · conv => lhs; unfold fX4_restart_53
      simp only [bnd_x, gd_0, gd_1, gd_o0, gd_o1, ite_self, rf_1_0, rf_1_1, rf_1_5, rf_1_6, rf_1_7, rf_2_0, rf_4_0, rf_6_0, rf_6_1, rf_6_2, rf_7_0, rf_9_0, rf_11_0, rf_13_0, rf_13_1, rf_13_2, rf_14_0, rf_16_0, rf_18_0, rf_20_0, rf_20_1, rf_20_2, rf_21_0, rf_23_0, rf_25_0, rf_27_0, rf_29_0, rf_29_1, rf_29_2, rf_29_3, rf_29_4, rf_29_5, rf_30_0, rf_32_0, rf_34_0, rf_36_0, rf_38_0, rf_40_0, rf_42_0, rf_42_1, rf_42_2, rf_42_3, rf_43_0, rf_43_1, rf_43_2, rf_44_0, rf_46_0, rf_48_0, rf_50_0, rf_52_0, rf_52_1, rf_52_2, rf_52_3, rf_52_4, rf_52_5, rf_52_6, rf_52_7, rf_52_8, rf_52_9, rf_52_10, rf_52_11, rf_53_0, rf_55_0, rf_57_0, rf_59_0, rf_61_0, rf_63_0, rf_65_0, rf_67_0, rf_69_0, rf_71_0, rf_73_0, a_7, p_7, f_7, c_7, a_9, p_9, f_9, c_9, a_11, p_11, f_11, c_11, a_14, p_14, f_14, c_14, a_16, p_16, f_16, c_16, a_18, p_18, f_18, c_18, a_21, p_21, f_21, c_21, a_23, p_23, f_23, c_23, a_25, p_25, f_25, c_25, a_30, p_30, f_30, c_30, a_32, p_32, f_32, c_32, a_34, p_34, f_34, c_34, a_36, p_36, f_36, c_36, a_38, p_38, f_38, c_38, a_40, p_40, f_40, c_40, a_44, p_44, f_44, c_44, a_46, p_46, f_46, c_46, a_48, p_48, f_48, c_48, a_50, p_50, f_50, c_50, a_53, p_53, f_53, c_53, a_55, p_55, f_55, c_55, a_57, p_57, f_57, c_57, a_59, p_59, f_59, c_59, a_61, p_61, f_61, c_61, a_63, p_63, f_63, c_63, a_65, p_65, f_65, c_65, a_67, p_67, f_67, c_67, a_69, p_69, f_69, c_69, a_71, p_71, f_71, c_71, a_73, p_73, f_73, c_73, c_1, i_1, w_1, z0_1, z1_1, c_2, i_2, w_2, z0_2, z1_2, c_4, i_4, w_4, z0_4, z1_4, c_6, i_6, w_6, z0_6, z1_6, c_13, i_13, w_13, z0_13, z1_13, c_20, i_20, w_20, z0_20, z1_20, c_27, i_27, w_27, z0_27, z1_27, c_28, i_28, w_28, z0_28, z1_28, c_29, i_29, w_29, z0_29, z1_29, c_42, i_42, w_42, z0_42, z1_42, c_43, i_43, w_43, z0_43, z1_43, c_52, i_52, w_52, z0_52, z1_52, X1_size, X1_literal, X1_numberOfStep, X1_ofFormula, X1_inAll, X1_user, X9_codeOf, X1_firstUse, X1_endOfUses, X2_open, X2_at, X2_add, X2_drop, X2_clear, X4_fuelLeft, X4_isActive, X4_isMarked, X4_mark, X4_usedCount, X4_usedAt, X4_setActive, X4_forget, X4_truthOf]
      rw [h12, if_neg (nI_ge (by omega) (by omega)), rd_59 (by omega), ek, h1]
      simp only [bnd_x]
      rw [nI_1, f1]
    · intro r hr
      rw [f2 r hr, h2 r hr, h3 60 (by decide), h3 54 (by decide)]
      constructor
      · rintro ((h | ⟨ha, hb⟩) | ⟨q, m, a1, a2, a3, a4, a5, a6⟩)
        · exact Or.inl h
        · exact Or.inr ⟨i, k, Nat.le_refl _, by omega, ek, by omega, ha, hb⟩
        · exact Or.inr ⟨q, m, by omega, a2, a3, a4, a5, by rw [a6, rank_fr (h3 56 (by decide))]⟩
      · rintro (h | ⟨q, m, a1, a2, a3, a4, a5, a6⟩)
        · exact Or.inl (Or.inl h)
        · by_cases e : q = i
          · subst e
            rw [ek] at a3
            have := (nI_eq (by omega) (by omega)).mp a3
            subst this
            exact Or.inl (Or.inr ⟨a5, a6⟩)
          · exact Or.inr ⟨q, m, by omega, a2, a3, a4, a5, by rw [a6, rank_fr (h3 56 (by decide))]⟩
theorem lf_zero {V : Nat → Int32} (hO : OKD N sz lt) (hV : ∀ x, 1 ≤ x → x ≤ 150 → V x = 0) {k : Nat} (k1 : 1 ≤ k) (k2 : k ≤ N) : lf V sz lt k = sz k ∧ ¬ sat V sz lt k := by
  obtain ⟨-, hlit, -⟩ := hO.2 k k1 k2
  have h0 : ∀ j, j < sz k → tv V (lt k j) = 0 := by
    intro j hj
    have := L_av (hlit j hj)
    exact tv_00 (hV _ (by omega) (by omega))
  constructor
  · unfold lf
    have : ∀ m, m ≤ sz k → cn (fun j => !(tv V (lt k j) == -1)) m = m := by
      intro m
      induction m with
      | zero => intro _; rfl
      | succ m ih =>
        intro hm
        unfold cn
        rw [ih (by omega), if_pos]
        show (!(tv V (lt k m) == -1)) = true
        rw [h0 m (by omega)]; rfl
    exact this _ (Nat.le_refl _)
  · rintro ⟨j, hj, e⟩
    rw [h0 j hj] at e
    exact absurd e (by decide)
theorem cn_all {p : Nat → Bool} : ∀ {m : Nat}, (∀ i, i < m → p i = true) → cn p m = m
  | 0, _ => rfl
  | m + 1, h => by
    unfold cn
    rw [cn_all (fun i hi => h i (by omega)), h m (by omega)]; simp
theorem restart_loop (hO : OKD N sz lt) {n : Nat} (hn : n ≤ 150) : ∀ (d t f : Nat) (I : Nat → Nat → Int32), t + d = n → d < f → I 52 14 = nI n → USC I N sz lt → LI I N sz lt → BI I n t → SO I N sz →
    ∃ I', fX4_restart_2 f 52 (nI t) (st I v J) = some (st I' v J) ∧ TI I' 0 ∧ LI I' N sz lt ∧ RI I' N sz lt ∧ (∀ x, 1 ≤ x → x ≤ 150 → I' 64 x = 0) ∧ I' 52 = vup (vup (vup (I 52) 14 0) 13 0) 16 0 ∧ (∀ a, a ≠ 52 → a ≠ 58 → a ≠ 62 → a ≠ 64 → I' a = I a) := by
  intro d
  induction d with
  | zero =>
    intro t f I ht hf h14 hU hL hB hS
    obtain ⟨f, rfl⟩ : ∃ m, f = m + 1 := ⟨f - 1, by omega⟩
    have hz : ∀ x, 1 ≤ x → x ≤ 150 → I 64 x = 0 := by
      intro x x1 x2
      apply Classical.byContradiction
      intro q
      obtain ⟨y, y1, y2, -⟩ := hB.2.2.1 x x1 x2 q
      omega
    obtain ⟨c, hc, s12, s1, s2⟩ := hS
    let I1 := fillN (up (up (up I 52 14 0) 52 13 0) 52 16 0) 62 38 0
    have hI1 : ∀ a, a ≠ 52 → a ≠ 62 → I1 a = I a := by
      intro a a1 a2
      funext j
      show fillN (up (up (up I 52 14 0) 52 13 0) 52 16 0) 62 38 0 a j = I a j
      unfold fillN
      rw [if_neg (fun q => a2 q.1), up_ne a1, up_ne a1, up_ne a1]
    have h52 : I1 52 = vup (vup (vup (I 52) 14 0) 13 0) 16 0 := by
      funext j
      show fillN (up (up (up I 52 14 0) 52 13 0) 52 16 0) 62 38 0 52 j = _
      unfold fillN
      rw [if_neg (fun q => absurd q.1 (by decide)), up_at, up_at, up_at]
    have hrb : ∀ r, r < 1216 → rb I1 r = false := by
      intro r hr
      apply rb_w0 (a := r / 32) _ rfl
      show fillN (up (up (up I 52 14 0) 52 13 0) 52 16 0) 62 38 0 62 (r / 32) = 0
      unfold fillN
      rw [if_pos ⟨rfl, by omega⟩]
    have hz1 := zfu_big
    obtain ⟨I', f1, f2, f3⟩ := short_loop (v := v) (J := J) (N := N) (sz := sz) hO.1 hc c 0 zfu I1 (by omega) (by omega) (by rw [h52]; exact s12) (fun i hi => by rw [hI1 60 (by decide) (by decide)]; exact s1 i hi)
    have e64 : I' 64 = I 64 := by rw [f3 64 (by decide), hI1 64 (by decide) (by decide)]
    have e58 : I' 58 = I 58 := by rw [f3 58 (by decide), hI1 58 (by decide) (by decide)]
    have e54 : I' 54 = I 54 := by rw [f3 54 (by decide), hI1 54 (by decide) (by decide)]
    have e56 : I' 56 = I 56 := by rw [f3 56 (by decide), hI1 56 (by decide) (by decide)]
    have e52 : I' 52 = vup (vup (vup (I 52) 14 0) 13 0) 16 0 := by rw [f3 52 (by decide), h52]
    have hN := hO.1
    refine ⟨I', ?_, ⟨?_, ?_, ?_, ?_, ?_, ?_⟩, ?_, ⟨?_, ?_⟩, ?_, e52, ?_⟩
    · rw [nI_0] at f1
      unfold fX4_restart_2
      simp only [bnd_x, gd_0, gd_1, gd_o0, gd_o1, ite_self, rf_1_0, rf_1_1, rf_1_5, rf_1_6, rf_1_7, rf_2_0, rf_4_0, rf_6_0, rf_6_1, rf_6_2, rf_7_0, rf_9_0, rf_11_0, rf_13_0, rf_13_1, rf_13_2, rf_14_0, rf_16_0, rf_18_0, rf_20_0, rf_20_1, rf_20_2, rf_21_0, rf_23_0, rf_25_0, rf_27_0, rf_29_0, rf_29_1, rf_29_2, rf_29_3, rf_29_4, rf_29_5, rf_30_0, rf_32_0, rf_34_0, rf_36_0, rf_38_0, rf_40_0, rf_42_0, rf_42_1, rf_42_2, rf_42_3, rf_43_0, rf_43_1, rf_43_2, rf_44_0, rf_46_0, rf_48_0, rf_50_0, rf_52_0, rf_52_1, rf_52_2, rf_52_3, rf_52_4, rf_52_5, rf_52_6, rf_52_7, rf_52_8, rf_52_9, rf_52_10, rf_52_11, rf_53_0, rf_55_0, rf_57_0, rf_59_0, rf_61_0, rf_63_0, rf_65_0, rf_67_0, rf_69_0, rf_71_0, rf_73_0, a_7, p_7, f_7, c_7, a_9, p_9, f_9, c_9, a_11, p_11, f_11, c_11, a_14, p_14, f_14, c_14, a_16, p_16, f_16, c_16, a_18, p_18, f_18, c_18, a_21, p_21, f_21, c_21, a_23, p_23, f_23, c_23, a_25, p_25, f_25, c_25, a_30, p_30, f_30, c_30, a_32, p_32, f_32, c_32, a_34, p_34, f_34, c_34, a_36, p_36, f_36, c_36, a_38, p_38, f_38, c_38, a_40, p_40, f_40, c_40, a_44, p_44, f_44, c_44, a_46, p_46, f_46, c_46, a_48, p_48, f_48, c_48, a_50, p_50, f_50, c_50, a_53, p_53, f_53, c_53, a_55, p_55, f_55, c_55, a_57, p_57, f_57, c_57, a_59, p_59, f_59, c_59, a_61, p_61, f_61, c_61, a_63, p_63, f_63, c_63, a_65, p_65, f_65, c_65, a_67, p_67, f_67, c_67, a_69, p_69, f_69, c_69, a_71, p_71, f_71, c_71, a_73, p_73, f_73, c_73, c_1, i_1, w_1, z0_1, z1_1, c_2, i_2, w_2, z0_2, z1_2, c_4, i_4, w_4, z0_4, z1_4, c_6, i_6, w_6, z0_6, z1_6, c_13, i_13, w_13, z0_13, z1_13, c_20, i_20, w_20, z0_20, z1_20, c_27, i_27, w_27, z0_27, z1_27, c_28, i_28, w_28, z0_28, z1_28, c_29, i_29, w_29, z0_29, z1_29, c_42, i_42, w_42, z0_42, z1_42, c_43, i_43, w_43, z0_43, z1_43, c_52, i_52, w_52, z0_52, z1_52, X1_size, X1_literal, X1_numberOfStep, X1_ofFormula, X1_inAll, X1_user, X9_codeOf, X1_firstUse, X1_endOfUses, X2_open, X2_at, X2_add, X2_drop, X2_clear, X4_fuelLeft, X4_isActive, X4_isMarked, X4_mark, X4_usedCount, X4_usedAt, X4_setActive, X4_forget, X4_truthOf]
      rw [h14, if_pos (nI_le (by omega) (by omega))]
      exact f1
    · rw [e52]; rfl
    · rw [Nat.zero_add]
      apply cn_all
      intro i hi
      show (I' 64 (i + 1) == 0) = true
      rw [e64, hz (i + 1) (by omega) (by omega)]; rfl
    · rw [e64]; exact hB.2.2.2
    · intro t ht; omega
    · intro t t' a b; omega
    · intro x x1 x2 q
      rw [e64, hz x x1 x2] at q
      exact absurd rfl q
    · intro k k1 k2
      rw [e58, e64]; exact hL k k1 k2
    · intro r hr hb
      rw [f2 r hr, hrb r hr, hI1 60 (by decide) (by decide), hI1 54 (by decide) (by decide)] at hb
      rcases hb with hb | ⟨q, k, -, q2, q3, q4, q5, q6⟩
      · exact absurd hb (by decide)
      · obtain ⟨m, m1, m2, m3, m4⟩ := s1 q q2
        rw [m4] at q3
        have := (nI_eq (by omega) (by omega)).mp q3
        subst this
        refine ⟨m, m1, m2, ?_, by rw [e54]; exact q5, ?_⟩
        · rw [q6, rank_fr (hI1 56 (by decide) (by decide)), rank_fr e56]
        · rw [e64, (lf_zero hO hz m1 m2).1]; exact m3
    · intro k k1 k2 _ ha hle _
      rw [e54] at ha
      rw [e64, (lf_zero hO hz k1 k2).1] at hle
      obtain ⟨i, hi, ei⟩ := s2 k k1 k2 hle
      rw [f2 _ (rank_lt (by omega)), hI1 60 (by decide) (by decide), hI1 54 (by decide) (by decide)]
      exact Or.inr ⟨i, k, by omega, hi, ei, by omega, ha, by rw [rank_fr e56, rank_fr (hI1 56 (by decide) (by decide))]⟩
    · intro x x1 x2; rw [e64]; exact hz x x1 x2
    · intro a a1 a2 a3 a4
      rw [f3 a a3, hI1 a a1 a3]
  | succ d ih =>
    intro t f I ht hf h14 hU hL hB hS
    obtain ⟨f, rfl⟩ : ∃ m, f = m + 1 := ⟨f - 1, by omega⟩
    obtain ⟨b1, b2, b3, b4⟩ := hB
    obtain ⟨hl, h1⟩ := b1 t (Nat.le_refl _) (by omega)
    obtain ⟨I2, g1, g2, g3, g4⟩ := takeBack_ok (v := v) (J := J) hO hU hL hl h1
    have g68 : I2 68 = I 68 := g4 68 (by decide) (by decide)
    have g52 : I2 52 = I 52 := g4 52 (by decide) (by decide)
    obtain ⟨I', f1, f2, f3, f4, f5, f6, f7⟩ := ih (t + 1) f I2 (by omega) (by omega) (by rw [g52]; exact h14) (USC_fr hU (g4 37 (by decide) (by decide)) (g4 39 (by decide) (by decide)) (g4 41 (by decide) (by decide))) g3 (by
      refine ⟨?_, ?_, ?_, ?_⟩
      · intro q q1 q2
        rw [g68, g2]
        obtain ⟨r1, r2⟩ := b1 q (by omega) q2
        refine ⟨r1, ?_⟩
        have := b2 t q (by omega) q2
        unfold tv
        rw [vup_n (fun e => this e.symm)]
        exact r2
      · rw [g68]; exact b2
      · intro x x1 x2 hx
        rw [g2] at hx
        rw [g68]
        by_cases e : x = av (I 68 t)
        · rw [e, vup_s] at hx; exact absurd rfl hx
        · rw [vup_n e] at hx
          obtain ⟨q, q1, q2, q3⟩ := b3 x x1 x2 hx
          refine ⟨q, ?_, q2, q3⟩
          by_cases r : q = t
          · subst r; exact absurd q3.symm e
          · omega
      · rw [g2]
        intro x hx0 hx
        unfold vup
        split
        · exact Or.inl rfl
        · exact b4 x hx0 hx) (by
      obtain ⟨c, c1, c2, c3, c4⟩ := hS
      refine ⟨c, c1, by rw [g52]; exact c2, ?_, ?_⟩
      · rw [g4 60 (by decide) (by decide)]; exact c3
      · rw [g4 60 (by decide) (by decide)]; exact c4)
    refine ⟨I', ?_, f2, f3, f4, f5, by rw [f6, g52], fun a a1 a2 a3 a4 => by rw [f7 a a1 a2 a3 a4, g4 a a2 a4]⟩
    conv => lhs; unfold fX4_restart_2
    simp only [bnd_x, gd_0, gd_1, gd_o0, gd_o1, ite_self, rf_1_0, rf_1_1, rf_1_5, rf_1_6, rf_1_7, rf_2_0, rf_4_0, rf_6_0, rf_6_1, rf_6_2, rf_7_0, rf_9_0, rf_11_0, rf_13_0, rf_13_1, rf_13_2, rf_14_0, rf_16_0, rf_18_0, rf_20_0, rf_20_1, rf_20_2, rf_21_0, rf_23_0, rf_25_0, rf_27_0, rf_29_0, rf_29_1, rf_29_2, rf_29_3, rf_29_4, rf_29_5, rf_30_0, rf_32_0, rf_34_0, rf_36_0, rf_38_0, rf_40_0, rf_42_0, rf_42_1, rf_42_2, rf_42_3, rf_43_0, rf_43_1, rf_43_2, rf_44_0, rf_46_0, rf_48_0, rf_50_0, rf_52_0, rf_52_1, rf_52_2, rf_52_3, rf_52_4, rf_52_5, rf_52_6, rf_52_7, rf_52_8, rf_52_9, rf_52_10, rf_52_11, rf_53_0, rf_55_0, rf_57_0, rf_59_0, rf_61_0, rf_63_0, rf_65_0, rf_67_0, rf_69_0, rf_71_0, rf_73_0, a_7, p_7, f_7, c_7, a_9, p_9, f_9, c_9, a_11, p_11, f_11, c_11, a_14, p_14, f_14, c_14, a_16, p_16, f_16, c_16, a_18, p_18, f_18, c_18, a_21, p_21, f_21, c_21, a_23, p_23, f_23, c_23, a_25, p_25, f_25, c_25, a_30, p_30, f_30, c_30, a_32, p_32, f_32, c_32, a_34, p_34, f_34, c_34, a_36, p_36, f_36, c_36, a_38, p_38, f_38, c_38, a_40, p_40, f_40, c_40, a_44, p_44, f_44, c_44, a_46, p_46, f_46, c_46, a_48, p_48, f_48, c_48, a_50, p_50, f_50, c_50, a_53, p_53, f_53, c_53, a_55, p_55, f_55, c_55, a_57, p_57, f_57, c_57, a_59, p_59, f_59, c_59, a_61, p_61, f_61, c_61, a_63, p_63, f_63, c_63, a_65, p_65, f_65, c_65, a_67, p_67, f_67, c_67, a_69, p_69, f_69, c_69, a_71, p_71, f_71, c_71, a_73, p_73, f_73, c_73, c_1, i_1, w_1, z0_1, z1_1, c_2, i_2, w_2, z0_2, z1_2, c_4, i_4, w_4, z0_4, z1_4, c_6, i_6, w_6, z0_6, z1_6, c_13, i_13, w_13, z0_13, z1_13, c_20, i_20, w_20, z0_20, z1_20, c_27, i_27, w_27, z0_27, z1_27, c_28, i_28, w_28, z0_28, z1_28, c_29, i_29, w_29, z0_29, z1_29, c_42, i_42, w_42, z0_42, z1_42, c_43, i_43, w_43, z0_43, z1_43, c_52, i_52, w_52, z0_52, z1_52, X1_size, X1_literal, X1_numberOfStep, X1_ofFormula, X1_inAll, X1_user, X9_codeOf, X1_firstUse, X1_endOfUses, X2_open, X2_at, X2_add, X2_drop, X2_clear, X4_fuelLeft, X4_isActive, X4_isMarked, X4_mark, X4_usedCount, X4_usedAt, X4_setActive, X4_forget, X4_truthOf]
    rw [h14, if_neg (nI_ge (by omega) (by omega)), rd_67 (by omega), g1]
    simp only [bnd_x]
    rw [nI_1, f1]
theorem restart_ok {I : Nat → Nat → Int32} (hO : OKD N sz lt) {n : Nat} (hT : TI I n) (hU : USC I N sz lt) (hL : LI I N sz lt) (hS : SO I N sz) :
    ∃ I', fX4_restart 52 (st I v J) = some (st I' v J) ∧ TI I' 0 ∧ LI I' N sz lt ∧ RI I' N sz lt ∧ (∀ x, 1 ≤ x → x ≤ 150 → I' 64 x = 0) ∧ I' 52 = vup (vup (vup (I 52) 14 0) 13 0) 16 0 ∧ (∀ a, a ≠ 52 → a ≠ 58 → a ≠ 62 → a ≠ 64 → I' a = I a) := by
  obtain ⟨a, b, c, d, e, f⟩ := hT
  have hn : n ≤ 150 := by omega
  have hz := zfu_big
  have q := restart_loop (v := v) (J := J) hO hn n 0 zfu I (by omega) (by omega) a hU hL ⟨fun q _ h => d q h, e, fun x x1 x2 hx => by obtain ⟨t, t1, t2⟩ := f x x1 x2 hx; exact ⟨t, by omega, t1, t2⟩, c⟩ hS
  rw [nI_0] at q
  unfold fX4_restart
  exact q
end
