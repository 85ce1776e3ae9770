/-! What a conflict used. -/
/-- back along the trail, t places left: U is what is used so far -/
def gs (rs : Nat → Nat) (tl : Nat → Int32) (sz : Nat → Nat) (lt : Nat → Nat → Int32) : Nat → List Nat → List Nat
  | 0, U => U
  | t + 1, U => gs rs tl sz lt t (if rs t ≠ 0 ∧ U.any (fun k => hs sz lt k (- tl t)) = true then rs t :: U else U)
/-- nonzero reasons differ, also from c -/
def RD (rs : Nat → Nat) (n c : Nat) : Prop := (∀ t t', t < t' → t' < n → rs t = rs t' → rs t = 0) ∧ (∀ t, t < n → rs t ≠ 0 → rs t ≠ c)
theorem gs_step {rs : Nat → Nat} {tl : Nat → Int32} {sz : Nat → Nat} {lt : Nat → Nat → Int32} {n c : Nat} (h : RD rs n c) : ∀ (t d : Nat) (U : List Nat), t + d = n → U = ((List.range' t d).filter (fun q => decide (rs q ≠ 0 ∧ rs q ∈ U))).map rs ++ [c] →
    gs rs tl sz lt t U = ((List.range' 0 n).filter (fun q => decide (rs q ≠ 0 ∧ rs q ∈ gs rs tl sz lt t U))).map rs ++ [c] := by
  intro t
  induction t with
  | zero =>
    intro d U hd hU
    have : d = n := by omega
    subst this
    exact hU
  | succ t ih =>
    intro d U hd hU
    show gs rs tl sz lt t (if rs t ≠ 0 ∧ U.any (fun k => hs sz lt k (- tl t)) = true then rs t :: U else U) = ((List.range' 0 n).filter (fun q => decide (rs q ≠ 0 ∧ rs q ∈ gs rs tl sz lt t (if rs t ≠ 0 ∧ U.any (fun k => hs sz lt k (- tl t)) = true then rs t :: U else U)))).map rs ++ [c]
    apply ih (d + 1) _ (by omega)
    have hr : List.range' t (d + 1) = t :: List.range' (t + 1) d := by simp [List.range'_succ]
    rw [hr]
    by_cases hc : rs t ≠ 0 ∧ U.any (fun k => hs sz lt k (- tl t)) = true
    · rw [if_pos hc]
      have e : (List.range' (t + 1) d).filter (fun q => decide (rs q ≠ 0 ∧ rs q ∈ rs t :: U)) = (List.range' (t + 1) d).filter (fun q => decide (rs q ≠ 0 ∧ rs q ∈ U)) := by
        apply List.filter_congr
        intro q hq
        rw [List.mem_range'_1] at hq
        have : rs q ≠ 0 → rs q ≠ rs t := by
          intro a b
          have := h.1 t q (by omega) (by omega) b.symm
          exact a (b.trans this)
        by_cases q0 : rs q = 0
        · simp [q0]
        · have := this q0
          simp [q0, this]
      rw [List.filter_cons, if_pos (by simp [hc.1]), List.map_cons, List.cons_append, e, ← hU]
    · rw [if_neg hc]
      have : ¬ (rs t ≠ 0 ∧ rs t ∈ U) := by
        rintro ⟨a, b⟩
        rw [hU] at b
        rcases List.mem_append.mp b with b | b
        · obtain ⟨q, q1, q2⟩ := List.mem_map.mp b
          have q3 := (List.mem_filter.mp q1).1
          rw [List.mem_range'_1] at q3
          exact a (h.1 t q (by omega) (by omega) q2.symm)
        · rw [List.mem_singleton] at b
          exact h.2 t (by omega) a b
      rw [List.filter_cons, if_neg (by simpa using this)]
      exact hU
theorem gs_list {rs : Nat → Nat} {tl : Nat → Int32} {sz : Nat → Nat} {lt : Nat → Nat → Int32} {n c : Nat} (h : RD rs n c) :
    gs rs tl sz lt n [c] = ((List.range n).filter (fun q => decide (rs q ≠ 0 ∧ rs q ∈ gs rs tl sz lt n [c]))).map rs ++ [c] := by
  rw [List.range_eq_range']
  exact gs_step h n 0 [c] (by omega) (by simp)
theorem gs_mem {rs : Nat → Nat} {tl : Nat → Int32} {sz : Nat → Nat} {lt : Nat → Nat → Int32} {N n : Nat} (h : ∀ t, t < n → rs t ≤ N) : ∀ (t : Nat) (U : List Nat), t ≤ n → (∀ k ∈ U, 1 ≤ k ∧ k ≤ N) → ∀ k ∈ gs rs tl sz lt t U, 1 ≤ k ∧ k ≤ N
  | 0, U, _, hU => hU
  | t + 1, U, ht, hU => by
    apply gs_mem h t _ (by omega)
    split
    · rename_i q
      intro k hk
      rcases List.mem_cons.mp hk with e | e
      · rw [e]; exact ⟨by omega, h t (by omega)⟩
      · exact hU k e
    · exact hU
theorem gs_len {rs : Nat → Nat} {tl : Nat → Int32} {sz : Nat → Nat} {lt : Nat → Nat → Int32} : ∀ (t : Nat) (U : List Nat), (gs rs tl sz lt t U).length ≤ U.length + t
  | 0, U => by simp [gs]
  | t + 1, U => by
    have := gs_len (rs := rs) (tl := tl) (sz := sz) (lt := lt) t (if rs t ≠ 0 ∧ U.any (fun k => hs sz lt k (- tl t)) = true then rs t :: U else U)
    unfold gs
    have : (if rs t ≠ 0 ∧ U.any (fun k => hs sz lt k (- tl t)) = true then rs t :: U else U).length ≤ U.length + 1 := by
      split <;> simp
    omega
section
variable {v : zV} {J : Nat → Nat → Int64} {N : Nat} {sz : Nat → Nat} {lt : Nat → Nat → Int32}
theorem want_loop (hO : OKD N sz lt) {k : Nat} (k1 : 1 ≤ k) (k2 : k ≤ N) : ∀ (d j n : Nat) (I : Nat → Nat → Int32), j + d = sz k → d < n → DBC I N sz lt →
    ∃ I', fX4_wantOpposites_11 n 52 (nI k) (nI (sz k)) (nI j) (st I v J) = some (st I' v J) ∧ (∀ x, isL x → (I' 72 (cd x) ≠ 0 ↔ I 72 (cd x) ≠ 0 ∨ ∃ i, j ≤ i ∧ i < sz k ∧ lt k i = -x)) ∧ (∀ a, a ≠ 72 → I' a = I a) := by
  obtain ⟨h40, hlit, -⟩ := hO.2 k k1 k2
  intro d
  induction d with
  | zero =>
    intro j n I hj hn hD
    obtain ⟨n, rfl⟩ : ∃ m, n = m + 1 := ⟨n - 1, by omega⟩
    refine ⟨I, ?_, ?_, fun _ _ => rfl⟩
    · unfold fX4_wantOpposites_11
      rw [if_pos (nI_le (by omega) (by omega))]
    · intro x hx
      constructor
      · exact Or.inl
      · rintro (h | ⟨i, i1, i2, -⟩)
        · exact h
        · omega
  | succ d ih =>
    intro j n I hj hn hD
    obtain ⟨n, rfl⟩ : ∃ m, n = m + 1 := ⟨n - 1, by omega⟩
    have hl := hlit j (by omega)
    have hl2 := L_neg hl
    obtain ⟨c1, c2, c3⟩ := L_lc hl2
    have hI1 : ∀ a, a ≠ 72 → up I 72 (cd (-lt k j)) 1 a = I a := fun a ha => up_ne ha
    obtain ⟨I', f1, f2, f3⟩ := ih (j + 1) n (up I 72 (cd (-lt k j)) 1) (by omega) (by omega) (DBC_fr hD (hI1 29 (by decide)) (hI1 31 (by decide)) (hI1 33 (by decide)))
    refine ⟨I', ?_, ?_, fun a ha => by rw [f3 a ha, hI1 a ha]⟩
    · conv => lhs; unfold fX4_wantOpposites_11
      rw [if_neg (nI_ge (by omega) (by omega))]
      simp only [bnd_x, gd_0, gd_1, gd_o0, gd_o1, ite_self, rf_1_0, rf_1_1, rf_1_5, rf_1_6, rf_1_7, rf_2_0, rf_4_0, rf_6_0, rf_6_1, rf_6_2, rf_7_0, rf_9_0, rf_11_0, rf_13_0, rf_13_1, rf_13_2, rf_14_0, rf_16_0, rf_18_0, rf_20_0, rf_20_1, rf_20_2, rf_21_0, rf_23_0, rf_25_0, rf_27_0, rf_29_0, rf_29_1, rf_29_2, rf_29_3, rf_29_4, rf_29_5, rf_30_0, rf_32_0, rf_34_0, rf_36_0, rf_38_0, rf_40_0, rf_42_0, rf_42_1, rf_42_2, rf_42_3, rf_43_0, rf_43_1, rf_43_2, rf_44_0, rf_46_0, rf_48_0, rf_50_0, rf_52_0, rf_52_1, rf_52_2, rf_52_3, rf_52_4, rf_52_5, rf_52_6, rf_52_7, rf_52_8, rf_52_9, rf_52_10, rf_52_11, rf_53_0, rf_55_0, rf_57_0, rf_59_0, rf_61_0, rf_63_0, rf_65_0, rf_67_0, rf_69_0, rf_71_0, rf_73_0, a_7, p_7, f_7, c_7, a_9, p_9, f_9, c_9, a_11, p_11, f_11, c_11, a_14, p_14, f_14, c_14, a_16, p_16, f_16, c_16, a_18, p_18, f_18, c_18, a_21, p_21, f_21, c_21, a_23, p_23, f_23, c_23, a_25, p_25, f_25, c_25, a_30, p_30, f_30, c_30, a_32, p_32, f_32, c_32, a_34, p_34, f_34, c_34, a_36, p_36, f_36, c_36, a_38, p_38, f_38, c_38, a_40, p_40, f_40, c_40, a_44, p_44, f_44, c_44, a_46, p_46, f_46, c_46, a_48, p_48, f_48, c_48, a_50, p_50, f_50, c_50, a_53, p_53, f_53, c_53, a_55, p_55, f_55, c_55, a_57, p_57, f_57, c_57, a_59, p_59, f_59, c_59, a_61, p_61, f_61, c_61, a_63, p_63, f_63, c_63, a_65, p_65, f_65, c_65, a_67, p_67, f_67, c_67, a_69, p_69, f_69, c_69, a_71, p_71, f_71, c_71, a_73, p_73, f_73, c_73, c_1, i_1, w_1, z0_1, z1_1, c_2, i_2, w_2, z0_2, z1_2, c_4, i_4, w_4, z0_4, z1_4, c_6, i_6, w_6, z0_6, z1_6, c_13, i_13, w_13, z0_13, z1_13, c_20, i_20, w_20, z0_20, z1_20, c_27, i_27, w_27, z0_27, z1_27, c_28, i_28, w_28, z0_28, z1_28, c_29, i_29, w_29, z0_29, z1_29, c_42, i_42, w_42, z0_42, z1_42, c_43, i_43, w_43, z0_43, z1_43, c_52, i_52, w_52, z0_52, z1_52, X1_size, X1_literal, X1_numberOfStep, X1_ofFormula, X1_inAll, X1_user, X9_codeOf, X1_firstUse, X1_endOfUses, X2_open, X2_at, X2_add, X2_drop, X2_clear, X4_fuelLeft, X4_isActive, X4_isMarked, X4_mark, X4_usedCount, X4_usedAt, X4_setActive, X4_forget, X4_truthOf]
      rw [hD.2.2 k j k1 k2 (by omega), L_cd hl2, wr_71 (by omega), nI_1, f1]
    · intro x hx
      rw [f2 x hx, up_at]
      by_cases e : cd x = cd (-lt k j)
      · have ex := L_cdi hx hl2 e
        rw [e, vup_s]
        constructor
        · intro _
          exact Or.inr ⟨j, Nat.le_refl _, by omega, by rw [ex, Int32.neg_neg]⟩
        · intro _; exact Or.inl (by decide)
      · rw [vup_n e]
        constructor
        · rintro (h | ⟨i, i1, i2, i3⟩)
          · exact Or.inl h
          · exact Or.inr ⟨i, by omega, i2, i3⟩
        · rintro (h | ⟨i, i1, i2, i3⟩)
          · exact Or.inl h
          · by_cases q : i = j
            · subst q
              exact absurd (by rw [i3, Int32.neg_neg]) e
            · exact Or.inr ⟨i, by omega, i2, i3⟩
theorem want_ok (hO : OKD N sz lt) {I : Nat → Nat → Int32} {k : Nat} (k1 : 1 ≤ k) (k2 : k ≤ N) (hD : DBC I N sz lt) :
    ∃ I', fX4_wantOpposites 52 (nI k) (st I v J) = some (st I' v J) ∧ (∀ x, isL x → (I' 72 (cd x) ≠ 0 ↔ I 72 (cd x) ≠ 0 ∨ hs sz lt k (-x) = true)) ∧ (∀ a, a ≠ 72 → I' a = I a) := by
  have h40 := (hO.2 k k1 k2).1
  have hz := zfu_big
  obtain ⟨I', f1, f2, f3⟩ := want_loop (v := v) (J := J) hO k1 k2 (sz k) 0 zfu I (by omega) (by omega) hD
  refine ⟨I', ?_, ?_, f3⟩
  · simp only [fX4_wantOpposites, bnd_x, gd_0, gd_1, gd_o0, gd_o1, ite_self, rf_1_0, rf_1_1, rf_1_5, rf_1_6, rf_1_7, rf_2_0, rf_4_0, rf_6_0, rf_6_1, rf_6_2, rf_7_0, rf_9_0, rf_11_0, rf_13_0, rf_13_1, rf_13_2, rf_14_0, rf_16_0, rf_18_0, rf_20_0, rf_20_1, rf_20_2, rf_21_0, rf_23_0, rf_25_0, rf_27_0, rf_29_0, rf_29_1, rf_29_2, rf_29_3, rf_29_4, rf_29_5, rf_30_0, rf_32_0, rf_34_0, rf_36_0, rf_38_0, rf_40_0, rf_42_0, rf_42_1, rf_42_2, rf_42_3, rf_43_0, rf_43_1, rf_43_2, rf_44_0, rf_46_0, rf_48_0, rf_50_0, rf_52_0, rf_52_1, rf_52_2, rf_52_3, rf_52_4, rf_52_5, rf_52_6, rf_52_7, rf_52_8, rf_52_9, rf_52_10, rf_52_11, rf_53_0, rf_55_0, rf_57_0, rf_59_0, rf_61_0, rf_63_0, rf_65_0, rf_67_0, rf_69_0, rf_71_0, rf_73_0, a_7, p_7, f_7, c_7, a_9, p_9, f_9, c_9, a_11, p_11, f_11, c_11, a_14, p_14, f_14, c_14, a_16, p_16, f_16, c_16, a_18, p_18, f_18, c_18, a_21, p_21, f_21, c_21, a_23, p_23, f_23, c_23, a_25, p_25, f_25, c_25, a_30, p_30, f_30, c_30, a_32, p_32, f_32, c_32, a_34, p_34, f_34, c_34, a_36, p_36, f_36, c_36, a_38, p_38, f_38, c_38, a_40, p_40, f_40, c_40, a_44, p_44, f_44, c_44, a_46, p_46, f_46, c_46, a_48, p_48, f_48, c_48, a_50, p_50, f_50, c_50, a_53, p_53, f_53, c_53, a_55, p_55, f_55, c_55, a_57, p_57, f_57, c_57, a_59, p_59, f_59, c_59, a_61, p_61, f_61, c_61, a_63, p_63, f_63, c_63, a_65, p_65, f_65, c_65, a_67, p_67, f_67, c_67, a_69, p_69, f_69, c_69, a_71, p_71, f_71, c_71, a_73, p_73, f_73, c_73, c_1, i_1, w_1, z0_1, z1_1, c_2, i_2, w_2, z0_2, z1_2, c_4, i_4, w_4, z0_4, z1_4, c_6, i_6, w_6, z0_6, z1_6, c_13, i_13, w_13, z0_13, z1_13, c_20, i_20, w_20, z0_20, z1_20, c_27, i_27, w_27, z0_27, z1_27, c_28, i_28, w_28, z0_28, z1_28, c_29, i_29, w_29, z0_29, z1_29, c_42, i_42, w_42, z0_42, z1_42, c_43, i_43, w_43, z0_43, z1_43, c_52, i_52, w_52, z0_52, z1_52, X1_size, X1_literal, X1_numberOfStep, X1_ofFormula, X1_inAll, X1_user, X9_codeOf, X1_firstUse, X1_endOfUses, X2_open, X2_at, X2_add, X2_drop, X2_clear, X4_fuelLeft, X4_isActive, X4_isMarked, X4_mark, X4_usedCount, X4_usedAt, X4_setActive, X4_forget, X4_truthOf]
    rw [hD.2.1 k k1 k2]
    rw [nI_0] at f1
    exact f1
  · intro x hx
    rw [f2 x hx, hs_i]
    simp
def UL (I : Nat → Nat → Int32) (U : List Nat) : Prop := I 52 15 = nI U.length ∧ U.length ≤ 151 ∧ ∀ i, i < U.length → I 74 i = nI (U.getD i 0)
/-- the shift -/
theorem shift_loop {n p c : Nat} (hn : n ≤ 150) (hp : p ≤ n) : ∀ (d t f : Nat) (I : Nat → Nat → Int32), t + d = n → p ≤ t → d < f → I 52 14 = nI n → I 52 16 = nI c →
    ∃ I', fX4_gatherUsed_104 f 52 (nI p) (nI t) (st I v J) = some (st I' v J) ∧ I' 52 15 = nI (n - p + 1) ∧ (∀ i, i < t - p → I' 74 i = I 74 i) ∧ (∀ i, t - p ≤ i → i < n - p → I' 74 i = I 74 (p + i)) ∧ I' 74 (n - p) = nI c ∧ (∀ j, j ≠ 15 → I' 52 j = I 52 j) ∧ (∀ a, a ≠ 52 → a ≠ 74 → I' a = I a) := by
  intro d
  induction d with
  | zero =>
    intro t f I ht hpt hf h14 h16
    obtain ⟨f, rfl⟩ : ∃ m, f = m + 1 := ⟨f - 1, by omega⟩
    refine ⟨up (up (up I 52 15 (nI (n - p))) 74 (n - p) (nI c)) 52 15 (nI (n - p + 1)), ?_, ?_, ?_, ?_, ?_, ?_, ?_⟩
    · unfold fX4_gatherUsed_104
      have e1 : ∀ (I : Nat → Nat → Int32) (x : Int32), up I 52 15 x 52 16 = I 52 16 := fun I x => by simp [up]
      have e2 : ∀ (I : Nat → Nat → Int32) (x : Int32), wr I 73 (nI (n - p)) x = up I 74 (n - p) x := fun I x => wr_73 (by omega)
      have e3 : ∀ (I : Nat → Nat → Int32) (x : Int32), up I 74 (n - p) x 52 = I 52 := fun I x => up_ne (by decide)
      simp only [bnd_x, gd_0, gd_1, gd_o0, gd_o1, ite_self, rf_1_0, rf_1_1, rf_1_5, rf_1_6, rf_1_7, rf_2_0, rf_4_0, rf_6_0, rf_6_1, rf_6_2, rf_7_0, rf_9_0, rf_11_0, rf_13_0, rf_13_1, rf_13_2, rf_14_0, rf_16_0, rf_18_0, rf_20_0, rf_20_1, rf_20_2, rf_21_0, rf_23_0, rf_25_0, rf_27_0, rf_29_0, rf_29_1, rf_29_2, rf_29_3, rf_29_4, rf_29_5, rf_30_0, rf_32_0, rf_34_0, rf_36_0, rf_38_0, rf_40_0, rf_42_0, rf_42_1, rf_42_2, rf_42_3, rf_43_0, rf_43_1, rf_43_2, rf_44_0, rf_46_0, rf_48_0, rf_50_0, rf_52_0, rf_52_1, rf_52_2, rf_52_3, rf_52_4, rf_52_5, rf_52_6, rf_52_7, rf_52_8, rf_52_9, rf_52_10, rf_52_11, rf_53_0, rf_55_0, rf_57_0, rf_59_0, rf_61_0, rf_63_0, rf_65_0, rf_67_0, rf_69_0, rf_71_0, rf_73_0, a_7, p_7, f_7, c_7, a_9, p_9, f_9, c_9, a_11, p_11, f_11, c_11, a_14, p_14, f_14, c_14, a_16, p_16, f_16, c_16, a_18, p_18, f_18, c_18, a_21, p_21, f_21, c_21, a_23, p_23, f_23, c_23, a_25, p_25, f_25, c_25, a_30, p_30, f_30, c_30, a_32, p_32, f_32, c_32, a_34, p_34, f_34, c_34, a_36, p_36, f_36, c_36, a_38, p_38, f_38, c_38, a_40, p_40, f_40, c_40, a_44, p_44, f_44, c_44, a_46, p_46, f_46, c_46, a_48, p_48, f_48, c_48, a_50, p_50, f_50, c_50, a_53, p_53, f_53, c_53, a_55, p_55, f_55, c_55, a_57, p_57, f_57, c_57, a_59, p_59, f_59, c_59, a_61, p_61, f_61, c_61, a_63, p_63, f_63, c_63, a_65, p_65, f_65, c_65, a_67, p_67, f_67, c_67, a_69, p_69, f_69, c_69, a_71, p_71, f_71, c_71, a_73, p_73, f_73, c_73, c_1, i_1, w_1, z0_1, z1_1, c_2, i_2, w_2, z0_2, z1_2, c_4, i_4, w_4, z0_4, z1_4, c_6, i_6, w_6, z0_6, z1_6, c_13, i_13, w_13, z0_13, z1_13, c_20, i_20, w_20, z0_20, z1_20, c_27, i_27, w_27, z0_27, z1_27, c_28, i_28, w_28, z0_28, z1_28, c_29, i_29, w_29, z0_29, z1_29, c_42, i_42, w_42, z0_42, z1_42, c_43, i_43, w_43, z0_43, z1_43, c_52, i_52, w_52, z0_52, z1_52, X1_size, X1_literal, X1_numberOfStep, X1_ofFormula, X1_inAll, X1_user, X9_codeOf, X1_firstUse, X1_endOfUses, X2_open, X2_at, X2_add, X2_drop, X2_clear, X4_fuelLeft, X4_isActive, X4_isMarked, X4_mark, X4_usedCount, X4_usedAt, X4_setActive, X4_forget, X4_truthOf, h14, if_pos (nI_le (show n ≤ t by omega) (show t < 2 ^ 31 by omega)), pk_sub hp, up_self, e1, h16, e2, e3, nI_1]
    · rw [up_self]
    · intro i hi
      rw [up_ne (by decide), up_at, vup_n (by omega), up_ne (by decide)]
    · intro i i1 i2; omega
    · rw [up_ne (by decide), up_self]
    · intro j hj
      rw [up_at, vup_n hj, up_ne (by decide), up_at, vup_n hj]
    · intro a a1 a2
      rw [up_ne a1, up_ne a2, up_ne a1]
  | succ d ih =>
    intro t f I ht hpt hf h14 h16
    obtain ⟨f, rfl⟩ : ∃ m, f = m + 1 := ⟨f - 1, by omega⟩
    obtain ⟨I', f1, f2, f3, f4, f5, f6, f7⟩ := ih (t + 1) f (up I 74 (t - p) (I 74 t)) (by omega) (by omega) (by omega) (by rw [up_ne (by decide)]; exact h14) (by rw [up_ne (by decide)]; exact h16)
    refine ⟨I', ?_, f2, ?_, ?_, f5, ?_, ?_⟩
    · conv => lhs; unfold fX4_gatherUsed_104
      simp only [bnd_x, gd_0, gd_1, gd_o0, gd_o1, ite_self, rf_1_0, rf_1_1, rf_1_5, rf_1_6, rf_1_7, rf_2_0, rf_4_0, rf_6_0, rf_6_1, rf_6_2, rf_7_0, rf_9_0, rf_11_0, rf_13_0, rf_13_1, rf_13_2, rf_14_0, rf_16_0, rf_18_0, rf_20_0, rf_20_1, rf_20_2, rf_21_0, rf_23_0, rf_25_0, rf_27_0, rf_29_0, rf_29_1, rf_29_2, rf_29_3, rf_29_4, rf_29_5, rf_30_0, rf_32_0, rf_34_0, rf_36_0, rf_38_0, rf_40_0, rf_42_0, rf_42_1, rf_42_2, rf_42_3, rf_43_0, rf_43_1, rf_43_2, rf_44_0, rf_46_0, rf_48_0, rf_50_0, rf_52_0, rf_52_1, rf_52_2, rf_52_3, rf_52_4, rf_52_5, rf_52_6, rf_52_7, rf_52_8, rf_52_9, rf_52_10, rf_52_11, rf_53_0, rf_55_0, rf_57_0, rf_59_0, rf_61_0, rf_63_0, rf_65_0, rf_67_0, rf_69_0, rf_71_0, rf_73_0, a_7, p_7, f_7, c_7, a_9, p_9, f_9, c_9, a_11, p_11, f_11, c_11, a_14, p_14, f_14, c_14, a_16, p_16, f_16, c_16, a_18, p_18, f_18, c_18, a_21, p_21, f_21, c_21, a_23, p_23, f_23, c_23, a_25, p_25, f_25, c_25, a_30, p_30, f_30, c_30, a_32, p_32, f_32, c_32, a_34, p_34, f_34, c_34, a_36, p_36, f_36, c_36, a_38, p_38, f_38, c_38, a_40, p_40, f_40, c_40, a_44, p_44, f_44, c_44, a_46, p_46, f_46, c_46, a_48, p_48, f_48, c_48, a_50, p_50, f_50, c_50, a_53, p_53, f_53, c_53, a_55, p_55, f_55, c_55, a_57, p_57, f_57, c_57, a_59, p_59, f_59, c_59, a_61, p_61, f_61, c_61, a_63, p_63, f_63, c_63, a_65, p_65, f_65, c_65, a_67, p_67, f_67, c_67, a_69, p_69, f_69, c_69, a_71, p_71, f_71, c_71, a_73, p_73, f_73, c_73, c_1, i_1, w_1, z0_1, z1_1, c_2, i_2, w_2, z0_2, z1_2, c_4, i_4, w_4, z0_4, z1_4, c_6, i_6, w_6, z0_6, z1_6, c_13, i_13, w_13, z0_13, z1_13, c_20, i_20, w_20, z0_20, z1_20, c_27, i_27, w_27, z0_27, z1_27, c_28, i_28, w_28, z0_28, z1_28, c_29, i_29, w_29, z0_29, z1_29, c_42, i_42, w_42, z0_42, z1_42, c_43, i_43, w_43, z0_43, z1_43, c_52, i_52, w_52, z0_52, z1_52, X1_size, X1_literal, X1_numberOfStep, X1_ofFormula, X1_inAll, X1_user, X9_codeOf, X1_firstUse, X1_endOfUses, X2_open, X2_at, X2_add, X2_drop, X2_clear, X4_fuelLeft, X4_isActive, X4_isMarked, X4_mark, X4_usedCount, X4_usedAt, X4_setActive, X4_forget, X4_truthOf, h14, if_neg (nI_ge (show t < n by omega) (show n < 2 ^ 31 by omega)), pk_sub hpt]
      rw [rd_73 (by omega), wr_73 (by omega), nI_1, f1]
    · intro i hi
      rw [f3 i (by omega), up_at, vup_n (by omega)]
    · intro i i1 i2
      by_cases e : i = t - p
      · rw [f3 i (by omega), up_at, e, vup_s, show p + (t - p) = t by omega]
      · rw [f4 i (by omega) i2, up_at, vup_n (by omega)]
    · intro j hj
      rw [f6 j hj, up_ne (by decide)]
    · intro a a1 a2
      rw [f7 a a1 a2, up_ne a2]
theorem gather_loop (hO : OKD N sz lt) {n c : Nat} (hn : n ≤ 150) (rs : Nat → Nat) (tl : Nat → Int32) (hrs : ∀ t, t < n → rs t ≤ N ∧ isL (tl t)) : ∀ (t f : Nat) (I : Nat → Nat → Int32) (G : List Nat), t + G.length ≤ n → t < f → DBC I N sz lt → I 52 14 = nI n → I 52 16 = nI c → (∀ q, q < n → I 70 q = nI (rs q) ∧ I 68 q = tl q) →
    (∀ x, isL x → (I 72 (cd x) ≠ 0 ↔ (G ++ [c]).any (fun k => hs sz lt k (-x)) = true)) → (∀ i, i < G.length → I 74 (n - G.length + i) = nI (G.getD i 0)) →
    ∃ I', fX4_gatherUsed_41 f 52 (nI (n - G.length)) (nI t - 1) (st I v J) = some (st I' v J) ∧ UL I' (gs rs tl sz lt t (G ++ [c])) ∧ (∀ j, j ≠ 15 → I' 52 j = I 52 j) ∧ (∀ a, a ≠ 52 → a ≠ 72 → a ≠ 74 → I' a = I a) := by
  have hN := hO.1
  intro t
  induction t with
  | zero =>
    intro f I G hG hf hD h14 h16 hq hw hu
    obtain ⟨f, rfl⟩ : ∃ m, f = m + 1 := ⟨f - 1, by omega⟩
    have hz := zfu_big
    obtain ⟨I', f1, f2, f3, f4, f5, f6, f7⟩ := shift_loop (v := v) (J := J) hn (show n - G.length ≤ n by omega) G.length (n - G.length) zfu I (by omega) (by omega) (by omega) h14 h16
    refine ⟨I', ?_, ⟨?_, ?_, ?_⟩, f6, fun a a1 _ a3 => f7 a a1 a3⟩
    · unfold fX4_gatherUsed_41
      rw [if_pos (by rw [nI_0]; decide), f1]
    · rw [f2]; simp [gs]; congr 1; omega
    · simp [gs]; omega
    · intro i hi
      simp only [gs, List.length_append, List.length_cons, List.length_nil] at hi ⊢
      rw [List.getD_eq_getElem?_getD]
      by_cases e : i < G.length
      · rw [f4 i (by omega) (by omega), hu i e, List.getElem?_append_left e, List.getD_eq_getElem?_getD]
      · have : i = n - (n - G.length) := by omega
        rw [this, f5]
        rw [List.getElem?_append_right (by omega), show n - (n - G.length) - G.length = 0 by omega]
        rfl
  | succ t ih =>
    intro f I G hG hf hD h14 h16 hq hw hu
    obtain ⟨f, rfl⟩ : ∃ m, f = m + 1 := ⟨f - 1, by omega⟩
    obtain ⟨hrt, htl⟩ := hrs t (by omega)
    obtain ⟨e70, e68⟩ := hq t (by omega)
    obtain ⟨c1, c2, c3⟩ := L_lc htl
    have hpos : ¬ nI t < 0 := nI_pos (by omega)
    have hm1 : nI t + (-1) = nI t - 1 := by rw [Int32.sub_eq_add_neg]
    have hstep : fX4_gatherUsed_41 (f + 1) 52 (nI (n - G.length)) (nI (t + 1) - 1) (st I v J) = if nI (rs t) = 0 then fX4_gatherUsed_41 f 52 (nI (n - G.length)) (nI t - 1) (st I v J) else if I 72 (cd (tl t)) = 0 then fX4_gatherUsed_41 f 52 (nI (n - G.length)) (nI t - 1) (st I v J) else bnd (fX4_wantOpposites 52 (nI (rs t)) (st I v J)) fun q46 => bnd (qR q46 4 52 11) fun x49 => bnd (cl q46 6 x49 (fX6_put x49 (nI (n - G.length) + (-1)) (nI (rs t)) q46)) fun q52 => fX4_gatherUsed_41 f 52 (nI (n - G.length) + (-1)) (nI t - 1) q52 := by
      conv => lhs; unfold fX4_gatherUsed_41
      rw [nI_pred, if_neg hpos]
      simp only [bnd_x, gd_0, gd_1, gd_o0, gd_o1, ite_self, rf_1_0, rf_1_1, rf_1_5, rf_1_6, rf_1_7, rf_2_0, rf_4_0, rf_6_0, rf_6_1, rf_6_2, rf_7_0, rf_9_0, rf_11_0, rf_13_0, rf_13_1, rf_13_2, rf_14_0, rf_16_0, rf_18_0, rf_20_0, rf_20_1, rf_20_2, rf_21_0, rf_23_0, rf_25_0, rf_27_0, rf_29_0, rf_29_1, rf_29_2, rf_29_3, rf_29_4, rf_29_5, rf_30_0, rf_32_0, rf_34_0, rf_36_0, rf_38_0, rf_40_0, rf_42_0, rf_42_1, rf_42_2, rf_42_3, rf_43_0, rf_43_1, rf_43_2, rf_44_0, rf_46_0, rf_48_0, rf_50_0, rf_52_0, rf_52_1, rf_52_2, rf_52_3, rf_52_4, rf_52_5, rf_52_6, rf_52_7, rf_52_8, rf_52_9, rf_52_10, rf_52_11, rf_53_0, rf_55_0, rf_57_0, rf_59_0, rf_61_0, rf_63_0, rf_65_0, rf_67_0, rf_69_0, rf_71_0, rf_73_0, a_7, p_7, f_7, c_7, a_9, p_9, f_9, c_9, a_11, p_11, f_11, c_11, a_14, p_14, f_14, c_14, a_16, p_16, f_16, c_16, a_18, p_18, f_18, c_18, a_21, p_21, f_21, c_21, a_23, p_23, f_23, c_23, a_25, p_25, f_25, c_25, a_30, p_30, f_30, c_30, a_32, p_32, f_32, c_32, a_34, p_34, f_34, c_34, a_36, p_36, f_36, c_36, a_38, p_38, f_38, c_38, a_40, p_40, f_40, c_40, a_44, p_44, f_44, c_44, a_46, p_46, f_46, c_46, a_48, p_48, f_48, c_48, a_50, p_50, f_50, c_50, a_53, p_53, f_53, c_53, a_55, p_55, f_55, c_55, a_57, p_57, f_57, c_57, a_59, p_59, f_59, c_59, a_61, p_61, f_61, c_61, a_63, p_63, f_63, c_63, a_65, p_65, f_65, c_65, a_67, p_67, f_67, c_67, a_69, p_69, f_69, c_69, a_71, p_71, f_71, c_71, a_73, p_73, f_73, c_73, c_1, i_1, w_1, z0_1, z1_1, c_2, i_2, w_2, z0_2, z1_2, c_4, i_4, w_4, z0_4, z1_4, c_6, i_6, w_6, z0_6, z1_6, c_13, i_13, w_13, z0_13, z1_13, c_20, i_20, w_20, z0_20, z1_20, c_27, i_27, w_27, z0_27, z1_27, c_28, i_28, w_28, z0_28, z1_28, c_29, i_29, w_29, z0_29, z1_29, c_42, i_42, w_42, z0_42, z1_42, c_43, i_43, w_43, z0_43, z1_43, c_52, i_52, w_52, z0_52, z1_52, X1_size, X1_literal, X1_numberOfStep, X1_ofFormula, X1_inAll, X1_user, X9_codeOf, X1_firstUse, X1_endOfUses, X2_open, X2_at, X2_add, X2_drop, X2_clear, X4_fuelLeft, X4_isActive, X4_isMarked, X4_mark, X4_usedCount, X4_usedAt, X4_setActive, X4_forget, X4_truthOf, fX4_gatherUsed_96]
      rw [rd_69 (by omega), e70, rd_67 (by omega), e68, L_cd htl, rd_71 (by omega), hm1]
    by_cases r0 : rs t = 0
    · obtain ⟨I', f1, f2⟩ := ih f I G (by omega) (by omega) hD h14 h16 hq hw hu
      refine ⟨I', by rw [hstep, r0, nI_0, if_pos rfl, f1], ?_⟩
      have : gs rs tl sz lt (t + 1) (G ++ [c]) = gs rs tl sz lt t (G ++ [c]) := by
        conv => lhs; unfold gs
        rw [if_neg (by simp [r0])]
      rw [this]; exact f2
    · have hr0 : ¬ nI (rs t) = 0 := nI_ne0 (by omega) (by omega)
      by_cases w0 : I 72 (cd (tl t)) = 0
      · obtain ⟨I', f1, f2⟩ := ih f I G (by omega) (by omega) hD h14 h16 hq hw hu
        refine ⟨I', by rw [hstep, if_neg hr0, if_pos w0, f1], ?_⟩
        have hna : ¬ (G ++ [c]).any (fun k => hs sz lt k (-tl t)) = true := fun q => (hw (tl t) htl).mpr q w0
        have : gs rs tl sz lt (t + 1) (G ++ [c]) = gs rs tl sz lt t (G ++ [c]) := by
          conv => lhs; unfold gs
          rw [if_neg (fun q => hna q.2)]
        rw [this]; exact f2
      · obtain ⟨I2, w1, w2, w3⟩ := want_ok (v := v) (J := J) hO (show 1 ≤ rs t by omega) hrt hD
        have hlt : G.length < n := by omega
        have hpl : nI (n - G.length) + (-1) = nI (n - (rs t :: G).length) := by
          rw [show n - G.length = (n - (rs t :: G).length) + 1 by simp; omega, pk_m1]
        have hI1 : ∀ a, a ≠ 72 → a ≠ 74 → up I2 74 (n - (rs t :: G).length) (nI (rs t)) a = I a := fun a a1 a2 => by rw [up_ne a2, w3 a a1]
        obtain ⟨I', f1, f2, f3, f4⟩ := ih f (up I2 74 (n - (rs t :: G).length) (nI (rs t))) (rs t :: G) (by simp; omega) (by omega) (DBC_fr hD (hI1 29 (by decide) (by decide)) (hI1 31 (by decide) (by decide)) (hI1 33 (by decide) (by decide))) (by rw [hI1 52 (by decide) (by decide)]; exact h14) (by rw [hI1 52 (by decide) (by decide)]; exact h16) (by rw [hI1 70 (by decide) (by decide), hI1 68 (by decide) (by decide)]; exact hq) (by
          intro x hx
          rw [up_ne (by decide), w2 x hx, hw x hx]
          simp only [List.cons_append, List.any_cons, Bool.or_eq_true]
          exact Or.comm) (by
          intro i hi
          rw [up_at]
          cases i with
          | zero => rw [Nat.add_zero, vup_s]; rfl
          | succ i =>
            simp only [List.length_cons] at hi ⊢
            rw [vup_n (by omega), w3 74 (by decide)]
            have := hu i (by omega)
            rw [show n - (G.length + 1) + (i + 1) = n - G.length + i by omega, this]
            rfl)
        refine ⟨I', ?_, ?_, ?_, ?_⟩
        · rw [hstep, if_neg hr0, if_neg w0, w1]
          simp only [bnd_x, gd_0, gd_1, gd_o0, gd_o1, ite_self, rf_1_0, rf_1_1, rf_1_5, rf_1_6, rf_1_7, rf_2_0, rf_4_0, rf_6_0, rf_6_1, rf_6_2, rf_7_0, rf_9_0, rf_11_0, rf_13_0, rf_13_1, rf_13_2, rf_14_0, rf_16_0, rf_18_0, rf_20_0, rf_20_1, rf_20_2, rf_21_0, rf_23_0, rf_25_0, rf_27_0, rf_29_0, rf_29_1, rf_29_2, rf_29_3, rf_29_4, rf_29_5, rf_30_0, rf_32_0, rf_34_0, rf_36_0, rf_38_0, rf_40_0, rf_42_0, rf_42_1, rf_42_2, rf_42_3, rf_43_0, rf_43_1, rf_43_2, rf_44_0, rf_46_0, rf_48_0, rf_50_0, rf_52_0, rf_52_1, rf_52_2, rf_52_3, rf_52_4, rf_52_5, rf_52_6, rf_52_7, rf_52_8, rf_52_9, rf_52_10, rf_52_11, rf_53_0, rf_55_0, rf_57_0, rf_59_0, rf_61_0, rf_63_0, rf_65_0, rf_67_0, rf_69_0, rf_71_0, rf_73_0, a_7, p_7, f_7, c_7, a_9, p_9, f_9, c_9, a_11, p_11, f_11, c_11, a_14, p_14, f_14, c_14, a_16, p_16, f_16, c_16, a_18, p_18, f_18, c_18, a_21, p_21, f_21, c_21, a_23, p_23, f_23, c_23, a_25, p_25, f_25, c_25, a_30, p_30, f_30, c_30, a_32, p_32, f_32, c_32, a_34, p_34, f_34, c_34, a_36, p_36, f_36, c_36, a_38, p_38, f_38, c_38, a_40, p_40, f_40, c_40, a_44, p_44, f_44, c_44, a_46, p_46, f_46, c_46, a_48, p_48, f_48, c_48, a_50, p_50, f_50, c_50, a_53, p_53, f_53, c_53, a_55, p_55, f_55, c_55, a_57, p_57, f_57, c_57, a_59, p_59, f_59, c_59, a_61, p_61, f_61, c_61, a_63, p_63, f_63, c_63, a_65, p_65, f_65, c_65, a_67, p_67, f_67, c_67, a_69, p_69, f_69, c_69, a_71, p_71, f_71, c_71, a_73, p_73, f_73, c_73, c_1, i_1, w_1, z0_1, z1_1, c_2, i_2, w_2, z0_2, z1_2, c_4, i_4, w_4, z0_4, z1_4, c_6, i_6, w_6, z0_6, z1_6, c_13, i_13, w_13, z0_13, z1_13, c_20, i_20, w_20, z0_20, z1_20, c_27, i_27, w_27, z0_27, z1_27, c_28, i_28, w_28, z0_28, z1_28, c_29, i_29, w_29, z0_29, z1_29, c_42, i_42, w_42, z0_42, z1_42, c_43, i_43, w_43, z0_43, z1_43, c_52, i_52, w_52, z0_52, z1_52, X1_size, X1_literal, X1_numberOfStep, X1_ofFormula, X1_inAll, X1_user, X9_codeOf, X1_firstUse, X1_endOfUses, X2_open, X2_at, X2_add, X2_drop, X2_clear, X4_fuelLeft, X4_isActive, X4_isMarked, X4_mark, X4_usedCount, X4_usedAt, X4_setActive, X4_forget, X4_truthOf, hpl]
          rw [wr_73 (by omega), f1]
        · have hna : (G ++ [c]).any (fun k => hs sz lt k (-tl t)) = true := (hw (tl t) htl).mp w0
          have : gs rs tl sz lt (t + 1) (G ++ [c]) = gs rs tl sz lt t (rs t :: G ++ [c]) := by
            conv => lhs; unfold gs
            rw [if_pos ⟨r0, hna⟩]
            rfl
          rw [this]; exact f2
        · intro j hj
          rw [f3 j hj, hI1 52 (by decide) (by decide)]
        · intro a a1 a2 a3
          rw [f4 a a1 a2 a3, hI1 a a2 a3]
theorem gather_ok (hO : OKD N sz lt) {I : Nat → Nat → Int32} {n c : Nat} (hn : n ≤ 150) (rs : Nat → Nat) (hrs : ∀ t, t < n → rs t ≤ N ∧ isL (I 68 t) ∧ I 70 t = nI (rs t)) (hD : DBC I N sz lt) (h14 : I 52 14 = nI n) (h16 : I 52 16 = nI c) (c1 : 1 ≤ c) (c2 : c ≤ N) :
    ∃ I', fX4_gatherUsed 52 (st I v J) = some (st I' v J) ∧ UL I' (gs rs (I 68) sz lt n [c]) ∧ (∀ j, j ≠ 15 → I' 52 j = I 52 j) ∧ (∀ a, a ≠ 52 → a ≠ 72 → a ≠ 74 → I' a = I a) := by
  have hN := hO.1
  have hI0 : ∀ a, a ≠ 52 → a ≠ 72 → fillN (up I 52 15 0) 72 302 0 a = I a := by
    intro a a1 a2
    funext j
    unfold fillN
    rw [if_neg (fun q => a2 q.1), up_ne a1]
  have h52 : ∀ j, j ≠ 15 → fillN (up I 52 15 0) 72 302 0 52 j = I 52 j := by
    intro j hj
    unfold fillN
    rw [if_neg (fun q => absurd q.1 (by decide)), up_at, vup_n hj]
  obtain ⟨I2, w1, w2, w3⟩ := want_ok (v := v) (J := J) (I := fillN (up I 52 15 0) 72 302 0) hO c1 c2 (DBC_fr hD (hI0 29 (by decide) (by decide)) (hI0 31 (by decide) (by decide)) (hI0 33 (by decide) (by decide)))
  have hI2 : ∀ a, a ≠ 52 → a ≠ 72 → I2 a = I a := fun a a1 a2 => by rw [w3 a a2, hI0 a a1 a2]
  have h522 : ∀ j, j ≠ 15 → I2 52 j = I 52 j := fun j hj => by rw [w3 52 (by decide), h52 j hj]
  have hz := zfu_big
  obtain ⟨I', f1, f2, f3, f4⟩ := gather_loop (v := v) (J := J) hO (c := c) hn rs (I 68) (fun t ht => ⟨(hrs t ht).1, (hrs t ht).2.1⟩) n zfu I2 [] (by simp) (by omega) (DBC_fr hD (hI2 29 (by decide) (by decide)) (hI2 31 (by decide) (by decide)) (hI2 33 (by decide) (by decide))) (by rw [h522 14 (by decide)]; exact h14) (by rw [h522 16 (by decide)]; exact h16) (by
      intro q hq
      rw [hI2 70 (by decide) (by decide), hI2 68 (by decide) (by decide)]
      exact ⟨(hrs q hq).2.2, rfl⟩) (by
      intro x hx
      obtain ⟨x1, x2, -⟩ := L_lc hx
      rw [w2 x hx]
      have : fillN (up I 52 15 0) 72 302 0 72 (cd x) = 0 := by
        unfold fillN
        rw [if_pos ⟨rfl, x2⟩]
      rw [this]
      simp) (by intro i hi; simp at hi)
  refine ⟨I', ?_, f2, fun j hj => by rw [f3 j hj, h522 j hj], fun a a1 a2 a3 => by rw [f4 a a1 a2 a3, hI2 a a1 a2]⟩
  have e15 : up I 52 15 0 52 16 = nI c := by rw [up_at, vup_n (by decide)]; exact h16
  have ef : ∀ j, fillN (up I 52 15 0) 72 302 0 52 j = up I 52 15 0 52 j := fun j => by
    unfold fillN
    rw [if_neg (fun q => absurd q.1 (by decide))]
  simp only [fX4_gatherUsed, bnd_x, gd_0, gd_1, gd_o0, gd_o1, ite_self, rf_1_0, rf_1_1, rf_1_5, rf_1_6, rf_1_7, rf_2_0, rf_4_0, rf_6_0, rf_6_1, rf_6_2, rf_7_0, rf_9_0, rf_11_0, rf_13_0, rf_13_1, rf_13_2, rf_14_0, rf_16_0, rf_18_0, rf_20_0, rf_20_1, rf_20_2, rf_21_0, rf_23_0, rf_25_0, rf_27_0, rf_29_0, rf_29_1, rf_29_2, rf_29_3, rf_29_4, rf_29_5, rf_30_0, rf_32_0, rf_34_0, rf_36_0, rf_38_0, rf_40_0, rf_42_0, rf_42_1, rf_42_2, rf_42_3, rf_43_0, rf_43_1, rf_43_2, rf_44_0, rf_46_0, rf_48_0, rf_50_0, rf_52_0, rf_52_1, rf_52_2, rf_52_3, rf_52_4, rf_52_5, rf_52_6, rf_52_7, rf_52_8, rf_52_9, rf_52_10, rf_52_11, rf_53_0, rf_55_0, rf_57_0, rf_59_0, rf_61_0, rf_63_0, rf_65_0, rf_67_0, rf_69_0, rf_71_0, rf_73_0, a_7, p_7, f_7, c_7, a_9, p_9, f_9, c_9, a_11, p_11, f_11, c_11, a_14, p_14, f_14, c_14, a_16, p_16, f_16, c_16, a_18, p_18, f_18, c_18, a_21, p_21, f_21, c_21, a_23, p_23, f_23, c_23, a_25, p_25, f_25, c_25, a_30, p_30, f_30, c_30, a_32, p_32, f_32, c_32, a_34, p_34, f_34, c_34, a_36, p_36, f_36, c_36, a_38, p_38, f_38, c_38, a_40, p_40, f_40, c_40, a_44, p_44, f_44, c_44, a_46, p_46, f_46, c_46, a_48, p_48, f_48, c_48, a_50, p_50, f_50, c_50, a_53, p_53, f_53, c_53, a_55, p_55, f_55, c_55, a_57, p_57, f_57, c_57, a_59, p_59, f_59, c_59, a_61, p_61, f_61, c_61, a_63, p_63, f_63, c_63, a_65, p_65, f_65, c_65, a_67, p_67, f_67, c_67, a_69, p_69, f_69, c_69, a_71, p_71, f_71, c_71, a_73, p_73, f_73, c_73, c_1, i_1, w_1, z0_1, z1_1, c_2, i_2, w_2, z0_2, z1_2, c_4, i_4, w_4, z0_4, z1_4, c_6, i_6, w_6, z0_6, z1_6, c_13, i_13, w_13, z0_13, z1_13, c_20, i_20, w_20, z0_20, z1_20, c_27, i_27, w_27, z0_27, z1_27, c_28, i_28, w_28, z0_28, z1_28, c_29, i_29, w_29, z0_29, z1_29, c_42, i_42, w_42, z0_42, z1_42, c_43, i_43, w_43, z0_43, z1_43, c_52, i_52, w_52, z0_52, z1_52, X1_size, X1_literal, X1_numberOfStep, X1_ofFormula, X1_inAll, X1_user, X9_codeOf, X1_firstUse, X1_endOfUses, X2_open, X2_at, X2_add, X2_drop, X2_clear, X4_fuelLeft, X4_isActive, X4_isMarked, X4_mark, X4_usedCount, X4_usedAt, X4_setActive, X4_forget, X4_truthOf, e15, if_neg (nI_ne0 (show 0 < c by omega) (show c < 2 ^ 31 by omega)), ef, w1, h522 14 (by decide), h14]
  exact f1
theorem gather_0 {I : Nat → Nat → Int32} (h16 : I 52 16 = 0) :
    ∃ I', fX4_gatherUsed 52 (st I v J) = some (st I' v J) ∧ UL I' [] ∧ (∀ j, j ≠ 15 → I' 52 j = I 52 j) ∧ (∀ a, a ≠ 52 → a ≠ 72 → a ≠ 74 → I' a = I a) := by
  refine ⟨up I 52 15 0, ?_, ⟨up_self .., by simp, by intro i hi; simp at hi⟩, fun j hj => by rw [up_at, vup_n hj], fun a a1 _ _ => up_ne a1⟩
  have e15 : up I 52 15 0 52 16 = 0 := by rw [up_at, vup_n (by decide)]; exact h16
  simp only [fX4_gatherUsed, bnd_x, gd_0, gd_1, gd_o0, gd_o1, ite_self, rf_1_0, rf_1_1, rf_1_5, rf_1_6, rf_1_7, rf_2_0, rf_4_0, rf_6_0, rf_6_1, rf_6_2, rf_7_0, rf_9_0, rf_11_0, rf_13_0, rf_13_1, rf_13_2, rf_14_0, rf_16_0, rf_18_0, rf_20_0, rf_20_1, rf_20_2, rf_21_0, rf_23_0, rf_25_0, rf_27_0, rf_29_0, rf_29_1, rf_29_2, rf_29_3, rf_29_4, rf_29_5, rf_30_0, rf_32_0, rf_34_0, rf_36_0, rf_38_0, rf_40_0, rf_42_0, rf_42_1, rf_42_2, rf_42_3, rf_43_0, rf_43_1, rf_43_2, rf_44_0, rf_46_0, rf_48_0, rf_50_0, rf_52_0, rf_52_1, rf_52_2, rf_52_3, rf_52_4, rf_52_5, rf_52_6, rf_52_7, rf_52_8, rf_52_9, rf_52_10, rf_52_11, rf_53_0, rf_55_0, rf_57_0, rf_59_0, rf_61_0, rf_63_0, rf_65_0, rf_67_0, rf_69_0, rf_71_0, rf_73_0, a_7, p_7, f_7, c_7, a_9, p_9, f_9, c_9, a_11, p_11, f_11, c_11, a_14, p_14, f_14, c_14, a_16, p_16, f_16, c_16, a_18, p_18, f_18, c_18, a_21, p_21, f_21, c_21, a_23, p_23, f_23, c_23, a_25, p_25, f_25, c_25, a_30, p_30, f_30, c_30, a_32, p_32, f_32, c_32, a_34, p_34, f_34, c_34, a_36, p_36, f_36, c_36, a_38, p_38, f_38, c_38, a_40, p_40, f_40, c_40, a_44, p_44, f_44, c_44, a_46, p_46, f_46, c_46, a_48, p_48, f_48, c_48, a_50, p_50, f_50, c_50, a_53, p_53, f_53, c_53, a_55, p_55, f_55, c_55, a_57, p_57, f_57, c_57, a_59, p_59, f_59, c_59, a_61, p_61, f_61, c_61, a_63, p_63, f_63, c_63, a_65, p_65, f_65, c_65, a_67, p_67, f_67, c_67, a_69, p_69, f_69, c_69, a_71, p_71, f_71, c_71, a_73, p_73, f_73, c_73, c_1, i_1, w_1, z0_1, z1_1, c_2, i_2, w_2, z0_2, z1_2, c_4, i_4, w_4, z0_4, z1_4, c_6, i_6, w_6, z0_6, z1_6, c_13, i_13, w_13, z0_13, z1_13, c_20, i_20, w_20, z0_20, z1_20, c_27, i_27, w_27, z0_27, z1_27, c_28, i_28, w_28, z0_28, z1_28, c_29, i_29, w_29, z0_29, z1_29, c_42, i_42, w_42, z0_42, z1_42, c_43, i_43, w_43, z0_43, z1_43, c_52, i_52, w_52, z0_52, z1_52, X1_size, X1_literal, X1_numberOfStep, X1_ofFormula, X1_inAll, X1_user, X9_codeOf, X1_firstUse, X1_endOfUses, X2_open, X2_at, X2_add, X2_drop, X2_clear, X4_fuelLeft, X4_isActive, X4_isMarked, X4_mark, X4_usedCount, X4_usedAt, X4_setActive, X4_forget, X4_truthOf, e15]
  rfl
end
