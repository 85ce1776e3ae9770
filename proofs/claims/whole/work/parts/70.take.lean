/-! A row that is being read: class and reference. -/
section
/-- n rows are closed, one is open: its literals are w from e n to g -/
def RF (I I' : Nat → Nat → Int32) (f n : Nat) (e : Nat → Nat) (w : Nat → Int32) (d : Nat → Bool) (g : Nat) : Prop :=
  (OKS n e w ∧ n < 300 ∧ e n ≤ g ∧ g ≤ e n + 40 ∧ g ≤ 2000 ∧ (∀ p, e n ≤ p → p < g → isL (w p)) ∧ (∀ p q, e n ≤ p → p < q → q < g → w p ≠ w q)) ∧
  (I f 3 = nI n ∧ I f 4 = nI g ∧ (∀ i, i ≤ n → I (f + 4) i = nI (e i)) ∧ (∀ p, p < g → I (f + 2) p = w p) ∧ (∀ i, 1 ≤ i → i ≤ n → I (f + 6) i = b2 (d i))) ∧
  (I' 75 26 = nI (n + 1) ∧ I' 75 27 = nI g ∧ (∀ i, 1 ≤ i → i ≤ n → I' 85 i = nI (e (i - 1)) ∧ I' 86 i = nI (e i - e (i - 1)) ∧ I' 88 i = b2 (d i)) ∧ I' 85 (n + 1) = nI (e n) ∧ I' 86 (n + 1) = nI (g - e n) ∧ I' 88 (n + 1) = b2 (d (n + 1)) ∧ (∀ p, p < g → I' 87 p = w p))
def CT (I I' : Nat → Nat → Int32) (r t : Nat) : Prop := I 27 5 = nI r ∧ I 27 6 = nI t ∧ I' 75 28 = nI t ∧ I' 75 29 = nI r
def RO (I I' : Nat → Nat → Int32) (f n : Nat) (e : Nat → Nat) (w : Nat → Int32) (d : Nat → Bool) (g r t : Nat) : Prop := RF I I' f n e w d g ∧ CT I I' r t ∧ g ≤ e n + r ∧ r ≤ 40 ∧ g ≤ t ∧ t ≤ 2000
def FK (I I' : Nat → Nat → Int32) : Prop := I 27 7 = I' 75 8 ∧ (I 27 7 = 0 → I 27 8 = -1) ∧ (I 27 7 ≠ 0 → I 27 8 = I' 75 9)
theorem RF_fr {I I' I1 I2 : Nat → Nat → Int32} {f n : Nat} {e : Nat → Nat} {w : Nat → Int32} {d : Nat → Bool} {g : Nat} (h : RF I I' f n e w d g) (a1 : I1 f = I f) (a2 : I1 (f + 4) = I (f + 4)) (a3 : I1 (f + 2) = I (f + 2)) (a4 : I1 (f + 6) = I (f + 6)) (b1 : I2 75 26 = I' 75 26) (b2 : I2 75 27 = I' 75 27) (b3 : I2 85 = I' 85) (b4 : I2 86 = I' 86) (b5 : I2 88 = I' 88) (b6 : I2 87 = I' 87) : RF I1 I2 f n e w d g := by
  unfold RF
  rw [a1, a2, a3, a4, b1, b2, b3, b4, b5, b6]; exact h
variable {f n : Nat} {e : Nat → Nat} {w : Nat → Int32} {d : Nat → Bool}
def fnd (w : Nat → Int32) (x : Int32) (p k : Nat) : Bool := (List.range' p k).any (fun q => w q == x)
theorem addC_loop {v : zV} {J : Nat → Nat → Int64} {I : Nat → Nat → Int32} (hf : isSh f = true) {g : Nat} (hg : g < 2000) (h4 : I f 4 = nI g) (hw : ∀ p, p < g → I (f + 2) p = w p) (x : Int32) : ∀ (k p m : Nat), p + k = g → k < m → fX7_add_12 m f x (nI p) (st I v J) = some (st (if fnd w x p k = true then I else up (up I (f + 2) g x) f 4 (nI (g + 1))) v J) := by
  obtain ⟨h0, h1, h2, h3, h5, h6, h7⟩ := sh_f hf
  intro k
  induction k with
  | zero =>
    intro p m hp hm
    obtain ⟨m, rfl⟩ : ∃ q, m = q + 1 := ⟨m - 1, by omega⟩
    conv => lhs; unfold fX7_add_12
    have e1 : wr I (f + 1) (nI g) x = up I (f + 2) g x := wr_i (by rw [h5]; omega)
    have e2 : up I (f + 2) g x f 4 = nI g := by rw [up_ne (by omega)]; exact h4
    simp only [qI_st h0, bnd_x, h4, if_pos (nI_le (show g ≤ p by omega) (show p < 2 ^ 31 by omega)), sh_0 hf, clr h1, put_st h1, e1, e2, wI_st h0, nI_1]
    rfl
  | succ k ih =>
    intro p m hp hm
    obtain ⟨m, rfl⟩ : ∃ q, m = q + 1 := ⟨m - 1, by omega⟩
    conv => lhs; unfold fX7_add_12
    have e1 : rd I (f + 1) (nI p) = w p := by rw [rd_i (by rw [h5]; omega)]; exact hw p (by omega)
    have hr : List.range' p (k + 1) = p :: List.range' (p + 1) k := by simp [List.range'_succ]
    simp only [qI_st h0, bnd_x, h4, if_neg (nI_ge (show p < g by omega) (show g < 2 ^ 31 by omega)), sh_0 hf, clr h1, at_st h1, e1, nI_1]
    rw [ih (p + 1) m (by omega) (by omega)]
    unfold fnd
    rw [hr, List.any_cons]
    by_cases c : w p = x
    · rw [if_pos c, show (w p == x) = true from by simpa using c, Bool.true_or, if_pos rfl]
    · rw [if_neg c, show (w p == x) = false from by simpa using c, Bool.false_or]
theorem addM_loop {v : zV} {J : Nat → Nat → Int64} {I : Nat → Nat → Int32} {g : Nat} (hg : g < 2000) (hn : n < 300) (h27 : I 75 27 = nI g) (h26 : I 75 26 = nI (n + 1)) (hw : ∀ p, p < g → I 87 p = w p) {l : Nat} (hl : I 86 (n + 1) = nI l) (x : Int32) : ∀ (k p m : Nat), p + k = g → k < m → fX10_literal_89 m 75 x (nI p) (st I v J) = some (st (if fnd w x p k = true then I else up (up (up I 87 g x) 75 27 (nI (g + 1))) 86 (n + 1) (nI (l + 1))) v J) := by
  intro k
  induction k with
  | zero =>
    intro p m hp hm
    obtain ⟨m, rfl⟩ : ∃ q, m = q + 1 := ⟨m - 1, by omega⟩
    conv => lhs; unfold fX10_literal_89
    simp only [bnd_x, gd_0, gd_1, gd_o0, gd_o1, ite_self, rf_75_1, rf_75_3, rf_75_12, rf_75_13, rf_75_14, rf_75_15, rf_75_16, rf_75_17, rf_75_18, rf_75_22, rf_75_23, rf_75_24, rf_75_25, rf_75_31, rf_75_32, rf_75_41, rf_75_42, rf_75_43, rf_75_44, rf_75_45, rf_75_46, rf_75_47, rf_75_48, rf_75_53, rf_75_54, rf_75_55, rf_75_57, c_75, i_75, w_75, z0_75, z1_75, h27, if_pos (nI_le (show g ≤ p by omega) (show p < 2 ^ 31 by omega)), ua_87 (show g < 2000 by omega), up_ne (show (75 : Nat) ≠ 87 by decide), nI_1, up_at, vup_n (show (26 : Nat) ≠ 27 by decide), h26, qa_86 (show n + 1 < 301 by omega), up_ne (show (86 : Nat) ≠ 75 by decide), up_ne (show (86 : Nat) ≠ 87 by decide), hl, ua_86 (show n + 1 < 301 by omega)]
    rfl
  | succ k ih =>
    intro p m hp hm
    obtain ⟨m, rfl⟩ : ∃ q, m = q + 1 := ⟨m - 1, by omega⟩
    conv => lhs; unfold fX10_literal_89
    have hr : List.range' p (k + 1) = p :: List.range' (p + 1) k := by simp [List.range'_succ]
    simp only [bnd_x, gd_0, gd_1, gd_o0, gd_o1, ite_self, rf_75_1, rf_75_3, rf_75_12, rf_75_13, rf_75_14, rf_75_15, rf_75_16, rf_75_17, rf_75_18, rf_75_22, rf_75_23, rf_75_24, rf_75_25, rf_75_31, rf_75_32, rf_75_41, rf_75_42, rf_75_43, rf_75_44, rf_75_45, rf_75_46, rf_75_47, rf_75_48, rf_75_53, rf_75_54, rf_75_55, rf_75_57, c_75, i_75, w_75, z0_75, z1_75, h27, if_neg (nI_ge (show p < g by omega) (show g < 2 ^ 31 by omega)), qa_87 (show p < 2000 by omega), hw p (by omega), nI_1]
    rw [ih (p + 1) m (by omega) (by omega)]
    unfold fnd
    rw [hr, List.any_cons]
    by_cases c : w p = x
    · rw [if_pos c, show (w p == x) = true from by simpa using c, Bool.true_or, if_pos rfl]
    · rw [if_neg c, show (w p == x) = false from by simpa using c, Bool.false_or]
/-- a literal comes into the open row -/
theorem RF_add {I I' : Nat → Nat → Int32} (hf : isSh f = true) {g : Nat} (h : RF I I' f n e w d g) {x : Int32} (hx : isL x) (hg : g < 2000) (hr : g < e n + 40) :
    ∃ w' g', g' ≤ g + 1 ∧ RF (if fnd w x (e n) (g - e n) = true then I else up (up I (f + 2) g x) f 4 (nI (g + 1))) (if fnd w x (e n) (g - e n) = true then I' else up (up (up I' 87 g x) 75 27 (nI (g + 1))) 86 (n + 1) (nI (g - e n + 1))) f n e w' d g' := by
  cases hF : fnd w x (e n) (g - e n) with
  | true => rw [if_pos rfl, if_pos rfl]; exact ⟨w, g, by omega, h⟩
  | false =>
    rw [if_neg (by decide), if_neg (by decide)]
    obtain ⟨⟨p1, p2, p3, p4, p5, p6, p7⟩, ⟨c1, c2, c3, c4, c5⟩, r1, r2, r3, r4, r5, r6, r7⟩ := h
    have hnot : ∀ q, e n ≤ q → q < g → w q ≠ x := by
      intro q q1 q2 q3
      have : fnd w x (e n) (g - e n) = true := by
        unfold fnd
        rw [List.any_eq_true]
        exact ⟨q, by simp; omega, by simpa using q3⟩
      rw [hF] at this; exact absurd this (by decide)
    refine ⟨vup w g x, g + 1, Nat.le_refl _, ⟨?_, p2, by omega, by omega, by omega, ?_, ?_⟩, ⟨?_, ?_, ?_, ?_, ?_⟩, ?_, ?_, ?_, ?_, ?_, ?_, ?_⟩
    · obtain ⟨o1, o2, o3, o4⟩ := p1
      refine ⟨o1, o2, o3, fun i i1 i2 => ?_⟩
      obtain ⟨k1, k2, k3, k4⟩ := o4 i i1 i2
      have hle := OKS_le ⟨o1, o2, o3, o4⟩ i2
      refine ⟨k1, k2, fun p q1 q2 => by rw [vup_n (by omega)]; exact k3 p q1 q2, fun p q q1 q2 q3 => by rw [vup_n (by omega), vup_n (by omega)]; exact k4 p q q1 q2 q3⟩
    · intro p q1 q2
      by_cases c : p = g
      · rw [c, vup_s]; exact hx
      · rw [vup_n c]; exact p6 p q1 (by omega)
    · intro p q q1 q2 q3
      by_cases c : q = g
      · rw [c, vup_s, vup_n (by omega)]; exact hnot p q1 (by omega)
      · rw [vup_n c, vup_n (by omega)]; exact p7 p q q1 q2 (by omega)
    · rw [up_at, vup_n (by decide), up_ne (by omega)]; exact c1
    · rw [up_self]
    · intro i hi; rw [up_ne (by omega), up_ne (by omega)]; exact c3 i hi
    · intro p hp
      rw [up_ne (by omega), up_at]
      by_cases c : p = g
      · rw [c, vup_s, vup_s]
      · rw [vup_n c, vup_n c]; exact c4 p (by omega)
    · intro i i1 i2; rw [up_ne (by omega), up_ne (by omega)]; exact c5 i i1 i2
    · rw [up_ne (by decide), up_at, vup_n (by decide), up_ne (by decide)]; exact r1
    · rw [up_ne (by decide), up_self]
    · intro i i1 i2
      rw [up_ne (show (85 : Nat) ≠ 86 by decide), up_ne (show (85 : Nat) ≠ 75 by decide), up_ne (show (85 : Nat) ≠ 87 by decide), up_at, vup_n (by omega), up_ne (show (86 : Nat) ≠ 75 by decide), up_ne (show (86 : Nat) ≠ 87 by decide), up_ne (show (88 : Nat) ≠ 86 by decide), up_ne (show (88 : Nat) ≠ 75 by decide), up_ne (show (88 : Nat) ≠ 87 by decide)]
      exact r3 i i1 i2
    · rw [up_ne (by decide), up_ne (by decide), up_ne (by decide)]; exact r4
    · rw [up_self]; congr 1; omega
    · rw [up_ne (by decide), up_ne (by decide), up_ne (by decide)]; exact r6
    · intro p hp
      rw [up_ne (by decide), up_ne (by decide), up_at]
      by_cases c : p = g
      · rw [c, vup_s, vup_s]
      · rw [vup_n c, vup_n c]; exact r7 p (by omega)
/-- what reading changes -/
def FCr (I I1 : Nat → Nat → Int32) (f : Nat) : Prop := (∀ a, a ≠ 27 → a ≠ 28 → a ≠ f → a ≠ f + 2 → a ≠ f + 4 → a ≠ f + 6 → I1 a = I a) ∧ I1 27 3 = I 27 3 ∧ I1 28 1 = I 28 1 ∧ (∀ j, 4 < j → I1 f j = I f j)
def FMr (I I1 : Nat → Nat → Int32) : Prop := (∀ a, a ≠ 75 → a ≠ 85 → a ≠ 86 → a ≠ 87 → a ≠ 88 → I1 a = I a) ∧ (∀ j, j < 5 ∨ (9 < j ∧ j < 26) ∨ 29 < j → I1 75 j = I 75 j)
theorem FCr_t {I I1 I2 : Nat → Nat → Int32} (h : FCr I I1 f) (h' : FCr I1 I2 f) : FCr I I2 f := ⟨fun a a1 a2 a3 a4 a5 a6 => by rw [h'.1 a a1 a2 a3 a4 a5 a6, h.1 a a1 a2 a3 a4 a5 a6], h'.2.1.trans h.2.1, h'.2.2.1.trans h.2.2.1, fun j hj => (h'.2.2.2 j hj).trans (h.2.2.2 j hj)⟩
theorem FMr_t {I I1 I2 : Nat → Nat → Int32} (h : FMr I I1) (h' : FMr I1 I2) : FMr I I2 := ⟨fun a a1 a2 a3 a4 a5 => by rw [h'.1 a a1 a2 a3 a4 a5, h.1 a a1 a2 a3 a4 a5], fun j hj => by rw [h'.2 j hj, h.2 j hj]⟩
theorem FCr_r (I : Nat → Nat → Int32) : FCr I I f := ⟨fun _ _ _ _ _ _ _ => rfl, rfl, rfl, fun _ _ => rfl⟩
theorem FMr_r (I : Nat → Nat → Int32) : FMr I I := ⟨fun _ _ _ _ _ _ => rfl, fun _ _ => rfl⟩
theorem FCr_27 {I : Nat → Nat → Int32} {k : Nat} {x : Int32} (hf : isSh f = true) (hk : k ≠ 3) : FCr I (up I 27 k x) f := by
  have : f ≠ 27 := by rcases isSh_i hf with q | q | q <;> omega
  exact ⟨fun a a1 _ _ _ _ _ => up_ne a1, by rw [up_at, vup_n (Ne.symm hk)], by rw [up_ne (by decide)], fun j _ => by rw [up_ne this]⟩
theorem FCr_28 {I : Nat → Nat → Int32} {k : Nat} {x : Int32} (hf : isSh f = true) (hk : k ≠ 1) : FCr I (up I 28 k x) f := by
  have : f ≠ 28 := by rcases isSh_i hf with q | q | q <;> omega
  exact ⟨fun a _ a2 _ _ _ _ => up_ne a2, by rw [up_ne (by decide)], by rw [up_at, vup_n (Ne.symm hk)], fun j _ => by rw [up_ne this]⟩
theorem FMr_75 {I : Nat → Nat → Int32} {k : Nat} {x : Int32} (hk : (5 ≤ k ∧ k ≤ 9) ∨ (26 ≤ k ∧ k ≤ 29)) : FMr I (up I 75 k x) := ⟨fun a a1 _ _ _ _ => up_ne a1, fun j hj => by rw [up_at, vup_n (by omega)]⟩
/-- which sheet and which bytes the reader has -/
def VV (v : zV) (b f : Nat) : Prop := v.2.2.2.1 = b ∧ v.2.2.2.2.1 = f ∧ v.2.2.2.2.2.1 = b ∧ isB b = true ∧ isSh f = true
def ktw (I : Nat → Nat → Int32) (x p : Int32) : Nat → Nat → Int32 := up (up I 27 7 x) 27 8 p
theorem blame_ok {v : zV} {J : Nat → Nat → Int64} {I : Nat → Nat → Int32} (x p : Int32) : fX5_blame 27 x p (st I v J) = some (st (ktw I x p) v J) := by
  unfold fX5_blame ktw
  simp only [bnd_x, gd_0, gd_1, gd_o0, gd_o1, ite_self, rf_1_0, rf_1_1, rf_1_5, rf_1_6, rf_1_7, rf_2_0, rf_4_0, rf_6_0, rf_6_1, rf_6_2, rf_7_0, rf_9_0, rf_11_0, rf_13_0, rf_13_1, rf_13_2, rf_14_0, rf_16_0, rf_18_0, rf_20_0, rf_20_1, rf_20_2, rf_21_0, rf_23_0, rf_25_0, rf_27_0, rf_29_0, rf_29_1, rf_29_2, rf_29_3, rf_29_4, rf_29_5, rf_30_0, rf_32_0, rf_34_0, rf_36_0, rf_38_0, rf_40_0, rf_42_0, rf_42_1, rf_42_2, rf_42_3, rf_43_0, rf_43_1, rf_43_2, rf_44_0, rf_46_0, rf_48_0, rf_50_0, rf_52_0, rf_52_1, rf_52_2, rf_52_3, rf_52_4, rf_52_5, rf_52_6, rf_52_7, rf_52_8, rf_52_9, rf_52_10, rf_52_11, rf_53_0, rf_55_0, rf_57_0, rf_59_0, rf_61_0, rf_63_0, rf_65_0, rf_67_0, rf_69_0, rf_71_0, rf_73_0, a_7, p_7, f_7, c_7, a_9, p_9, f_9, c_9, a_11, p_11, f_11, c_11, a_14, p_14, f_14, c_14, a_16, p_16, f_16, c_16, a_18, p_18, f_18, c_18, a_21, p_21, f_21, c_21, a_23, p_23, f_23, c_23, a_25, p_25, f_25, c_25, a_30, p_30, f_30, c_30, a_32, p_32, f_32, c_32, a_34, p_34, f_34, c_34, a_36, p_36, f_36, c_36, a_38, p_38, f_38, c_38, a_40, p_40, f_40, c_40, a_44, p_44, f_44, c_44, a_46, p_46, f_46, c_46, a_48, p_48, f_48, c_48, a_50, p_50, f_50, c_50, a_53, p_53, f_53, c_53, a_55, p_55, f_55, c_55, a_57, p_57, f_57, c_57, a_59, p_59, f_59, c_59, a_61, p_61, f_61, c_61, a_63, p_63, f_63, c_63, a_65, p_65, f_65, c_65, a_67, p_67, f_67, c_67, a_69, p_69, f_69, c_69, a_71, p_71, f_71, c_71, a_73, p_73, f_73, c_73, c_1, i_1, w_1, z0_1, z1_1, c_2, i_2, w_2, z0_2, z1_2, c_4, i_4, w_4, z0_4, z1_4, c_6, i_6, w_6, z0_6, z1_6, c_13, i_13, w_13, z0_13, z1_13, c_20, i_20, w_20, z0_20, z1_20, c_27, i_27, w_27, z0_27, z1_27, c_28, i_28, w_28, z0_28, z1_28, c_29, i_29, w_29, z0_29, z1_29, c_42, i_42, w_42, z0_42, z1_42, c_43, i_43, w_43, z0_43, z1_43, c_52, i_52, w_52, z0_52, z1_52, X1_size, X1_literal, X1_numberOfStep, X1_ofFormula, X1_inAll, X1_user, X9_codeOf, X1_firstUse, X1_endOfUses, X2_open, X2_at, X2_add, X2_drop, X2_clear, X4_fuelLeft, X4_isActive, X4_isMarked, X4_mark, X4_usedCount, X4_usedAt, X4_setActive, X4_forget, X4_truthOf]
/-- both blame the same -/
theorem FK_blame {I I' : Nat → Nat → Int32} (x p : Int32) (h8 : I' 75 8 = 0) (hx : x ≠ 0) : FK (ktw I x p) (wg I' x p) := by
  unfold FK ktw wg
  rw [if_pos h8]
  have a1 : up (up I 27 7 x) 27 8 p 27 7 = x := by rw [up_at, vup_n (by decide), up_self]
  have a2 : up (up I' 75 8 x) 75 9 p 75 8 = x := by rw [up_at, vup_n (by decide), up_self]
  rw [a1, a2]
  exact ⟨rfl, fun q => absurd q hx, fun _ => by rw [up_self, up_self]⟩
theorem RF_blame {I I' : Nat → Nat → Int32} (hf : isSh f = true) {g : Nat} (h : RF I I' f n e w d g) (x p x' p' : Int32) : RF (ktw I x p) (wg I' x' p') f n e w d g := by
  have hf27 : f + 6 < 27 := by rcases isSh_i hf with q | q | q <;> omega
  unfold ktw wg
  split
  · exact RF_fr h (by rw [up_ne (by omega), up_ne (by omega)]) (by rw [up_ne (by omega), up_ne (by omega)]) (by rw [up_ne (by omega), up_ne (by omega)]) (by rw [up_ne (by omega), up_ne (by omega)]) (by rw [up_at, vup_n (by decide), up_at, vup_n (by decide)]) (by rw [up_at, vup_n (by decide), up_at, vup_n (by decide)]) (by rw [up_ne (by decide), up_ne (by decide)]) (by rw [up_ne (by decide), up_ne (by decide)]) (by rw [up_ne (by decide), up_ne (by decide)]) (by rw [up_ne (by decide), up_ne (by decide)])
  · exact RF_fr h (by rw [up_ne (by omega), up_ne (by omega)]) (by rw [up_ne (by omega), up_ne (by omega)]) (by rw [up_ne (by omega), up_ne (by omega)]) (by rw [up_ne (by omega), up_ne (by omega)]) rfl rfl rfl rfl rfl rfl
theorem FCr_ktw {I : Nat → Nat → Int32} (hf : isSh f = true) (x p : Int32) : FCr I (ktw I x p) f := FCr_t (FCr_27 hf (by decide)) (FCr_27 hf (by decide))
theorem FMr_wg {I : Nat → Nat → Int32} (x p : Int32) : FMr I (wg I x p) := by
  unfold wg
  split
  · exact FMr_t (FMr_75 (by omega)) (FMr_75 (by omega))
  · exact FMr_r I
/-- a literal is taken, or there are too many -/
theorem take_lock {v v' : zV} {J J' : Nat → Nat → Int64} {I I' : Nat → Nat → Int32} {b g r t : Nat} (hv : VV v b f) (h : RO I I' f n e w d g r t) (h8 : I' 75 8 = 0) {bd : Nat} (h30 : I' 75 30 = nI bd) {x : Int32} (hx : isL x) (hlo : ¬ x < -nI bd) (hhi : x ≤ nI bd) (P : Int32) :
    (∃ I1 I2, fX5_takeLiteral 27 x P (st I v J) = some (st I1 v J) ∧ fX10_literal 75 x P (st I' v' J') = some (st I2 v' J') ∧ RF I1 I2 f n e w d g ∧ FK I1 I2 ∧ I1 27 7 = 3 ∧ FCr I I1 f ∧ FMr I' I2)
    ∨ (∃ I1 I2 w' g', fX5_takeLiteral 27 x P (st I v J) = some (st I1 v J) ∧ fX10_literal 75 x P (st I' v' J') = some (st I2 v' J') ∧ RO I1 I2 f n e w' d g' (r + 1) (t + 1) ∧ I1 27 7 = I 27 7 ∧ I1 27 8 = I 27 8 ∧ I1 27 4 = I 27 4 ∧ I1 28 = I 28 ∧ I2 75 8 = 0 ∧ FCr I I1 f ∧ FMr I' I2 ∧ (∀ j, j < 26 → I2 75 j = I' 75 j)) := by
  obtain ⟨v1, v2, v3, hb, hf⟩ := hv
  obtain ⟨hRF, ⟨q5, q6, q28, q29⟩, o1, o2, o3, o4⟩ := h
  have hz := zfu_big
  have hf27 : f + 6 < 27 := by rcases isSh_i hf with q | q | q <;> omega
  have hf0 : v.2.2.2.2.1 ≠ 0 := by rw [v2]; rcases isSh_i hf with q | q | q <;> rw [q] <;> decide
  obtain ⟨h0, h1, h2, h3, h5, h6, h7⟩ := sh_f hf
  generalize hA : up (up I 27 5 (nI (r + 1))) 27 6 (nI (t + 1)) = A
  have Ane : ∀ a, a ≠ 27 → A a = I a := fun a ha => by rw [← hA, up_ne ha, up_ne ha]
  have A27 : ∀ j, j ≠ 5 → j ≠ 6 → A 27 j = I 27 j := fun j j1 j2 => by rw [← hA, up_at, vup_n j2, up_at, vup_n j1]
  have A5 : A 27 5 = nI (r + 1) := by rw [← hA, up_at, vup_n (by decide), up_self]
  have A6 : A 27 6 = nI (t + 1) := by rw [← hA, up_self]
  have FA : FCr I A f := by rw [← hA]; exact FCr_t (FCr_27 hf (by decide)) (FCr_27 hf (by decide))
  have hRFA : RF A I' f n e w d g := RF_fr hRF (Ane _ (by omega)) (Ane _ (by omega)) (Ane _ (by omega)) (Ane _ (by omega)) rfl rfl rfl rfl rfl rfl
  have hC : fX5_takeLiteral 27 x P (st I v J) = if 40 < nI (r + 1) then some (st (ktw A 3 P) v J) else if nI (t + 1) ≤ 2000 then fX7_add f x (st A v J) else some (st (ktw A 3 P) v J) := by
    unfold fX5_takeLiteral
    have e6 : up I 27 5 (nI (r + 1)) 27 6 = nI t := by rw [up_at, vup_n (by decide)]; exact q6
    simp only [bnd_x, gd_0, gd_1, gd_o0, gd_o1, ite_self, rf_1_0, rf_1_1, rf_1_5, rf_1_6, rf_1_7, rf_2_0, rf_4_0, rf_6_0, rf_6_1, rf_6_2, rf_7_0, rf_9_0, rf_11_0, rf_13_0, rf_13_1, rf_13_2, rf_14_0, rf_16_0, rf_18_0, rf_20_0, rf_20_1, rf_20_2, rf_21_0, rf_23_0, rf_25_0, rf_27_0, rf_29_0, rf_29_1, rf_29_2, rf_29_3, rf_29_4, rf_29_5, rf_30_0, rf_32_0, rf_34_0, rf_36_0, rf_38_0, rf_40_0, rf_42_0, rf_42_1, rf_42_2, rf_42_3, rf_43_0, rf_43_1, rf_43_2, rf_44_0, rf_46_0, rf_48_0, rf_50_0, rf_52_0, rf_52_1, rf_52_2, rf_52_3, rf_52_4, rf_52_5, rf_52_6, rf_52_7, rf_52_8, rf_52_9, rf_52_10, rf_52_11, rf_53_0, rf_55_0, rf_57_0, rf_59_0, rf_61_0, rf_63_0, rf_65_0, rf_67_0, rf_69_0, rf_71_0, rf_73_0, a_7, p_7, f_7, c_7, a_9, p_9, f_9, c_9, a_11, p_11, f_11, c_11, a_14, p_14, f_14, c_14, a_16, p_16, f_16, c_16, a_18, p_18, f_18, c_18, a_21, p_21, f_21, c_21, a_23, p_23, f_23, c_23, a_25, p_25, f_25, c_25, a_30, p_30, f_30, c_30, a_32, p_32, f_32, c_32, a_34, p_34, f_34, c_34, a_36, p_36, f_36, c_36, a_38, p_38, f_38, c_38, a_40, p_40, f_40, c_40, a_44, p_44, f_44, c_44, a_46, p_46, f_46, c_46, a_48, p_48, f_48, c_48, a_50, p_50, f_50, c_50, a_53, p_53, f_53, c_53, a_55, p_55, f_55, c_55, a_57, p_57, f_57, c_57, a_59, p_59, f_59, c_59, a_61, p_61, f_61, c_61, a_63, p_63, f_63, c_63, a_65, p_65, f_65, c_65, a_67, p_67, f_67, c_67, a_69, p_69, f_69, c_69, a_71, p_71, f_71, c_71, a_73, p_73, f_73, c_73, c_1, i_1, w_1, z0_1, z1_1, c_2, i_2, w_2, z0_2, z1_2, c_4, i_4, w_4, z0_4, z1_4, c_6, i_6, w_6, z0_6, z1_6, c_13, i_13, w_13, z0_13, z1_13, c_20, i_20, w_20, z0_20, z1_20, c_27, i_27, w_27, z0_27, z1_27, c_28, i_28, w_28, z0_28, z1_28, c_29, i_29, w_29, z0_29, z1_29, c_42, i_42, w_42, z0_42, z1_42, c_43, i_43, w_43, z0_43, z1_43, c_52, i_52, w_52, z0_52, z1_52, X1_size, X1_literal, X1_numberOfStep, X1_ofFormula, X1_inAll, X1_user, X9_codeOf, X1_firstUse, X1_endOfUses, X2_open, X2_at, X2_add, X2_drop, X2_clear, X4_fuelLeft, X4_isActive, X4_isMarked, X4_mark, X4_usedCount, X4_usedAt, X4_setActive, X4_forget, X4_truthOf, q5, nI_1, e6, hA, A5, A6, fX5_takeLiteral_39, blame_ok, rv_27_2 hf0, v2, cl_st h0]
    split
    · rfl
    · split
      · generalize fX7_add f x (st A v J) = o
        cases o <;> rfl
      · rfl
  have hM : fX10_literal 75 x P (st I' v' J') = if nI r = 40 then some (st (wg I' 3 P) v' J') else if nI t = 2000 then some (st (wg I' 3 P) v' J') else fX10_literal_51 75 x (st I' v' J') := by
    have hw8 : ¬ wg I' 3 P 75 8 = 0 := by
      unfold wg; rw [if_pos h8, up_at, vup_n (by decide), up_self]; decide
    have h45 : fX10_literal_45 75 x P (st I' v' J') = some (st (wg I' 3 P) v' J') := by
      unfold fX10_literal_45 fX10_literal_51
      simp only [bnd_x, gd_0, gd_1, gd_o0, gd_o1, ite_self, rf_75_1, rf_75_3, rf_75_12, rf_75_13, rf_75_14, rf_75_15, rf_75_16, rf_75_17, rf_75_18, rf_75_22, rf_75_23, rf_75_24, rf_75_25, rf_75_31, rf_75_32, rf_75_41, rf_75_42, rf_75_43, rf_75_44, rf_75_45, rf_75_46, rf_75_47, rf_75_48, rf_75_53, rf_75_54, rf_75_55, rf_75_57, c_75, i_75, w_75, z0_75, z1_75, wrong_ok, if_neg hw8]
    unfold fX10_literal
    simp only [bnd_x, gd_0, gd_1, gd_o0, gd_o1, ite_self, rf_75_1, rf_75_3, rf_75_12, rf_75_13, rf_75_14, rf_75_15, rf_75_16, rf_75_17, rf_75_18, rf_75_22, rf_75_23, rf_75_24, rf_75_25, rf_75_31, rf_75_32, rf_75_41, rf_75_42, rf_75_43, rf_75_44, rf_75_45, rf_75_46, rf_75_47, rf_75_48, rf_75_53, rf_75_54, rf_75_55, rf_75_57, c_75, i_75, w_75, z0_75, z1_75, h30, if_neg hlo, if_pos hhi, q28, q29, h45]
  by_cases c : r = 40 ∨ t = 2000
  · refine Or.inl ⟨ktw A 3 P, wg I' 3 P, ?_, ?_, RF_blame hf hRFA _ _ _ _, FK_blame _ _ h8 (by decide), ?_, FCr_t FA (FCr_ktw hf _ _), FMr_wg _ _⟩
    · rw [hC]
      rcases c with c | c
      · rw [if_pos (show (40 : Int32) < nI (r + 1) from nI_lt (a := 40) (by omega) (by omega))]
      · split
        · rfl
        · rw [if_neg (show ¬ nI (t + 1) ≤ (2000 : Int32) from nI_ge (a := 2000) (by omega) (by omega))]
    · rw [hM]
      rcases c with c | c
      · rw [if_pos (by rw [c]; rfl)]
      · split
        · rfl
        · rw [if_pos (by rw [c]; rfl)]
    · unfold ktw; rw [up_at, vup_n (by decide), up_self]
  · have r40 : r < 40 := by omega
    have t2 : t < 2000 := by omega
    generalize hB : up (up I' 75 29 (nI (r + 1))) 75 28 (nI (t + 1)) = B
    have Bne : ∀ a, a ≠ 75 → B a = I' a := fun a ha => by rw [← hB, up_ne ha, up_ne ha]
    have B75 : ∀ j, j ≠ 28 → j ≠ 29 → B 75 j = I' 75 j := fun j j1 j2 => by rw [← hB, up_at, vup_n j1, up_at, vup_n j2]
    have hRFB : RF A B f n e w d g := RF_fr hRFA rfl rfl rfl rfl (B75 _ (by decide) (by decide)) (B75 _ (by decide) (by decide)) (Bne _ (by decide)) (Bne _ (by decide)) (Bne _ (by decide)) (Bne _ (by decide))
    obtain ⟨w', g', g1, g2⟩ := RF_add hf hRFB hx (by omega) (by omega)
    have hRFB' := hRFB
    obtain ⟨⟨p1, p2, p3, p4, p5, p6, p7⟩, ⟨c1, c2, c3, c4, c5⟩, r1, r2, r3, r4, r5, r6, r7⟩ := hRFB
    have lC := addC_loop (v := v) (J := J) (I := A) hf (show g < 2000 by omega) c2 c4 x (g - e n) (e n) zfu (by omega) (by omega)
    have lM := addM_loop (v := v') (J := J') (I := B) (show g < 2000 by omega) p2 r2 r1 r7 r5 x (g - e n) (e n) zfu (by omega) (by omega)
    have hadd : fX7_add f x (st A v J) = some (st (if fnd w x (e n) (g - e n) = true then A else up (up A (f + 2) g x) f 4 (nI (g + 1))) v J) := by
      unfold fX7_add
      have e1 : rd A (f + 3) (nI n) = nI (e n) := by rw [rd_i (by rw [h6]; omega)]; exact c3 n (Nat.le_refl _)
      simp only [sh_1 hf, bnd_x, qI_st h0, c1, clr h2, at_st h2, e1]
      exact lC
    have h51 : fX10_literal_51 75 x (st I' v' J') = some (st (if fnd w x (e n) (g - e n) = true then B else up (up (up B 87 g x) 75 27 (nI (g + 1))) 86 (n + 1) (nI (g - e n + 1))) v' J') := by
      unfold fX10_literal_51
      have e28 : up I' 75 29 (nI (r + 1)) 75 28 = nI t := by rw [up_at, vup_n (by decide)]; exact q28
      simp only [bnd_x, gd_0, gd_1, gd_o0, gd_o1, ite_self, rf_75_1, rf_75_3, rf_75_12, rf_75_13, rf_75_14, rf_75_15, rf_75_16, rf_75_17, rf_75_18, rf_75_22, rf_75_23, rf_75_24, rf_75_25, rf_75_31, rf_75_32, rf_75_41, rf_75_42, rf_75_43, rf_75_44, rf_75_45, rf_75_46, rf_75_47, rf_75_48, rf_75_53, rf_75_54, rf_75_55, rf_75_57, c_75, i_75, w_75, z0_75, z1_75, h8, if_pos, q29, nI_1, e28, hB, r1, qa_85 (show n + 1 < 301 by omega), r4]
      exact lM
    refine Or.inr ⟨_, _, w', g', ?_, ?_, ⟨g2, ⟨?_, ?_, ?_, ?_⟩, by omega, by omega, by omega, by omega⟩, ?_, ?_, ?_, ?_, ?_, ?_, ?_, ?_⟩
    · rw [hC, if_neg (show ¬ (40 : Int32) < nI (r + 1) from nI_nlt (a := 40) (b := r + 1) (by omega) (by decide)), if_pos (show nI (t + 1) ≤ (2000 : Int32) from nI_le (b := 2000) (by omega) (by decide)), hadd]
    · have n1 : ¬ nI r = 40 := fun q => absurd ((nI_eq (a := r) (b := 40) (by omega) (by decide)).mp q) (by omega)
      have n2 : ¬ nI t = 2000 := fun q => absurd ((nI_eq (a := t) (b := 2000) (by omega) (by decide)).mp q) (by omega)
      rw [hM, if_neg n1, if_neg n2, h51]
    · split
      · exact A5
      · rw [up_ne (by omega), up_ne (by omega)]; exact A5
    · split
      · exact A6
      · rw [up_ne (by omega), up_ne (by omega)]; exact A6
    · have : B 75 28 = nI (t + 1) := by rw [← hB, up_self]
      split
      · exact this
      · rw [up_ne (by decide), up_at, vup_n (by decide), up_ne (by decide)]; exact this
    · have : B 75 29 = nI (r + 1) := by rw [← hB, up_at, vup_n (by decide), up_self]
      split
      · exact this
      · rw [up_ne (by decide), up_at, vup_n (by decide), up_ne (by decide)]; exact this
    · split
      · exact A27 7 (by decide) (by decide)
      · rw [up_ne (by omega), up_ne (by omega)]; exact A27 7 (by decide) (by decide)
    · split
      · exact A27 8 (by decide) (by decide)
      · rw [up_ne (by omega), up_ne (by omega)]; exact A27 8 (by decide) (by decide)
    · split
      · exact A27 4 (by decide) (by decide)
      · rw [up_ne (by omega), up_ne (by omega)]; exact A27 4 (by decide) (by decide)
    · split
      · exact Ane 28 (by decide)
      · rw [up_ne (by omega), up_ne (by omega)]; exact Ane 28 (by decide)
    · split
      · rw [B75 8 (by decide) (by decide)]; exact h8
      · rw [up_ne (by decide), up_at, vup_n (by decide), up_ne (by decide), B75 8 (by decide) (by decide)]; exact h8
    · apply FCr_t FA
      split
      · exact FCr_r A
      · exact ⟨fun a a1 a2 a3 a4 a5 a6 => by rw [up_ne a3, up_ne a4], by rw [up_ne (by omega), up_ne (by omega)], by rw [up_ne (by omega), up_ne (by omega)], fun j hj => by rw [up_at, vup_n (by omega), up_ne (by omega)]⟩
    · have FB : FMr I' B := by rw [← hB]; exact FMr_t (FMr_75 (by omega)) (FMr_75 (by omega))
      apply FMr_t FB
      split
      · exact FMr_r B
      · exact ⟨fun a a1 a2 a3 a4 a5 => by rw [up_ne a3, up_ne a1, up_ne a4], fun j hj => by rw [up_ne (by decide), up_at, vup_n (by omega), up_ne (by decide)]⟩
    · intro j hj
      split
      · exact B75 j (by omega) (by omega)
      · rw [up_ne (by decide), up_at, vup_n (by omega), up_ne (by decide)]; exact B75 j (by omega) (by omega)
end
