/-! Forwards and back: class and reference. -/
section
variable {N : Nat} {sz : Nat → Nat} {lt : Nat → Nat → Int32}
def WR (I I' : Nat → Nat → Int32) (f N : Nat) (sz : Nat → Nat) (lt : Nat → Nat → Int32) (ns : Nat) : Prop :=
  RJ I I' N sz lt ∧ STAT I I' f N sz lt ns ∧ RG I I' N ns ∧ I' 75 39 = I 42 9 ∧ I' 75 40 = I 42 10 ∧ I' 75 37 = I 42 8
def FrC (I I1 : Nat → Nat → Int32) : Prop := ∀ a, a < 42 ∨ 74 < a → I1 a = I a
def FrR (I I1 : Nat → Nat → Int32) : Prop := (∀ a, (a < 91 ∧ a ≠ 75) ∨ 101 < a → I1 a = I a) ∧ (∀ j, j < 35 ∨ 56 < j → I1 75 j = I 75 j)
theorem FrC_t {I I1 I2 : Nat → Nat → Int32} (h : FrC I I1) (h' : FrC I1 I2) : FrC I I2 := fun a ha => by rw [h' a ha, h a ha]
theorem FrR_t {I I1 I2 : Nat → Nat → Int32} (h : FrR I I1) (h' : FrR I1 I2) : FrR I I2 := ⟨fun a ha => by rw [h'.1 a ha, h.1 a ha], fun j hj => by rw [h'.2 j hj, h.2 j hj]⟩
theorem RJ_a {I I' : Nat → Nat → Int32} (h : RJ I I' N sz lt) (u : Nat) {x : Int32} (hx : x = 0 ∨ x = 1) : RJ (up I 54 u x) (up I' 91 u x) N sz lt := by
  apply RJ_am h
  · intro a ha; rw [up_ne (fun q => by subst q; exact absurd ha (by decide))]
  · intro j _; rw [up_ne (by decide)]
  · intro a ha; rw [up_ne (fun q => by subst q; exact absurd ha (by decide))]
  · intro j _; rw [up_ne (by decide)]
  · intro q q1 q2
    obtain ⟨x1, x2, x3, x4⟩ := h.2.2.2.1 q q1 q2
    rw [up_ne (show (56 : Nat) ≠ 54 by decide), up_ne (show (92 : Nat) ≠ 91 by decide), up_at, up_at]
    by_cases e : q = u
    · subst e; rw [vup_s, vup_s]; exact ⟨rfl, x2, hx, x4⟩
    · rw [vup_n e, vup_n e]; exact ⟨x1, x2, x3, x4⟩
  · exact HR_fr h.2.2.2.2.2.2.2.2 (by rw [up_ne (by decide)]) (by rw [up_ne (by decide)]) (by rw [up_ne (by decide)]) (by rw [up_ne (by decide)]) (by rw [up_ne (by decide)]) (by rw [up_ne (by decide)]) (by rw [up_ne (by decide)]) (by rw [up_ne (by decide)])
theorem WR_a {I I' : Nat → Nat → Int32} {f ns : Nat} (h : WR I I' f N sz lt ns) (u : Nat) {x : Int32} (hx : x = 0 ∨ x = 1) : WR (up I 54 u x) (up I' 91 u x) f N sz lt ns := by
  obtain ⟨h1, h2, h3, h4, h5, h6⟩ := h
  refine ⟨RJ_a h1 u hx, STAT_fr h2 (fun r hr => up_ne (by omega)) (fun r r1 r2 r3 => up_ne r3) (by rw [up_ne (by decide)]), ?_, ?_, ?_, ?_⟩
  · intro i i1 i2
    rw [up_ne (by decide), up_ne (by decide)]; exact h3 i i1 i2
  · rw [up_ne (by decide), up_ne (by decide)]; exact h4
  · rw [up_ne (by decide), up_ne (by decide)]; exact h5
  · rw [up_ne (by decide), up_ne (by decide)]; exact h6
theorem WR_up {I I' I1 I2 : Nat → Nat → Int32} {f ns : Nat} (h : WR I I' f N sz lt ns) (c : ∀ a, a ≠ 42 → I1 a = I a) (c42 : ∀ j, j ≠ 6 → j ≠ 7 → I1 42 j = I 42 j) (m : ∀ a, a ≠ 75 → I2 a = I' a) (m75 : ∀ j, j ≠ 35 → j ≠ 36 → I2 75 j = I' 75 j) : WR I1 I2 f N sz lt ns := by
  obtain ⟨h1, h2, h3, h4, h5, h6⟩ := h
  refine ⟨?_, STAT_fr h2 (fun r hr => c r (by omega)) (fun r r1 r2 r3 => m r r2) (m75 20 (by decide) (by decide)), ?_, ?_, ?_, ?_⟩
  · apply RJ_fr h1
    · intro a ha; exact c a (fun q => by subst q; exact absurd ha (by decide))
    · intro j _; rw [c 52 (by decide)]
    · intro a ha; exact m a (fun q => by subst q; exact absurd ha (by decide))
    · intro j hj; exact m75 j (fun q => by subst q; exact absurd hj (by decide)) (fun q => by subst q; exact absurd hj (by decide))
    · exact HR_fr h1.2.2.2.2.2.2.2.2 (by rw [c 43 (by decide)]) (c _ (by decide)) (c _ (by decide)) (c _ (by decide)) (m75 56 (by decide) (by decide)) (m _ (by decide)) (m _ (by decide)) (m _ (by decide))
  · intro i i1 i2
    rw [c 51 (by decide), m 95 (by decide)]; exact h3 i i1 i2
  · rw [m75 39 (by decide) (by decide), c42 9 (by decide) (by decide)]; exact h4
  · rw [m75 40 (by decide) (by decide), c42 10 (by decide) (by decide)]; exact h5
  · rw [m75 37 (by decide) (by decide), c42 8 (by decide) (by decide)]; exact h6
/-- the reference tells its end -/
theorem ends_ok {v : zV} {J : Nat → Nat → Int64} {I : Nat → Nat → Int32} (x y : Int32) : fX10_ends 75 x y (st I v J) = some (x, st (up (up I 75 35 x) 75 36 y) v J) := by
  unfold fX10_ends
  simp only [bnd_x, gd_0, gd_1, gd_o0, gd_o1, ite_self, rf_75_1, rf_75_3, rf_75_12, rf_75_13, rf_75_14, rf_75_15, rf_75_16, rf_75_17, rf_75_18, rf_75_22, rf_75_23, rf_75_24, rf_75_25, rf_75_31, rf_75_32, rf_75_41, rf_75_42, rf_75_43, rf_75_44, rf_75_45, rf_75_46, rf_75_47, rf_75_48, rf_75_53, rf_75_54, rf_75_55, rf_75_57, c_75, i_75, w_75, z0_75, z1_75]
theorem ends_fr {I : Nat → Nat → Int32} {x y : Int32} : (∀ a, a ≠ 75 → up (up I 75 35 x) 75 36 y a = I a) ∧ (∀ j, j ≠ 35 → j ≠ 36 → up (up I 75 35 x) 75 36 y 75 j = I 75 j) ∧ up (up I 75 35 x) 75 36 y 75 35 = x ∧ up (up I 75 35 x) 75 36 y 75 36 = y := by
  refine ⟨fun a ha => by rw [up_ne ha, up_ne ha], fun j j1 j2 => by rw [up_at, vup_n j2, up_at, vup_n j1], by rw [up_at, vup_n (by decide), up_self], by rw [up_self]⟩
theorem ends_FrR {I : Nat → Nat → Int32} {x y : Int32} : FrR I (up (up I 75 35 x) 75 36 y) := ⟨fun a ha => by rw [ends_fr.1 a (by omega)], fun j hj => by rw [ends_fr.2.1 j (by omega) (by omega)]⟩
/-- all that can be asked of a weighing agrees -/
def WF (I I' : Nat → Nat → Int32) (f N : Nat) (sz : Nat → Nat) (lt : Nat → Nat → Int32) (ns : Nat) : Prop := WR I I' f N sz lt ns ∧ I' 75 35 = I 42 6 ∧ I' 75 36 = I 42 7
theorem WR_ends {I I' I1 : Nat → Nat → Int32} {f ns : Nat} (h : WR I I' f N sz lt ns) (c : ∀ a, a ≠ 42 → I1 a = I a) (c42 : ∀ j, j ≠ 6 → j ≠ 7 → I1 42 j = I 42 j) : WF I1 (up (up I' 75 35 (I1 42 6)) 75 36 (I1 42 7)) f N sz lt ns :=
  ⟨WR_up h c c42 ends_fr.1 ends_fr.2.1, ends_fr.2.2.1, ends_fr.2.2.2⟩
theorem hold_WR {v v' : zV} {J J' : Nat → Nat → Int64} (hO : OKD N sz lt) {I I' : Nat → Nat → Int32} {ns : Nat} (h : WR I I' v.2.2.2.2.2.2 N sz lt ns) (h52 : I' 75 52 = 0) {k : Nat} (k1 : 1 ≤ k) (k2 : k ≤ N) (stp : Int32) :
    ∃ I1 I2 r w, fX3_holds 42 stp (nI k) (st I v J) = some (r, st I1 v J) ∧ fX10_weighed 75 (nI k) (I 42 4) (st I' v' J') = some (w, st I2 v' J') ∧ WR I1 I2 v.2.2.2.2.2.2 N sz lt ns ∧ FrC I I1 ∧ FrR I' I2 ∧ I1 42 4 = I 42 4 ∧ I1 42 5 = I 42 5 ∧ I1 42 8 = I 42 8 ∧ I2 101 0 = I' 101 0 ∧
      ((r = 1 ∧ w = 0 ∧ I2 75 52 = 0 ∧ I1 42 6 = I 42 6 ∧ I1 42 7 = I 42 7) ∨ (r = 0 ∧ (w = 1 ∨ w = 2) ∧ I1 42 6 = w ∧ I1 42 7 = stp)) := by
  obtain ⟨h1, h2, h3, h4, h5, h6⟩ := h
  obtain ⟨I1, I2, r, w, z, f1, f2, f3, f4, f5, f6, f7, f8⟩ := hold_lock (v := v) (v' := v') (J := J) (J' := J') hO h1 h52 h4 h5 k1 k2 stp
  refine ⟨I1, I2, r, w, f1, f2, ⟨f3, STAT_fr h2 (fun r hr => f6.1 r (by omega)) (fun r r1 r2 r3 => f7.1 r (by omega)) (f7.2 20 (by omega)), ?_, f4, f5, ?_⟩, fun a ha => f6.1 a (by omega), ⟨fun a ha => f7.1 a (by omega), fun j hj => f7.2 j (by omega)⟩, f6.2 4 (by decide) (by decide) (by decide) (by decide), f6.2 5 (by decide) (by decide) (by decide) (by decide), f6.2 8 (by decide) (by decide) (by decide) (by decide), HR_0 h1.2.2.2.2.2.2.2.2 f3.2.2.2.2.2.2.2.2 z, f8⟩
  · intro i i1 i2
    rw [f6.1 51 (by omega), f7.1 95 (by omega)]; exact h3 i i1 i2
  · rw [f7.2 37 (by omega), f6.2 8 (by decide) (by decide) (by decide) (by decide)]; exact h6
theorem back_loop2 {v v' : zV} {J J' : Nat → Nat → Int64} (hO : OKD N sz lt) {ns : Nat} {rat : Int32} : ∀ (c m m' : Nat) (I I' : Nat → Nat → Int32), c ≤ ns → c + 1 < m → c < m' → WR I I' v.2.2.2.2.2.2 N sz lt ns → I' 75 52 = 0 → I 42 6 = 0 → I 42 7 = -1 → I 42 4 = rat →
    ∃ I1 I2, fX3_goBack_5 m 42 (nI c) (st I v J) = some (st I1 v J) ∧ fX10_back_2 m' 75 rat (nI c) (st I' v' J') = some (I1 42 6, st I2 v' J') ∧ WF I1 I2 v.2.2.2.2.2.2 N sz lt ns ∧ FrC I I1 ∧ FrR I' I2 ∧ I1 42 8 = I 42 8 := by
  have hN := hO.1
  intro c
  induction c with
  | zero =>
    intro m m' I I' hc hm hm' h h52 h6 h7 h4
    obtain ⟨m, rfl⟩ : ∃ q, m = q + 1 := ⟨m - 1, by omega⟩
    obtain ⟨m', rfl⟩ : ∃ q, m' = q + 1 := ⟨m' - 1, by omega⟩
    have g := WR_ends (I1 := I) h (fun _ _ => rfl) (fun _ _ _ => rfl)
    refine ⟨I, _, ?_, ?_, g, fun _ _ => rfl, ends_FrR, rfl⟩
    · conv => lhs; unfold fX3_goBack_5
      rw [if_pos (by decide)]
    · conv => lhs; unfold fX10_back_2
      rw [if_pos (by decide), ends_ok]
      simp only [bnd_x, gd_0, gd_1, gd_o0, gd_o1, ite_self, rf_75_1, rf_75_3, rf_75_12, rf_75_13, rf_75_14, rf_75_15, rf_75_16, rf_75_17, rf_75_18, rf_75_22, rf_75_23, rf_75_24, rf_75_25, rf_75_31, rf_75_32, rf_75_41, rf_75_42, rf_75_43, rf_75_44, rf_75_45, rf_75_46, rf_75_47, rf_75_48, rf_75_53, rf_75_54, rf_75_55, rf_75_57, c_75, i_75, w_75, z0_75, z1_75, h6, h7]
  | succ c ih =>
    intro m m' I I' hc hm hm' h h52 h6 h7 h4
    obtain ⟨m, rfl⟩ : ∃ q, m = q + 1 := ⟨m - 1, by omega⟩
    obtain ⟨m', rfl⟩ : ∃ q, m' = q + 1 := ⟨m' - 1, by omega⟩
    obtain ⟨hRJ, hST, hRG, h39, h40, h37⟩ := h
    have hW : WR I I' v.2.2.2.2.2.2 N sz lt ns := ⟨hRJ, hST, hRG, h39, h40, h37⟩
    have hns := hST.2.2.1
    obtain ⟨s, g, bb, u, p1, p2, p3, p4, p5, p6, p7, p8, p9, p10, p11⟩ := hST.2.2.2.2.2 (c + 1) (by omega) hc
    have c1 : ¬ nI (c + 1) < 1 := nI_nlt (b := 1) (a := c + 1) (by omega) (by omega)
    have c2 : ¬ nI (c + 1) ≤ 0 := nI_nle (show 0 < c + 1 by omega) (by omega)
    have e1 := zz_d c
    cases bb with
    | true =>
      have u0 : u = 0 := p10 rfl
      obtain ⟨gg, q1, q2, q3⟩ := hRG (c + 1) (by omega) hc
      have hC : fX3_goBack_5 (m + 1) 42 (nI (c + 1)) (st I v J) = if gg = 0 then fX3_goBack_5 m 42 (nI c) (st I v J) else fX3_goBack_5 m 42 (nI c) (st (up I 54 gg 1) v J) := by
        conv => lhs; unfold fX3_goBack_5
        rw [if_neg c1]
        simp only [bnd_x, gd_0, gd_1, gd_o0, gd_o1, ite_self, rf_1_0, rf_1_1, rf_1_5, rf_1_6, rf_1_7, rf_2_0, rf_4_0, rf_6_0, rf_6_1, rf_6_2, rf_7_0, rf_9_0, rf_11_0, rf_13_0, rf_13_1, rf_13_2, rf_14_0, rf_16_0, rf_18_0, rf_20_0, rf_20_1, rf_20_2, rf_21_0, rf_23_0, rf_25_0, rf_27_0, rf_29_0, rf_29_1, rf_29_2, rf_29_3, rf_29_4, rf_29_5, rf_30_0, rf_32_0, rf_34_0, rf_36_0, rf_38_0, rf_40_0, rf_42_0, rf_42_1, rf_42_2, rf_42_3, rf_43_0, rf_43_1, rf_43_2, rf_44_0, rf_46_0, rf_48_0, rf_50_0, rf_52_0, rf_52_1, rf_52_2, rf_52_3, rf_52_4, rf_52_5, rf_52_6, rf_52_7, rf_52_8, rf_52_9, rf_52_10, rf_52_11, rf_53_0, rf_55_0, rf_57_0, rf_59_0, rf_61_0, rf_63_0, rf_65_0, rf_67_0, rf_69_0, rf_71_0, rf_73_0, a_7, p_7, f_7, c_7, a_9, p_9, f_9, c_9, a_11, p_11, f_11, c_11, a_14, p_14, f_14, c_14, a_16, p_16, f_16, c_16, a_18, p_18, f_18, c_18, a_21, p_21, f_21, c_21, a_23, p_23, f_23, c_23, a_25, p_25, f_25, c_25, a_30, p_30, f_30, c_30, a_32, p_32, f_32, c_32, a_34, p_34, f_34, c_34, a_36, p_36, f_36, c_36, a_38, p_38, f_38, c_38, a_40, p_40, f_40, c_40, a_44, p_44, f_44, c_44, a_46, p_46, f_46, c_46, a_48, p_48, f_48, c_48, a_50, p_50, f_50, c_50, a_53, p_53, f_53, c_53, a_55, p_55, f_55, c_55, a_57, p_57, f_57, c_57, a_59, p_59, f_59, c_59, a_61, p_61, f_61, c_61, a_63, p_63, f_63, c_63, a_65, p_65, f_65, c_65, a_67, p_67, f_67, c_67, a_69, p_69, f_69, c_69, a_71, p_71, f_71, c_71, a_73, p_73, f_73, c_73, c_1, i_1, w_1, z0_1, z1_1, c_2, i_2, w_2, z0_2, z1_2, c_4, i_4, w_4, z0_4, z1_4, c_6, i_6, w_6, z0_6, z1_6, c_13, i_13, w_13, z0_13, z1_13, c_20, i_20, w_20, z0_20, z1_20, c_27, i_27, w_27, z0_27, z1_27, c_28, i_28, w_28, z0_28, z1_28, c_29, i_29, w_29, z0_29, z1_29, c_42, i_42, w_42, z0_42, z1_42, c_43, i_43, w_43, z0_43, z1_43, c_52, i_52, w_52, z0_52, z1_52, X1_size, X1_literal, X1_numberOfStep, X1_ofFormula, X1_inAll, X1_user, X9_codeOf, X1_firstUse, X1_endOfUses, X2_open, X2_at, X2_add, X2_drop, X2_clear, X4_fuelLeft, X4_isActive, X4_isMarked, X4_mark, X4_usedCount, X4_usedAt, X4_setActive, X4_forget, X4_truthOf, h6, rd_34 (show c + 1 < 301 by omega), p8, u0, nI_0, fX3_putBack, rd_50 (show c + 1 < 301 by omega), q2, fX3_goBack_65, e1, wr_53 (show gg < 601 by omega)]
        by_cases z : gg = 0
        · subst z; rfl
        · rw [if_pos trivial, if_pos trivial, if_neg (nI_ne0 (show 0 < gg by omega) (by omega)), if_neg z]; rfl
      have hM : fX10_back_2 (m' + 1) 75 rat (nI (c + 1)) (st I' v' J') = if gg = 0 then fX10_back_2 m' 75 rat (nI c) (st I' v' J') else fX10_back_2 m' 75 rat (nI c) (st (up I' 91 gg 1) v' J') := by
        conv => lhs; unfold fX10_back_2
        rw [if_neg c2]
        simp only [bnd_x, gd_0, gd_1, gd_o0, gd_o1, ite_self, rf_75_1, rf_75_3, rf_75_12, rf_75_13, rf_75_14, rf_75_15, rf_75_16, rf_75_17, rf_75_18, rf_75_22, rf_75_23, rf_75_24, rf_75_25, rf_75_31, rf_75_32, rf_75_41, rf_75_42, rf_75_43, rf_75_44, rf_75_45, rf_75_46, rf_75_47, rf_75_48, rf_75_53, rf_75_54, rf_75_55, rf_75_57, c_75, i_75, w_75, z0_75, z1_75, qa_84 (show c + 1 < 301 by omega), p7, qa_95 (show c + 1 < 301 by omega), q3, uz_91 (show gg < 601 by omega) (Or.inr rfl), fX10_back_91, e1]
        rw [show b2 true = 1 from rfl, if_neg (by decide)]
        by_cases z : gg = 0
        · subst z; rfl
        · rw [if_neg (nI_nle (show 0 < gg by omega) (by omega)), if_neg z]
      by_cases z : gg = 0
      · rw [if_pos z] at hC hM
        rw [hC, hM]
        exact ih m m' I I' (by omega) (by omega) (by omega) hW h52 h6 h7 h4
      · rw [if_neg z] at hC hM
        rw [hC, hM]
        obtain ⟨I1, I2, f1, f2, f3, f4, f5, f6⟩ := ih m m' (up I 54 gg 1) (up I' 91 gg 1) (by omega) (by omega) (by omega) (WR_a hW gg (Or.inr rfl)) (by rw [up_ne (by decide)]; exact h52) (by rw [up_ne (by decide)]; exact h6) (by rw [up_ne (by decide)]; exact h7) (by rw [up_ne (by decide)]; exact h4)
        exact ⟨I1, I2, f1, f2, f3, FrC_t (fun a ha => up_ne (by omega)) f4, FrR_t ⟨fun a ha => up_ne (by omega), fun j _ => by rw [up_ne (by decide)]⟩ f5, by rw [f6, up_ne (by decide)]⟩
    | false =>
      obtain ⟨u1, u2⟩ := p11 rfl
      have hWa := WR_a hW u (x := 0) (Or.inl rfl)
      obtain ⟨am1, am2, am3, am4⟩ := hRJ.2.2.2.1 u u1 u2
      obtain ⟨Ia, Ib, r, w, g1, g2, g3, g4, g5, g6, g7, g8, g9, g10⟩ := hold_WR (v := v) (v' := v') (J := J) (J' := J') hO hWa (by rw [up_ne (by decide)]; exact h52) u1 u2 (nI (c + 1))
      rw [up_ne (show (42 : Nat) ≠ 54 by decide)] at g2 g6 g7 g8 g10
      rw [h4] at g2
      have hC : fX3_goBack_5 (m + 1) 42 (nI (c + 1)) (st I v J) = if I 56 u = 0 then fX3_goBack_5 m 42 (nI c) (st (up I 54 u 0) v J) else fX3_goBack_5 m 42 (nI c) (st Ia v J) := by
        conv => lhs; unfold fX3_goBack_5
        rw [if_neg c1]
        simp only [bnd_x, gd_0, gd_1, gd_o0, gd_o1, ite_self, rf_1_0, rf_1_1, rf_1_5, rf_1_6, rf_1_7, rf_2_0, rf_4_0, rf_6_0, rf_6_1, rf_6_2, rf_7_0, rf_9_0, rf_11_0, rf_13_0, rf_13_1, rf_13_2, rf_14_0, rf_16_0, rf_18_0, rf_20_0, rf_20_1, rf_20_2, rf_21_0, rf_23_0, rf_25_0, rf_27_0, rf_29_0, rf_29_1, rf_29_2, rf_29_3, rf_29_4, rf_29_5, rf_30_0, rf_32_0, rf_34_0, rf_36_0, rf_38_0, rf_40_0, rf_42_0, rf_42_1, rf_42_2, rf_42_3, rf_43_0, rf_43_1, rf_43_2, rf_44_0, rf_46_0, rf_48_0, rf_50_0, rf_52_0, rf_52_1, rf_52_2, rf_52_3, rf_52_4, rf_52_5, rf_52_6, rf_52_7, rf_52_8, rf_52_9, rf_52_10, rf_52_11, rf_53_0, rf_55_0, rf_57_0, rf_59_0, rf_61_0, rf_63_0, rf_65_0, rf_67_0, rf_69_0, rf_71_0, rf_73_0, a_7, p_7, f_7, c_7, a_9, p_9, f_9, c_9, a_11, p_11, f_11, c_11, a_14, p_14, f_14, c_14, a_16, p_16, f_16, c_16, a_18, p_18, f_18, c_18, a_21, p_21, f_21, c_21, a_23, p_23, f_23, c_23, a_25, p_25, f_25, c_25, a_30, p_30, f_30, c_30, a_32, p_32, f_32, c_32, a_34, p_34, f_34, c_34, a_36, p_36, f_36, c_36, a_38, p_38, f_38, c_38, a_40, p_40, f_40, c_40, a_44, p_44, f_44, c_44, a_46, p_46, f_46, c_46, a_48, p_48, f_48, c_48, a_50, p_50, f_50, c_50, a_53, p_53, f_53, c_53, a_55, p_55, f_55, c_55, a_57, p_57, f_57, c_57, a_59, p_59, f_59, c_59, a_61, p_61, f_61, c_61, a_63, p_63, f_63, c_63, a_65, p_65, f_65, c_65, a_67, p_67, f_67, c_67, a_69, p_69, f_69, c_69, a_71, p_71, f_71, c_71, a_73, p_73, f_73, c_73, c_1, i_1, w_1, z0_1, z1_1, c_2, i_2, w_2, z0_2, z1_2, c_4, i_4, w_4, z0_4, z1_4, c_6, i_6, w_6, z0_6, z1_6, c_13, i_13, w_13, z0_13, z1_13, c_20, i_20, w_20, z0_20, z1_20, c_27, i_27, w_27, z0_27, z1_27, c_28, i_28, w_28, z0_28, z1_28, c_29, i_29, w_29, z0_29, z1_29, c_42, i_42, w_42, z0_42, z1_42, c_43, i_43, w_43, z0_43, z1_43, c_52, i_52, w_52, z0_52, z1_52, X1_size, X1_literal, X1_numberOfStep, X1_ofFormula, X1_inAll, X1_user, X9_codeOf, X1_firstUse, X1_endOfUses, X2_open, X2_at, X2_add, X2_drop, X2_clear, X4_fuelLeft, X4_isActive, X4_isMarked, X4_mark, X4_usedCount, X4_usedAt, X4_setActive, X4_forget, X4_truthOf, h6, rd_34 (show c + 1 < 301 by omega), p8, fX3_goBack_65, e1, wr_53 (show u < 601 by omega), if_neg (nI_ne0 (show 0 < u by omega) (show u < 2 ^ 31 by omega)), rd_55 (show u < 601 by omega), up_ne (show (56 : Nat) ≠ 54 by decide), nz, if_pos, g1]
        by_cases z : I 56 u = 0
        · rw [if_pos z, if_pos rfl, if_pos z]
        · rw [if_neg z, if_neg (by decide), if_neg z]
      have hM : fX10_back_2 (m' + 1) 75 rat (nI (c + 1)) (st I' v' J') = if I 56 u = 0 then fX10_back_2 m' 75 rat (nI c) (st (up I' 91 u 0) v' J') else if w = 0 then fX10_back_2 m' 75 rat (nI c) (st Ib v' J') else some (w, st (up (up Ib 75 35 w) 75 36 (nI (c + 1))) v' J') := by
        conv => lhs; unfold fX10_back_2
        rw [if_neg c2]
        simp only [bnd_x, gd_0, gd_1, gd_o0, gd_o1, ite_self, rf_75_1, rf_75_3, rf_75_12, rf_75_13, rf_75_14, rf_75_15, rf_75_16, rf_75_17, rf_75_18, rf_75_22, rf_75_23, rf_75_24, rf_75_25, rf_75_31, rf_75_32, rf_75_41, rf_75_42, rf_75_43, rf_75_44, rf_75_45, rf_75_46, rf_75_47, rf_75_48, rf_75_53, rf_75_54, rf_75_55, rf_75_57, c_75, i_75, w_75, z0_75, z1_75, qa_84 (show c + 1 < 301 by omega), p7, qa_90 (show c + 1 < 301 by omega), p9, uz_91 (show u < 601 by omega) (Or.inl rfl), fX10_back_91, e1, qa_92 (show u < 601 by omega), up_ne (show (92 : Nat) ≠ 91 by decide), am2, fX10_back_76, g2, ends_ok, show b2 false = 0 from rfl, if_pos]
      by_cases z : I 56 u = 0
      · rw [if_pos z] at hC hM
        rw [hC, hM]
        obtain ⟨I1, I2, f1, f2, f3, f4, f5, f6⟩ := ih m m' (up I 54 u 0) (up I' 91 u 0) (by omega) (by omega) (by omega) hWa (by rw [up_ne (by decide)]; exact h52) (by rw [up_ne (by decide)]; exact h6) (by rw [up_ne (by decide)]; exact h7) (by rw [up_ne (by decide)]; exact h4)
        exact ⟨I1, I2, f1, f2, f3, FrC_t (fun a ha => up_ne (by omega)) f4, FrR_t ⟨fun a ha => up_ne (by omega), fun j _ => by rw [up_ne (by decide)]⟩ f5, by rw [f6, up_ne (by decide)]⟩
      · rw [if_neg z] at hC hM
        rw [hC, hM]
        have k1 : FrC I Ia := FrC_t (fun a ha => up_ne (by omega)) g4
        have k2 : FrR I' Ib := FrR_t ⟨fun a ha => up_ne (by omega), fun j _ => by rw [up_ne (by decide)]⟩ g5
        rcases g10 with ⟨_, w0, r3, r4, r5⟩ | ⟨_, w0, r4, r5⟩
        · rw [if_pos w0]
          obtain ⟨I1, I2, f1, f2, f3, f4, f5, f6⟩ := ih m m' Ia Ib (by omega) (by omega) (by omega) g3 r3 (by rw [r4]; exact h6) (by rw [r5]; exact h7) (by rw [g6]; exact h4)
          exact ⟨I1, I2, f1, f2, f3, FrC_t k1 f4, FrR_t k2 f5, by rw [f6]; exact g8⟩
        · have w1 : ¬ w = 0 := by rcases w0 with q | q <;> rw [q] <;> decide
          rw [if_neg w1]
          obtain ⟨m, rfl⟩ : ∃ q, m = q + 1 := ⟨m - 1, by omega⟩
          have g := WR_ends (I1 := Ia) g3 (fun _ _ => rfl) (fun _ _ _ => rfl)
          rw [r4, r5] at g
          refine ⟨Ia, _, ?_, ?_, g, k1, FrR_t k2 ends_FrR, g8⟩
          · conv => lhs; unfold fX3_goBack_5
            simp only [bnd_x, gd_0, gd_1, gd_o0, gd_o1, ite_self, rf_1_0, rf_1_1, rf_1_5, rf_1_6, rf_1_7, rf_2_0, rf_4_0, rf_6_0, rf_6_1, rf_6_2, rf_7_0, rf_9_0, rf_11_0, rf_13_0, rf_13_1, rf_13_2, rf_14_0, rf_16_0, rf_18_0, rf_20_0, rf_20_1, rf_20_2, rf_21_0, rf_23_0, rf_25_0, rf_27_0, rf_29_0, rf_29_1, rf_29_2, rf_29_3, rf_29_4, rf_29_5, rf_30_0, rf_32_0, rf_34_0, rf_36_0, rf_38_0, rf_40_0, rf_42_0, rf_42_1, rf_42_2, rf_42_3, rf_43_0, rf_43_1, rf_43_2, rf_44_0, rf_46_0, rf_48_0, rf_50_0, rf_52_0, rf_52_1, rf_52_2, rf_52_3, rf_52_4, rf_52_5, rf_52_6, rf_52_7, rf_52_8, rf_52_9, rf_52_10, rf_52_11, rf_53_0, rf_55_0, rf_57_0, rf_59_0, rf_61_0, rf_63_0, rf_65_0, rf_67_0, rf_69_0, rf_71_0, rf_73_0, a_7, p_7, f_7, c_7, a_9, p_9, f_9, c_9, a_11, p_11, f_11, c_11, a_14, p_14, f_14, c_14, a_16, p_16, f_16, c_16, a_18, p_18, f_18, c_18, a_21, p_21, f_21, c_21, a_23, p_23, f_23, c_23, a_25, p_25, f_25, c_25, a_30, p_30, f_30, c_30, a_32, p_32, f_32, c_32, a_34, p_34, f_34, c_34, a_36, p_36, f_36, c_36, a_38, p_38, f_38, c_38, a_40, p_40, f_40, c_40, a_44, p_44, f_44, c_44, a_46, p_46, f_46, c_46, a_48, p_48, f_48, c_48, a_50, p_50, f_50, c_50, a_53, p_53, f_53, c_53, a_55, p_55, f_55, c_55, a_57, p_57, f_57, c_57, a_59, p_59, f_59, c_59, a_61, p_61, f_61, c_61, a_63, p_63, f_63, c_63, a_65, p_65, f_65, c_65, a_67, p_67, f_67, c_67, a_69, p_69, f_69, c_69, a_71, p_71, f_71, c_71, a_73, p_73, f_73, c_73, c_1, i_1, w_1, z0_1, z1_1, c_2, i_2, w_2, z0_2, z1_2, c_4, i_4, w_4, z0_4, z1_4, c_6, i_6, w_6, z0_6, z1_6, c_13, i_13, w_13, z0_13, z1_13, c_20, i_20, w_20, z0_20, z1_20, c_27, i_27, w_27, z0_27, z1_27, c_28, i_28, w_28, z0_28, z1_28, c_29, i_29, w_29, z0_29, z1_29, c_42, i_42, w_42, z0_42, z1_42, c_43, i_43, w_43, z0_43, z1_43, c_52, i_52, w_52, z0_52, z1_52, X1_size, X1_literal, X1_numberOfStep, X1_ofFormula, X1_inAll, X1_user, X9_codeOf, X1_firstUse, X1_endOfUses, X2_open, X2_at, X2_add, X2_drop, X2_clear, X4_fuelLeft, X4_isActive, X4_isMarked, X4_mark, X4_usedCount, X4_usedAt, X4_setActive, X4_forget, X4_truthOf, r4, if_neg w1]
          · rw [r4]
theorem go_end {v : zV} {J : Nat → Nat → Int64} {I : Nat → Nat → Int32} (h : ¬ I 42 6 = -1) (m : Nat) (wg x y : Int32) : fX3_goForwards_15 (m + 1) 42 wg x y (st I v J) = some (st I v J) := by
  conv => lhs; unfold fX3_goForwards_15
  simp only [bnd_x, gd_0, gd_1, gd_o0, gd_o1, ite_self, rf_1_0, rf_1_1, rf_1_5, rf_1_6, rf_1_7, rf_2_0, rf_4_0, rf_6_0, rf_6_1, rf_6_2, rf_7_0, rf_9_0, rf_11_0, rf_13_0, rf_13_1, rf_13_2, rf_14_0, rf_16_0, rf_18_0, rf_20_0, rf_20_1, rf_20_2, rf_21_0, rf_23_0, rf_25_0, rf_27_0, rf_29_0, rf_29_1, rf_29_2, rf_29_3, rf_29_4, rf_29_5, rf_30_0, rf_32_0, rf_34_0, rf_36_0, rf_38_0, rf_40_0, rf_42_0, rf_42_1, rf_42_2, rf_42_3, rf_43_0, rf_43_1, rf_43_2, rf_44_0, rf_46_0, rf_48_0, rf_50_0, rf_52_0, rf_52_1, rf_52_2, rf_52_3, rf_52_4, rf_52_5, rf_52_6, rf_52_7, rf_52_8, rf_52_9, rf_52_10, rf_52_11, rf_53_0, rf_55_0, rf_57_0, rf_59_0, rf_61_0, rf_63_0, rf_65_0, rf_67_0, rf_69_0, rf_71_0, rf_73_0, a_7, p_7, f_7, c_7, a_9, p_9, f_9, c_9, a_11, p_11, f_11, c_11, a_14, p_14, f_14, c_14, a_16, p_16, f_16, c_16, a_18, p_18, f_18, c_18, a_21, p_21, f_21, c_21, a_23, p_23, f_23, c_23, a_25, p_25, f_25, c_25, a_30, p_30, f_30, c_30, a_32, p_32, f_32, c_32, a_34, p_34, f_34, c_34, a_36, p_36, f_36, c_36, a_38, p_38, f_38, c_38, a_40, p_40, f_40, c_40, a_44, p_44, f_44, c_44, a_46, p_46, f_46, c_46, a_48, p_48, f_48, c_48, a_50, p_50, f_50, c_50, a_53, p_53, f_53, c_53, a_55, p_55, f_55, c_55, a_57, p_57, f_57, c_57, a_59, p_59, f_59, c_59, a_61, p_61, f_61, c_61, a_63, p_63, f_63, c_63, a_65, p_65, f_65, c_65, a_67, p_67, f_67, c_67, a_69, p_69, f_69, c_69, a_71, p_71, f_71, c_71, a_73, p_73, f_73, c_73, c_1, i_1, w_1, z0_1, z1_1, c_2, i_2, w_2, z0_2, z1_2, c_4, i_4, w_4, z0_4, z1_4, c_6, i_6, w_6, z0_6, z1_6, c_13, i_13, w_13, z0_13, z1_13, c_20, i_20, w_20, z0_20, z1_20, c_27, i_27, w_27, z0_27, z1_27, c_28, i_28, w_28, z0_28, z1_28, c_29, i_29, w_29, z0_29, z1_29, c_42, i_42, w_42, z0_42, z1_42, c_43, i_43, w_43, z0_43, z1_43, c_52, i_52, w_52, z0_52, z1_52, X1_size, X1_literal, X1_numberOfStep, X1_ofFormula, X1_inAll, X1_user, X9_codeOf, X1_firstUse, X1_endOfUses, X2_open, X2_at, X2_add, X2_drop, X2_clear, X4_fuelLeft, X4_isActive, X4_isMarked, X4_mark, X4_usedCount, X4_usedAt, X4_setActive, X4_forget, X4_truthOf, fX3_goForwards_94, if_neg h]
theorem look3 {v v' : zV} {J J' : Nat → Nat → Int64} (hO : OKD N sz lt) {I I' : Nat → Nat → Int32} {ns : Nat} (h : WR I I' v.2.2.2.2.2.2 N sz lt ns) (h52 : I' 75 52 = 0) (h101 : I' 101 0 = 0) (i : Nat) :
    ∃ Iq Mq, fX3_lookFromNothing 42 (nI i) (st I v J) = some (st Iq v J) ∧ fX10_fromNothing 75 (st I' v' J') = some (st Mq v' J') ∧ FrC I Iq ∧ FrR I' Mq ∧
      ((WR Iq Mq v.2.2.2.2.2.2 N sz lt ns ∧ RZ Iq Mq N ∧ Mq 75 51 = 0 ∧ Mq 75 52 = 0 ∧ Mq 101 0 = 0 ∧ Iq 42 = I 42)
      ∨ (Iq 42 6 = 0 ∧ Iq 42 7 = I 42 7 ∧ Iq 42 8 = nI i ∧ Iq 42 4 = I 42 4 ∧ ∃ M3, WR Iq M3 v.2.2.2.2.2.2 N sz lt ns ∧ M3 75 52 = 0 ∧ FrR I' M3 ∧ ∀ m' bk rat un, fX10_weigh_152 (m' + 1) 75 bk rat un (nI i) (st Mq v' J') = if bk = 0 then some (0, st (up (up M3 75 35 0) 75 36 (-1)) v' J') else bnd (fX10_back 75 (nI i) rat (st M3 v' J')) fun q => some (q.1, q.2))
      ∨ (Iq 42 6 = 2 ∧ Iq 42 7 = 0 ∧ Iq 42 8 = I 42 8 ∧ Iq 42 4 = I 42 4 ∧ WR Iq Mq v.2.2.2.2.2.2 N sz lt ns ∧ ∀ m' bk rat un, fX10_weigh_152 (m' + 1) 75 bk rat un (nI i) (st Mq v' J') = some (2, st (up (up Mq 75 35 2) 75 36 0) v' J'))) := by
  obtain ⟨hRJ, hST, hRG, h39, h40, h37⟩ := h
  obtain ⟨Iq, Mq, n1, n2, n3, n4, n5⟩ := none_lock (v := v) (v' := v') (J := J) (J' := J') hO hRJ h52 h101 (nI i)
  have hFM : FrR I' Mq := ⟨fun a ha => n4.1 a (by omega), fun j hj => n4.2 j (by omega)⟩
  have hSTq : STAT Iq Mq v.2.2.2.2.2.2 N sz lt ns := STAT_fr hST (fun r hr => n3 r (by omega)) (fun r r1 r2 r3 => n4.1 r (by omega)) (n4.2 20 (by omega))
  have hRGq : RG Iq Mq N ns := by
    intro q q1 q2
    rw [n3 51 (by omega), n4.1 95 (by omega)]; exact hRG q q1 q2
  refine ⟨Iq, Mq, n1, n2, fun a ha => n3 a (by omega), hFM, ?_⟩
  rcases n5 with ⟨a1, a2, a3, a4, a5, a6, a7⟩ | ⟨a1, a2, a3, I3, a4, a5, a6, a7, a8⟩ | ⟨a1, a2, a3⟩
  · refine Or.inl ⟨⟨a3, hSTq, hRGq, ?_, ?_, ?_⟩, a4, a2, a1, a7, a5⟩
    · rw [n4.2 39 (by omega), a5]; exact h39
    · rw [n4.2 40 (by omega), a5]; exact h40
    · rw [n4.2 37 (by omega), a5]; exact h37
  · refine Or.inr (Or.inl ⟨?_, ?_, ?_, ?_, I3, ⟨a5, ?_, ?_, ?_, ?_, ?_⟩, a6, ⟨fun a ha => a8.1 a (by omega), fun j hj => a8.2 j (by omega)⟩, ?_⟩)
    · rw [a3, vup_n (by decide), vup_s]
    · rw [a3, vup_n (by decide), vup_n (by decide)]
    · rw [a3, vup_s]
    · rw [a3, vup_n (by decide), vup_n (by decide)]
    · exact STAT_fr hST (fun r hr => n3 r (by omega)) (fun r r1 r2 r3 => a8.1 r (by omega)) (a8.2 20 (by omega))
    · intro q q1 q2
      rw [n3 51 (by omega), a8.1 95 (by omega)]; exact hRG q q1 q2
    · rw [a8.2 39 (by omega), a3, vup_n (by decide), vup_n (by decide)]; exact h39
    · rw [a8.2 40 (by omega), a3, vup_n (by decide), vup_n (by decide)]; exact h40
    · rw [a7, a3, vup_s]
    · intro m' bk rat un
      have u0 := ua_100 (I := up Mq 75 37 (nI i)) (v := v') (J := J') (k := 0) (x := Mq 75 56) (by omega)
      rw [nI_0] at u0
      have e56 : up Mq 75 37 (nI i) 75 56 = Mq 75 56 := by rw [up_at, vup_n (by decide)]
      conv => lhs; unfold fX10_weigh_152
      simp only [bnd_x, gd_0, gd_1, gd_o0, gd_o1, ite_self, rf_75_1, rf_75_3, rf_75_12, rf_75_13, rf_75_14, rf_75_15, rf_75_16, rf_75_17, rf_75_18, rf_75_22, rf_75_23, rf_75_24, rf_75_25, rf_75_31, rf_75_32, rf_75_41, rf_75_42, rf_75_43, rf_75_44, rf_75_45, rf_75_46, rf_75_47, rf_75_48, rf_75_53, rf_75_54, rf_75_55, rf_75_57, c_75, i_75, w_75, z0_75, z1_75, a1, a2, fX10_weigh_254, e56, u0, a4, ends_ok, if_neg (show ¬ (1 : Int32) = 0 by decide), if_pos]
  · refine Or.inr (Or.inr ⟨?_, ?_, ?_, ?_, ⟨a2, hSTq, hRGq, ?_, ?_, ?_⟩, ?_⟩)
    · rw [a3, vup_n (by decide), vup_s]
    · rw [a3, vup_s]
    · rw [a3, vup_n (by decide), vup_n (by decide)]
    · rw [a3, vup_n (by decide), vup_n (by decide)]
    · rw [n4.2 39 (by omega), a3, vup_n (by decide), vup_n (by decide)]; exact h39
    · rw [n4.2 40 (by omega), a3, vup_n (by decide), vup_n (by decide)]; exact h40
    · rw [n4.2 37 (by omega), a3, vup_n (by decide), vup_n (by decide)]; exact h37
    · intro m' bk rat un
      conv => lhs; unfold fX10_weigh_152
      simp only [bnd_x, gd_0, gd_1, gd_o0, gd_o1, ite_self, rf_75_1, rf_75_3, rf_75_12, rf_75_13, rf_75_14, rf_75_15, rf_75_16, rf_75_17, rf_75_18, rf_75_22, rf_75_23, rf_75_24, rf_75_25, rf_75_31, rf_75_32, rf_75_41, rf_75_42, rf_75_43, rf_75_44, rf_75_45, rf_75_46, rf_75_47, rf_75_48, rf_75_53, rf_75_54, rf_75_55, rf_75_57, c_75, i_75, w_75, z0_75, z1_75, a1, fX10_weigh_254, ends_ok, if_neg (show ¬ (1 : Int32) = 0 by decide)]
/-- what forwards leaves: an end, or a conflict from which it goes back -/
def FG (v v' : zV) (J J' : Nat → Nat → Int64) (N : Nat) (sz : Nat → Nat) (lt : Nat → Nat → Int32) (ns : Nat) (rat bk : Int32) (A : Option zS) (B : Option (Int32 × zS)) (I I' : Nat → Nat → Int32) : Prop :=
  ∃ I1 I2, A = some (st I1 v J) ∧ FrC I I1 ∧ FrR I' I2 ∧ I1 42 4 = rat ∧
    ((B = some (I1 42 6, st I2 v' J') ∧ WF I1 I2 v.2.2.2.2.2.2 N sz lt ns ∧ I1 42 8 = -1)
    ∨ (∃ c, c ≤ ns ∧ I1 42 6 = 0 ∧ I1 42 7 = -1 ∧ I1 42 8 = nI c ∧ WR I1 I2 v.2.2.2.2.2.2 N sz lt ns ∧ I2 75 52 = 0 ∧ B = if bk = 0 then some (0, st (up (up I2 75 35 0) 75 36 (-1)) v' J') else bnd (fX10_back 75 (nI c) rat (st I2 v' J')) fun q => some (q.1, q.2)))
theorem fwd {v v' : zV} {J J' : Nat → Nat → Int64} (hO : OKD N sz lt) {ns : Nat} {rat un wg bk : Int32} (hb : (bk = 0 ∧ wg = 1) ∨ (bk = 1 ∧ wg = 0)) : ∀ (d i m m' : Nat) (I I' : Nat → Nat → Int32), i + d = ns → d + 1 < m → d + 1 < m' → WR I I' v.2.2.2.2.2.2 N sz lt ns → I' 75 52 = 0 → I' 101 0 = 0 → I 42 6 = -1 → I 42 7 = -1 → I 42 8 = -1 → I 42 4 = rat → I 42 5 = un →
    FG v v' J J' N sz lt ns rat bk (bnd (fX3_lookFromNothing 42 (nI i) (st I v J)) fun q => fX3_goForwards_15 m 42 wg (nI ns) (nI (i + 1)) q) (bnd (fX10_fromNothing 75 (st I' v' J')) fun q => fX10_weigh_152 m' 75 bk rat un (nI i) q) I I' := by
  have hN := hO.1
  intro d
  induction d with
  | zero =>
    intro i m m' I I' hi hm hm' hW h52 h101 h6 h7 h8 h4 h5
    obtain ⟨m, rfl⟩ : ∃ q, m = q + 1 := ⟨m - 1, by omega⟩
    obtain ⟨m', rfl⟩ : ∃ q, m' = q + 1 := ⟨m' - 1, by omega⟩
    have hns : ns ≤ 300 := hW.2.1.2.2.1
    obtain ⟨Iq, Mq, l1, l2, l3, l4, l5⟩ := look3 (v := v) (v' := v') (J := J) (J' := J') hO hW h52 h101 i
    rw [l1, l2, bnd_x, bnd_x]
    rcases l5 with ⟨a1, a2, a3, a4, a5, a6⟩ | ⟨a1, a2, a3, a4, M3, a5, a6, a7, a8⟩ | ⟨a1, a2, a3, a4, a5, a6⟩
    · have hc : fX3_goForwards_15 (m + 1) 42 wg (nI ns) (nI (i + 1)) (st Iq v J) = some (st (up Iq 42 6 1) v J) := by
        conv => lhs; unfold fX3_goForwards_15
        simp only [bnd_x, gd_0, gd_1, gd_o0, gd_o1, ite_self, rf_1_0, rf_1_1, rf_1_5, rf_1_6, rf_1_7, rf_2_0, rf_4_0, rf_6_0, rf_6_1, rf_6_2, rf_7_0, rf_9_0, rf_11_0, rf_13_0, rf_13_1, rf_13_2, rf_14_0, rf_16_0, rf_18_0, rf_20_0, rf_20_1, rf_20_2, rf_21_0, rf_23_0, rf_25_0, rf_27_0, rf_29_0, rf_29_1, rf_29_2, rf_29_3, rf_29_4, rf_29_5, rf_30_0, rf_32_0, rf_34_0, rf_36_0, rf_38_0, rf_40_0, rf_42_0, rf_42_1, rf_42_2, rf_42_3, rf_43_0, rf_43_1, rf_43_2, rf_44_0, rf_46_0, rf_48_0, rf_50_0, rf_52_0, rf_52_1, rf_52_2, rf_52_3, rf_52_4, rf_52_5, rf_52_6, rf_52_7, rf_52_8, rf_52_9, rf_52_10, rf_52_11, rf_53_0, rf_55_0, rf_57_0, rf_59_0, rf_61_0, rf_63_0, rf_65_0, rf_67_0, rf_69_0, rf_71_0, rf_73_0, a_7, p_7, f_7, c_7, a_9, p_9, f_9, c_9, a_11, p_11, f_11, c_11, a_14, p_14, f_14, c_14, a_16, p_16, f_16, c_16, a_18, p_18, f_18, c_18, a_21, p_21, f_21, c_21, a_23, p_23, f_23, c_23, a_25, p_25, f_25, c_25, a_30, p_30, f_30, c_30, a_32, p_32, f_32, c_32, a_34, p_34, f_34, c_34, a_36, p_36, f_36, c_36, a_38, p_38, f_38, c_38, a_40, p_40, f_40, c_40, a_44, p_44, f_44, c_44, a_46, p_46, f_46, c_46, a_48, p_48, f_48, c_48, a_50, p_50, f_50, c_50, a_53, p_53, f_53, c_53, a_55, p_55, f_55, c_55, a_57, p_57, f_57, c_57, a_59, p_59, f_59, c_59, a_61, p_61, f_61, c_61, a_63, p_63, f_63, c_63, a_65, p_65, f_65, c_65, a_67, p_67, f_67, c_67, a_69, p_69, f_69, c_69, a_71, p_71, f_71, c_71, a_73, p_73, f_73, c_73, c_1, i_1, w_1, z0_1, z1_1, c_2, i_2, w_2, z0_2, z1_2, c_4, i_4, w_4, z0_4, z1_4, c_6, i_6, w_6, z0_6, z1_6, c_13, i_13, w_13, z0_13, z1_13, c_20, i_20, w_20, z0_20, z1_20, c_27, i_27, w_27, z0_27, z1_27, c_28, i_28, w_28, z0_28, z1_28, c_29, i_29, w_29, z0_29, z1_29, c_42, i_42, w_42, z0_42, z1_42, c_43, i_43, w_43, z0_43, z1_43, c_52, i_52, w_52, z0_52, z1_52, X1_size, X1_literal, X1_numberOfStep, X1_ofFormula, X1_inAll, X1_user, X9_codeOf, X1_firstUse, X1_endOfUses, X2_open, X2_at, X2_add, X2_drop, X2_clear, X4_fuelLeft, X4_isActive, X4_isMarked, X4_mark, X4_usedCount, X4_usedAt, X4_setActive, X4_forget, X4_truthOf, fX3_goForwards_94, a6, h6, if_pos (nI_lt (show ns < i + 1 by omega) (show i + 1 < 2 ^ 31 by omega)), if_pos]
      have hm : fX10_weigh_152 (m' + 1) 75 bk rat un (nI i) (st Mq v' J') = some (1, st (up (up Mq 75 35 1) 75 36 (-1)) v' J') := by
        conv => lhs; unfold fX10_weigh_152
        simp only [bnd_x, gd_0, gd_1, gd_o0, gd_o1, ite_self, rf_75_1, rf_75_3, rf_75_12, rf_75_13, rf_75_14, rf_75_15, rf_75_16, rf_75_17, rf_75_18, rf_75_22, rf_75_23, rf_75_24, rf_75_25, rf_75_31, rf_75_32, rf_75_41, rf_75_42, rf_75_43, rf_75_44, rf_75_45, rf_75_46, rf_75_47, rf_75_48, rf_75_53, rf_75_54, rf_75_55, rf_75_57, c_75, i_75, w_75, z0_75, z1_75, a4, a3, a1.2.1.2.2.2.2.1, if_pos (nI_le (show ns ≤ i by omega) (show i < 2 ^ 31 by omega)), fX10_weigh_254, ends_ok, if_pos]
      have g := WR_ends (I1 := up Iq 42 6 1) a1 (fun a ha => up_ne ha) (fun j j1 j2 => by rw [up_at, vup_n j1])
      have e6 : up Iq 42 6 1 42 6 = 1 := up_self ..
      have e7 : up Iq 42 6 1 42 7 = -1 := by rw [up_at, vup_n (by decide), a6]; exact h7
      rw [e6, e7] at g
      exact ⟨_, _, hc, FrC_t l3 (fun a ha => up_ne (by omega)), FrR_t l4 ends_FrR, by rw [up_at, vup_n (by decide), a6]; exact h4, Or.inl ⟨by rw [hm, e6], g, by rw [up_at, vup_n (by decide), a6]; exact h8⟩⟩
    · refine ⟨Iq, M3, go_end (by rw [a1]; decide) _ _ _ _, l3, a7, by rw [a4]; exact h4, Or.inr ⟨i, by omega, a1, by rw [a2]; exact h7, a3, a5, a6, a8 _ _ _ _⟩⟩
    · have g := WR_ends (I1 := Iq) a5 (fun _ _ => rfl) (fun _ _ _ => rfl)
      rw [a1, a2] at g
      refine ⟨Iq, _, go_end (by rw [a1]; decide) _ _ _ _, l3, FrR_t l4 ends_FrR, by rw [a4]; exact h4, Or.inl ⟨by rw [a6, a1], g, by rw [a3]; exact h8⟩⟩
  | succ d ih =>
    intro i m m' I I' hi hm hm' hW h52 h101 h6 h7 h8 h4 h5
    obtain ⟨m, rfl⟩ : ∃ q, m = q + 1 := ⟨m - 1, by omega⟩
    obtain ⟨m', rfl⟩ : ∃ q, m' = q + 1 := ⟨m' - 1, by omega⟩
    have hns : ns ≤ 300 := hW.2.1.2.2.1
    obtain ⟨Iq, Mq, l1, l2, l3, l4, l5⟩ := look3 (v := v) (v' := v') (J := J) (J' := J') hO hW h52 h101 i
    rw [l1, l2, bnd_x, bnd_x]
    rcases l5 with ⟨a1, a2, a3, a4, a5, a6⟩ | ⟨a1, a2, a3, a4, M3, a5, a6, a7, a8⟩ | ⟨a1, a2, a3, a4, a5, a6⟩
    · obtain ⟨s, g, bb, u, p1, p2, p3, p4, p5, p6, p7, p8, p9, p10, p11⟩ := a1.2.1.2.2.2.2.2 (i + 1) (by omega) (by omega)
      have q6 : Iq 42 6 = -1 := by rw [a6]; exact h6
      have q7 : Iq 42 7 = -1 := by rw [a6]; exact h7
      have q8 : Iq 42 8 = -1 := by rw [a6]; exact h8
      have q4 : Iq 42 4 = rat := by rw [a6]; exact h4
      have q5 : Iq 42 5 = un := by rw [a6]; exact h5
      -- what follows from a state ahead of the next look
      have next : ∀ (X M : Nat → Nat → Int32), WR X M v.2.2.2.2.2.2 N sz lt ns → M 75 52 = 0 → M 101 0 = 0 → X 42 6 = -1 → X 42 7 = -1 → X 42 8 = -1 → X 42 4 = rat → X 42 5 = un → FrC I X → FrR I' M → fX3_goForwards_15 (m + 1) 42 wg (nI ns) (nI (i + 1)) (st Iq v J) = fX3_goForwards_75 (fX3_goForwards_15 m) 42 wg (nI ns) (nI (i + 1)) (st X v J) → fX10_weigh_152 (m' + 1) 75 bk rat un (nI i) (st Mq v' J') = fX10_weigh_247 (fX10_weigh_152 m') 75 bk rat un (nI (i + 1)) (st M v' J') → FG v v' J J' N sz lt ns rat bk (fX3_goForwards_15 (m + 1) 42 wg (nI ns) (nI (i + 1)) (st Iq v J)) (fX10_weigh_152 (m' + 1) 75 bk rat un (nI i) (st Mq v' J')) I I' := by
        intro X M y1 y2 y3 y4 y5 y6 y7 y8 y9 y10 y11 y12
        obtain ⟨I1, I2, f1, f2, f3, f4, f5⟩ := ih (i + 1) m m' X M (by omega) (by omega) (by omega) y1 y2 y3 y4 y5 y6 y7 y8
        rw [y11, y12]
        have hc : fX3_goForwards_75 (fX3_goForwards_15 m) 42 wg (nI ns) (nI (i + 1)) (st X v J) = bnd (fX3_lookFromNothing 42 (nI (i + 1)) (st X v J)) fun q => fX3_goForwards_15 m 42 wg (nI ns) (nI (i + 1 + 1)) q := by
          unfold fX3_goForwards_75 fX3_goForwards_88
          simp only [bnd_x, gd_0, gd_1, gd_o0, gd_o1, ite_self, rf_1_0, rf_1_1, rf_1_5, rf_1_6, rf_1_7, rf_2_0, rf_4_0, rf_6_0, rf_6_1, rf_6_2, rf_7_0, rf_9_0, rf_11_0, rf_13_0, rf_13_1, rf_13_2, rf_14_0, rf_16_0, rf_18_0, rf_20_0, rf_20_1, rf_20_2, rf_21_0, rf_23_0, rf_25_0, rf_27_0, rf_29_0, rf_29_1, rf_29_2, rf_29_3, rf_29_4, rf_29_5, rf_30_0, rf_32_0, rf_34_0, rf_36_0, rf_38_0, rf_40_0, rf_42_0, rf_42_1, rf_42_2, rf_42_3, rf_43_0, rf_43_1, rf_43_2, rf_44_0, rf_46_0, rf_48_0, rf_50_0, rf_52_0, rf_52_1, rf_52_2, rf_52_3, rf_52_4, rf_52_5, rf_52_6, rf_52_7, rf_52_8, rf_52_9, rf_52_10, rf_52_11, rf_53_0, rf_55_0, rf_57_0, rf_59_0, rf_61_0, rf_63_0, rf_65_0, rf_67_0, rf_69_0, rf_71_0, rf_73_0, a_7, p_7, f_7, c_7, a_9, p_9, f_9, c_9, a_11, p_11, f_11, c_11, a_14, p_14, f_14, c_14, a_16, p_16, f_16, c_16, a_18, p_18, f_18, c_18, a_21, p_21, f_21, c_21, a_23, p_23, f_23, c_23, a_25, p_25, f_25, c_25, a_30, p_30, f_30, c_30, a_32, p_32, f_32, c_32, a_34, p_34, f_34, c_34, a_36, p_36, f_36, c_36, a_38, p_38, f_38, c_38, a_40, p_40, f_40, c_40, a_44, p_44, f_44, c_44, a_46, p_46, f_46, c_46, a_48, p_48, f_48, c_48, a_50, p_50, f_50, c_50, a_53, p_53, f_53, c_53, a_55, p_55, f_55, c_55, a_57, p_57, f_57, c_57, a_59, p_59, f_59, c_59, a_61, p_61, f_61, c_61, a_63, p_63, f_63, c_63, a_65, p_65, f_65, c_65, a_67, p_67, f_67, c_67, a_69, p_69, f_69, c_69, a_71, p_71, f_71, c_71, a_73, p_73, f_73, c_73, c_1, i_1, w_1, z0_1, z1_1, c_2, i_2, w_2, z0_2, z1_2, c_4, i_4, w_4, z0_4, z1_4, c_6, i_6, w_6, z0_6, z1_6, c_13, i_13, w_13, z0_13, z1_13, c_20, i_20, w_20, z0_20, z1_20, c_27, i_27, w_27, z0_27, z1_27, c_28, i_28, w_28, z0_28, z1_28, c_29, i_29, w_29, z0_29, z1_29, c_42, i_42, w_42, z0_42, z1_42, c_43, i_43, w_43, z0_43, z1_43, c_52, i_52, w_52, z0_52, z1_52, X1_size, X1_literal, X1_numberOfStep, X1_ofFormula, X1_inAll, X1_user, X9_codeOf, X1_firstUse, X1_endOfUses, X2_open, X2_at, X2_add, X2_drop, X2_clear, X4_fuelLeft, X4_isActive, X4_isMarked, X4_mark, X4_usedCount, X4_usedAt, X4_setActive, X4_forget, X4_truthOf, y4, if_pos, nI_1]
        have hm : fX10_weigh_247 (fX10_weigh_152 m') 75 bk rat un (nI (i + 1)) (st M v' J') = bnd (fX10_fromNothing 75 (st M v' J')) fun q => fX10_weigh_152 m' 75 bk rat un (nI (i + 1)) q := by
          unfold fX10_weigh_247
          simp only [bnd_x, gd_0, gd_1, gd_o0, gd_o1, ite_self, rf_75_1, rf_75_3, rf_75_12, rf_75_13, rf_75_14, rf_75_15, rf_75_16, rf_75_17, rf_75_18, rf_75_22, rf_75_23, rf_75_24, rf_75_25, rf_75_31, rf_75_32, rf_75_41, rf_75_42, rf_75_43, rf_75_44, rf_75_45, rf_75_46, rf_75_47, rf_75_48, rf_75_53, rf_75_54, rf_75_55, rf_75_57, c_75, i_75, w_75, z0_75, z1_75]
        rw [hc, hm]
        exact ⟨I1, I2, f1, FrC_t y9 f2, FrR_t y10 f3, f4, f5⟩
      have nlt : ¬ nI ns < nI (i + 1) := nI_nlt (show i + 1 ≤ ns by omega) (by omega)
      have nle : ¬ nI ns ≤ nI i := nI_ge (show i < ns by omega) (by omega)
      cases bb with
      | true =>
        have u0 : u = 0 := p10 rfl
        obtain ⟨X, M, x1, x2, x3, x4, x5, x6⟩ := remove_lock (v := v) (v' := v') (J := J) (J' := J') hO a1.1 a1.2.1 a2 a1.2.2.1 (i := i + 1) (by omega) (by omega)
        rw [q5] at x2
        refine next X M ⟨x3, STAT_fr a1.2.1 (fun r hr => x5 r (by omega) (by omega)) (fun r r1 r2 r3 => x6 r r3 (by omega)) (by rw [x6 75 (by decide) (by decide)]), x4, ?_, ?_, ?_⟩ ?_ ?_ ?_ ?_ ?_ ?_ ?_ (FrC_t l3 (fun a ha => x5 a (by omega) (by omega))) (FrR_t l4 ⟨fun a ha => x6 a (by omega) (by omega), fun j _ => by rw [x6 75 (by decide) (by decide)]⟩) ?_ ?_
        · rw [x6 75 (by decide) (by decide), x5 42 (by decide) (by decide)]; exact a1.2.2.2.1
        · rw [x6 75 (by decide) (by decide), x5 42 (by decide) (by decide)]; exact a1.2.2.2.2.1
        · rw [x6 75 (by decide) (by decide), x5 42 (by decide) (by decide)]; exact a1.2.2.2.2.2
        · rw [x6 75 (by decide) (by decide)]; exact a4
        · rw [x6 101 (by decide) (by decide)]; exact a5
        · rw [x5 42 (by decide) (by decide)]; exact q6
        · rw [x5 42 (by decide) (by decide)]; exact q7
        · rw [x5 42 (by decide) (by decide)]; exact q8
        · rw [x5 42 (by decide) (by decide)]; exact q4
        · rw [x5 42 (by decide) (by decide)]; exact q5
        · conv => lhs; unfold fX3_goForwards_15
          rw [if_neg nlt]
          simp only [bnd_x, gd_0, gd_1, gd_o0, gd_o1, ite_self, rf_1_0, rf_1_1, rf_1_5, rf_1_6, rf_1_7, rf_2_0, rf_4_0, rf_6_0, rf_6_1, rf_6_2, rf_7_0, rf_9_0, rf_11_0, rf_13_0, rf_13_1, rf_13_2, rf_14_0, rf_16_0, rf_18_0, rf_20_0, rf_20_1, rf_20_2, rf_21_0, rf_23_0, rf_25_0, rf_27_0, rf_29_0, rf_29_1, rf_29_2, rf_29_3, rf_29_4, rf_29_5, rf_30_0, rf_32_0, rf_34_0, rf_36_0, rf_38_0, rf_40_0, rf_42_0, rf_42_1, rf_42_2, rf_42_3, rf_43_0, rf_43_1, rf_43_2, rf_44_0, rf_46_0, rf_48_0, rf_50_0, rf_52_0, rf_52_1, rf_52_2, rf_52_3, rf_52_4, rf_52_5, rf_52_6, rf_52_7, rf_52_8, rf_52_9, rf_52_10, rf_52_11, rf_53_0, rf_55_0, rf_57_0, rf_59_0, rf_61_0, rf_63_0, rf_65_0, rf_67_0, rf_69_0, rf_71_0, rf_73_0, a_7, p_7, f_7, c_7, a_9, p_9, f_9, c_9, a_11, p_11, f_11, c_11, a_14, p_14, f_14, c_14, a_16, p_16, f_16, c_16, a_18, p_18, f_18, c_18, a_21, p_21, f_21, c_21, a_23, p_23, f_23, c_23, a_25, p_25, f_25, c_25, a_30, p_30, f_30, c_30, a_32, p_32, f_32, c_32, a_34, p_34, f_34, c_34, a_36, p_36, f_36, c_36, a_38, p_38, f_38, c_38, a_40, p_40, f_40, c_40, a_44, p_44, f_44, c_44, a_46, p_46, f_46, c_46, a_48, p_48, f_48, c_48, a_50, p_50, f_50, c_50, a_53, p_53, f_53, c_53, a_55, p_55, f_55, c_55, a_57, p_57, f_57, c_57, a_59, p_59, f_59, c_59, a_61, p_61, f_61, c_61, a_63, p_63, f_63, c_63, a_65, p_65, f_65, c_65, a_67, p_67, f_67, c_67, a_69, p_69, f_69, c_69, a_71, p_71, f_71, c_71, a_73, p_73, f_73, c_73, c_1, i_1, w_1, z0_1, z1_1, c_2, i_2, w_2, z0_2, z1_2, c_4, i_4, w_4, z0_4, z1_4, c_6, i_6, w_6, z0_6, z1_6, c_13, i_13, w_13, z0_13, z1_13, c_20, i_20, w_20, z0_20, z1_20, c_27, i_27, w_27, z0_27, z1_27, c_28, i_28, w_28, z0_28, z1_28, c_29, i_29, w_29, z0_29, z1_29, c_42, i_42, w_42, z0_42, z1_42, c_43, i_43, w_43, z0_43, z1_43, c_52, i_52, w_52, z0_52, z1_52, X1_size, X1_literal, X1_numberOfStep, X1_ofFormula, X1_inAll, X1_user, X9_codeOf, X1_firstUse, X1_endOfUses, X2_open, X2_at, X2_add, X2_drop, X2_clear, X4_fuelLeft, X4_isActive, X4_isMarked, X4_mark, X4_usedCount, X4_usedAt, X4_setActive, X4_forget, X4_truthOf, q6, if_pos, rd_34 (show i + 1 < 301 by omega), p8, u0, nI_0, x1]
        · conv => lhs; unfold fX10_weigh_152
          simp only [bnd_x, gd_0, gd_1, gd_o0, gd_o1, ite_self, rf_75_1, rf_75_3, rf_75_12, rf_75_13, rf_75_14, rf_75_15, rf_75_16, rf_75_17, rf_75_18, rf_75_22, rf_75_23, rf_75_24, rf_75_25, rf_75_31, rf_75_32, rf_75_41, rf_75_42, rf_75_43, rf_75_44, rf_75_45, rf_75_46, rf_75_47, rf_75_48, rf_75_53, rf_75_54, rf_75_55, rf_75_57, c_75, i_75, w_75, z0_75, z1_75, a4, a3, a1.2.1.2.2.2.2.1, if_pos, if_neg nle, nI_1, qa_84 (show i + 1 < 301 by omega), p7, show b2 true = 1 from rfl, if_neg (show ¬ (1 : Int32) = 0 by decide), x2]
      | false =>
        obtain ⟨u1, u2⟩ := p11 rfl
        have act : ∀ (X M : Nat → Nat → Int32), WR X M v.2.2.2.2.2.2 N sz lt ns → M 75 52 = 0 → M 101 0 = 0 → X 42 6 = -1 → X 42 7 = -1 → X 42 8 = -1 → X 42 4 = rat → X 42 5 = un → FrC I X → FrR I' M → fX3_goForwards_15 (m + 1) 42 wg (nI ns) (nI (i + 1)) (st Iq v J) = fX3_goForwards_65 (fX3_goForwards_15 m) 42 wg (nI ns) (nI (i + 1)) (nI u) (st X v J) → fX10_weigh_152 (m' + 1) 75 bk rat un (nI i) (st Mq v' J') = fX10_weigh_218 (fX10_weigh_152 m') 75 bk rat un (nI (i + 1)) 0 (st M v' J') → FG v v' J J' N sz lt ns rat bk (fX3_goForwards_15 (m + 1) 42 wg (nI ns) (nI (i + 1)) (st Iq v J)) (fX10_weigh_152 (m' + 1) 75 bk rat un (nI i) (st Mq v' J')) I I' := by
          intro X M y1 y2 y3 y4 y5 y6 y7 y8 y9 y10 y11 y12
          have h90 : M 90 (i + 1) = nI u := by
            obtain ⟨s', g', bb', u', o1, o2, o3, o4, o5, o6, o7, o8, o9, o10, o11⟩ := y1.2.1.2.2.2.2.2 (i + 1) (by omega) (by omega)
            rw [y10.1 90 (by omega), ← l4.1 90 (by omega)]; exact p9
          refine next (up X 54 u 1) (up M 91 u 1) (WR_a y1 u (Or.inr rfl)) ?_ ?_ ?_ ?_ ?_ ?_ ?_ (FrC_t y9 (fun a ha => up_ne (by omega))) (FrR_t y10 ⟨fun a ha => up_ne (by omega), fun j _ => by rw [up_ne (by decide)]⟩) ?_ ?_
          · rw [up_ne (by decide)]; exact y2
          · rw [up_ne (by decide)]; exact y3
          · rw [up_ne (by decide)]; exact y4
          · rw [up_ne (by decide)]; exact y5
          · rw [up_ne (by decide)]; exact y6
          · rw [up_ne (by decide)]; exact y7
          · rw [up_ne (by decide)]; exact y8
          · rw [y11]
            unfold fX3_goForwards_65
            simp only [bnd_x, gd_0, gd_1, gd_o0, gd_o1, ite_self, rf_1_0, rf_1_1, rf_1_5, rf_1_6, rf_1_7, rf_2_0, rf_4_0, rf_6_0, rf_6_1, rf_6_2, rf_7_0, rf_9_0, rf_11_0, rf_13_0, rf_13_1, rf_13_2, rf_14_0, rf_16_0, rf_18_0, rf_20_0, rf_20_1, rf_20_2, rf_21_0, rf_23_0, rf_25_0, rf_27_0, rf_29_0, rf_29_1, rf_29_2, rf_29_3, rf_29_4, rf_29_5, rf_30_0, rf_32_0, rf_34_0, rf_36_0, rf_38_0, rf_40_0, rf_42_0, rf_42_1, rf_42_2, rf_42_3, rf_43_0, rf_43_1, rf_43_2, rf_44_0, rf_46_0, rf_48_0, rf_50_0, rf_52_0, rf_52_1, rf_52_2, rf_52_3, rf_52_4, rf_52_5, rf_52_6, rf_52_7, rf_52_8, rf_52_9, rf_52_10, rf_52_11, rf_53_0, rf_55_0, rf_57_0, rf_59_0, rf_61_0, rf_63_0, rf_65_0, rf_67_0, rf_69_0, rf_71_0, rf_73_0, a_7, p_7, f_7, c_7, a_9, p_9, f_9, c_9, a_11, p_11, f_11, c_11, a_14, p_14, f_14, c_14, a_16, p_16, f_16, c_16, a_18, p_18, f_18, c_18, a_21, p_21, f_21, c_21, a_23, p_23, f_23, c_23, a_25, p_25, f_25, c_25, a_30, p_30, f_30, c_30, a_32, p_32, f_32, c_32, a_34, p_34, f_34, c_34, a_36, p_36, f_36, c_36, a_38, p_38, f_38, c_38, a_40, p_40, f_40, c_40, a_44, p_44, f_44, c_44, a_46, p_46, f_46, c_46, a_48, p_48, f_48, c_48, a_50, p_50, f_50, c_50, a_53, p_53, f_53, c_53, a_55, p_55, f_55, c_55, a_57, p_57, f_57, c_57, a_59, p_59, f_59, c_59, a_61, p_61, f_61, c_61, a_63, p_63, f_63, c_63, a_65, p_65, f_65, c_65, a_67, p_67, f_67, c_67, a_69, p_69, f_69, c_69, a_71, p_71, f_71, c_71, a_73, p_73, f_73, c_73, c_1, i_1, w_1, z0_1, z1_1, c_2, i_2, w_2, z0_2, z1_2, c_4, i_4, w_4, z0_4, z1_4, c_6, i_6, w_6, z0_6, z1_6, c_13, i_13, w_13, z0_13, z1_13, c_20, i_20, w_20, z0_20, z1_20, c_27, i_27, w_27, z0_27, z1_27, c_28, i_28, w_28, z0_28, z1_28, c_29, i_29, w_29, z0_29, z1_29, c_42, i_42, w_42, z0_42, z1_42, c_43, i_43, w_43, z0_43, z1_43, c_52, i_52, w_52, z0_52, z1_52, X1_size, X1_literal, X1_numberOfStep, X1_ofFormula, X1_inAll, X1_user, X9_codeOf, X1_firstUse, X1_endOfUses, X2_open, X2_at, X2_add, X2_drop, X2_clear, X4_fuelLeft, X4_isActive, X4_isMarked, X4_mark, X4_usedCount, X4_usedAt, X4_setActive, X4_forget, X4_truthOf, wr_53 (show u < 601 by omega), nz, if_neg (show ¬ (1 : Int32) = 0 by decide)]
          · rw [y12]
            unfold fX10_weigh_218
            simp only [bnd_x, gd_0, gd_1, gd_o0, gd_o1, ite_self, rf_75_1, rf_75_3, rf_75_12, rf_75_13, rf_75_14, rf_75_15, rf_75_16, rf_75_17, rf_75_18, rf_75_22, rf_75_23, rf_75_24, rf_75_25, rf_75_31, rf_75_32, rf_75_41, rf_75_42, rf_75_43, rf_75_44, rf_75_45, rf_75_46, rf_75_47, rf_75_48, rf_75_53, rf_75_54, rf_75_55, rf_75_57, c_75, i_75, w_75, z0_75, z1_75, if_pos, qa_90 (show i + 1 < 301 by omega), h90, uz_91 (show u < 601 by omega) (Or.inr rfl)]
        have hu0 : ¬ nI u = 0 := nI_ne0 (show 0 < u by omega) (by omega)
        have hC0 : fX3_goForwards_15 (m + 1) 42 wg (nI ns) (nI (i + 1)) (st Iq v J) = if wg = 0 then fX3_goForwards_65 (fX3_goForwards_15 m) 42 wg (nI ns) (nI (i + 1)) (nI u) (st Iq v J) else bnd (fX3_holds 42 (nI (i + 1)) (nI u) (st Iq v J)) fun q19 => if q19.1 = 0 then fX3_goForwards_75 (fX3_goForwards_15 m) 42 wg (nI ns) (nI (i + 1)) q19.2 else fX3_goForwards_65 (fX3_goForwards_15 m) 42 wg (nI ns) (nI (i + 1)) (nI u) q19.2 := by
          conv => lhs; unfold fX3_goForwards_15
          rw [if_neg nlt]
          simp only [bnd_x, gd_0, gd_1, gd_o0, gd_o1, ite_self, rf_1_0, rf_1_1, rf_1_5, rf_1_6, rf_1_7, rf_2_0, rf_4_0, rf_6_0, rf_6_1, rf_6_2, rf_7_0, rf_9_0, rf_11_0, rf_13_0, rf_13_1, rf_13_2, rf_14_0, rf_16_0, rf_18_0, rf_20_0, rf_20_1, rf_20_2, rf_21_0, rf_23_0, rf_25_0, rf_27_0, rf_29_0, rf_29_1, rf_29_2, rf_29_3, rf_29_4, rf_29_5, rf_30_0, rf_32_0, rf_34_0, rf_36_0, rf_38_0, rf_40_0, rf_42_0, rf_42_1, rf_42_2, rf_42_3, rf_43_0, rf_43_1, rf_43_2, rf_44_0, rf_46_0, rf_48_0, rf_50_0, rf_52_0, rf_52_1, rf_52_2, rf_52_3, rf_52_4, rf_52_5, rf_52_6, rf_52_7, rf_52_8, rf_52_9, rf_52_10, rf_52_11, rf_53_0, rf_55_0, rf_57_0, rf_59_0, rf_61_0, rf_63_0, rf_65_0, rf_67_0, rf_69_0, rf_71_0, rf_73_0, a_7, p_7, f_7, c_7, a_9, p_9, f_9, c_9, a_11, p_11, f_11, c_11, a_14, p_14, f_14, c_14, a_16, p_16, f_16, c_16, a_18, p_18, f_18, c_18, a_21, p_21, f_21, c_21, a_23, p_23, f_23, c_23, a_25, p_25, f_25, c_25, a_30, p_30, f_30, c_30, a_32, p_32, f_32, c_32, a_34, p_34, f_34, c_34, a_36, p_36, f_36, c_36, a_38, p_38, f_38, c_38, a_40, p_40, f_40, c_40, a_44, p_44, f_44, c_44, a_46, p_46, f_46, c_46, a_48, p_48, f_48, c_48, a_50, p_50, f_50, c_50, a_53, p_53, f_53, c_53, a_55, p_55, f_55, c_55, a_57, p_57, f_57, c_57, a_59, p_59, f_59, c_59, a_61, p_61, f_61, c_61, a_63, p_63, f_63, c_63, a_65, p_65, f_65, c_65, a_67, p_67, f_67, c_67, a_69, p_69, f_69, c_69, a_71, p_71, f_71, c_71, a_73, p_73, f_73, c_73, c_1, i_1, w_1, z0_1, z1_1, c_2, i_2, w_2, z0_2, z1_2, c_4, i_4, w_4, z0_4, z1_4, c_6, i_6, w_6, z0_6, z1_6, c_13, i_13, w_13, z0_13, z1_13, c_20, i_20, w_20, z0_20, z1_20, c_27, i_27, w_27, z0_27, z1_27, c_28, i_28, w_28, z0_28, z1_28, c_29, i_29, w_29, z0_29, z1_29, c_42, i_42, w_42, z0_42, z1_42, c_43, i_43, w_43, z0_43, z1_43, c_52, i_52, w_52, z0_52, z1_52, X1_size, X1_literal, X1_numberOfStep, X1_ofFormula, X1_inAll, X1_user, X9_codeOf, X1_firstUse, X1_endOfUses, X2_open, X2_at, X2_add, X2_drop, X2_clear, X4_fuelLeft, X4_isActive, X4_isMarked, X4_mark, X4_usedCount, X4_usedAt, X4_setActive, X4_forget, X4_truthOf, q6, if_pos, rd_34 (show i + 1 < 301 by omega), p8, if_neg hu0]
        have hM0 : fX10_weigh_152 (m' + 1) 75 bk rat un (nI i) (st Mq v' J') = if bk = 0 then bnd (fX10_weighed 75 (nI u) rat (st Mq v' J')) fun q55 => fX10_weigh_218 (fX10_weigh_152 m') 75 bk rat un (nI (i + 1)) q55.1 q55.2 else fX10_weigh_218 (fX10_weigh_152 m') 75 bk rat un (nI (i + 1)) 0 (st Mq v' J') := by
          conv => lhs; unfold fX10_weigh_152
          simp only [bnd_x, gd_0, gd_1, gd_o0, gd_o1, ite_self, rf_75_1, rf_75_3, rf_75_12, rf_75_13, rf_75_14, rf_75_15, rf_75_16, rf_75_17, rf_75_18, rf_75_22, rf_75_23, rf_75_24, rf_75_25, rf_75_31, rf_75_32, rf_75_41, rf_75_42, rf_75_43, rf_75_44, rf_75_45, rf_75_46, rf_75_47, rf_75_48, rf_75_53, rf_75_54, rf_75_55, rf_75_57, c_75, i_75, w_75, z0_75, z1_75, a4, a3, a1.2.1.2.2.2.2.1, if_pos, if_neg nle, nI_1, qa_84 (show i + 1 < 301 by omega), p7, show b2 false = 0 from rfl, qa_90 (show i + 1 < 301 by omega), p9]
        rcases hb with ⟨b0, w0⟩ | ⟨b0, w0⟩
        · obtain ⟨Ia, Ib, r, w, g1, g2, g3, g4, g5, g6, g7, g8, g9, g10⟩ := hold_WR (v := v) (v' := v') (J := J) (J' := J') hO a1 a4 u1 u2 (nI (i + 1))
          rw [q4] at g2
          rw [if_neg (by rw [w0]; decide), g1, bnd_x] at hC0
          rw [if_pos b0, g2, bnd_x] at hM0
          simp only at hC0 hM0
          rcases g10 with ⟨r0, ww, r3, r4, r5⟩ | ⟨r0, ww, r4, r5⟩
          · rw [if_neg (by rw [r0]; decide)] at hC0
            rw [ww] at hM0
            exact act Ia Ib g3 r3 (by rw [g9]; exact a5) (by rw [r4]; exact q6) (by rw [r5]; exact q7) (by rw [g8]; exact q8) (by rw [g6]; exact q4) (by rw [g7]; exact q5) (FrC_t l3 g4) (FrR_t l4 g5) hC0 hM0
          · have w1 : ¬ w = 0 := by rcases ww with q | q <;> rw [q] <;> decide
            have w2 : ¬ w = -1 := by rcases ww with q | q <;> rw [q] <;> decide
            rw [if_pos r0] at hC0
            obtain ⟨m, rfl⟩ : ∃ q, m = q + 1 := ⟨m - 1, by omega⟩
            have hc : fX3_goForwards_75 (fX3_goForwards_15 (m + 1)) 42 wg (nI ns) (nI (i + 1)) (st Ia v J) = some (st Ia v J) := by
              unfold fX3_goForwards_75 fX3_goForwards_88
              simp only [bnd_x, gd_0, gd_1, gd_o0, gd_o1, ite_self, rf_1_0, rf_1_1, rf_1_5, rf_1_6, rf_1_7, rf_2_0, rf_4_0, rf_6_0, rf_6_1, rf_6_2, rf_7_0, rf_9_0, rf_11_0, rf_13_0, rf_13_1, rf_13_2, rf_14_0, rf_16_0, rf_18_0, rf_20_0, rf_20_1, rf_20_2, rf_21_0, rf_23_0, rf_25_0, rf_27_0, rf_29_0, rf_29_1, rf_29_2, rf_29_3, rf_29_4, rf_29_5, rf_30_0, rf_32_0, rf_34_0, rf_36_0, rf_38_0, rf_40_0, rf_42_0, rf_42_1, rf_42_2, rf_42_3, rf_43_0, rf_43_1, rf_43_2, rf_44_0, rf_46_0, rf_48_0, rf_50_0, rf_52_0, rf_52_1, rf_52_2, rf_52_3, rf_52_4, rf_52_5, rf_52_6, rf_52_7, rf_52_8, rf_52_9, rf_52_10, rf_52_11, rf_53_0, rf_55_0, rf_57_0, rf_59_0, rf_61_0, rf_63_0, rf_65_0, rf_67_0, rf_69_0, rf_71_0, rf_73_0, a_7, p_7, f_7, c_7, a_9, p_9, f_9, c_9, a_11, p_11, f_11, c_11, a_14, p_14, f_14, c_14, a_16, p_16, f_16, c_16, a_18, p_18, f_18, c_18, a_21, p_21, f_21, c_21, a_23, p_23, f_23, c_23, a_25, p_25, f_25, c_25, a_30, p_30, f_30, c_30, a_32, p_32, f_32, c_32, a_34, p_34, f_34, c_34, a_36, p_36, f_36, c_36, a_38, p_38, f_38, c_38, a_40, p_40, f_40, c_40, a_44, p_44, f_44, c_44, a_46, p_46, f_46, c_46, a_48, p_48, f_48, c_48, a_50, p_50, f_50, c_50, a_53, p_53, f_53, c_53, a_55, p_55, f_55, c_55, a_57, p_57, f_57, c_57, a_59, p_59, f_59, c_59, a_61, p_61, f_61, c_61, a_63, p_63, f_63, c_63, a_65, p_65, f_65, c_65, a_67, p_67, f_67, c_67, a_69, p_69, f_69, c_69, a_71, p_71, f_71, c_71, a_73, p_73, f_73, c_73, c_1, i_1, w_1, z0_1, z1_1, c_2, i_2, w_2, z0_2, z1_2, c_4, i_4, w_4, z0_4, z1_4, c_6, i_6, w_6, z0_6, z1_6, c_13, i_13, w_13, z0_13, z1_13, c_20, i_20, w_20, z0_20, z1_20, c_27, i_27, w_27, z0_27, z1_27, c_28, i_28, w_28, z0_28, z1_28, c_29, i_29, w_29, z0_29, z1_29, c_42, i_42, w_42, z0_42, z1_42, c_43, i_43, w_43, z0_43, z1_43, c_52, i_52, w_52, z0_52, z1_52, X1_size, X1_literal, X1_numberOfStep, X1_ofFormula, X1_inAll, X1_user, X9_codeOf, X1_firstUse, X1_endOfUses, X2_open, X2_at, X2_add, X2_drop, X2_clear, X4_fuelLeft, X4_isActive, X4_isMarked, X4_mark, X4_usedCount, X4_usedAt, X4_setActive, X4_forget, X4_truthOf, r4, if_neg w2, go_end (show ¬ Ia 42 6 = -1 by rw [r4]; exact w2)]
            have hm : fX10_weigh_218 (fX10_weigh_152 m') 75 bk rat un (nI (i + 1)) w (st Ib v' J') = some (w, st (up (up Ib 75 35 w) 75 36 (nI (i + 1))) v' J') := by
              unfold fX10_weigh_218
              simp only [bnd_x, gd_0, gd_1, gd_o0, gd_o1, ite_self, rf_75_1, rf_75_3, rf_75_12, rf_75_13, rf_75_14, rf_75_15, rf_75_16, rf_75_17, rf_75_18, rf_75_22, rf_75_23, rf_75_24, rf_75_25, rf_75_31, rf_75_32, rf_75_41, rf_75_42, rf_75_43, rf_75_44, rf_75_45, rf_75_46, rf_75_47, rf_75_48, rf_75_53, rf_75_54, rf_75_55, rf_75_57, c_75, i_75, w_75, z0_75, z1_75, if_neg w1, ends_ok]
            have g := WR_ends (I1 := Ia) g3 (fun _ _ => rfl) (fun _ _ _ => rfl)
            rw [r4, r5] at g
            rw [hC0, hM0, hc, hm]
            exact ⟨Ia, _, rfl, FrC_t l3 g4, FrR_t (FrR_t l4 g5) ends_FrR, by rw [g6]; exact q4, Or.inl ⟨by rw [r4], g, by rw [g8]; exact q8⟩⟩
        · rw [if_pos w0] at hC0
          rw [if_neg (by rw [b0]; decide)] at hM0
          exact act Iq Mq a1 a4 a5 q6 q7 q8 q4 q5 l3 l4 hC0 hM0
    · refine ⟨Iq, M3, go_end (by rw [a1]; decide) _ _ _ _, l3, a7, by rw [a4]; exact h4, Or.inr ⟨i, by omega, a1, by rw [a2]; exact h7, a3, a5, a6, a8 _ _ _ _⟩⟩
    · have g := WR_ends (I1 := Iq) a5 (fun _ _ => rfl) (fun _ _ _ => rfl)
      rw [a1, a2] at g
      refine ⟨Iq, _, go_end (by rw [a1]; decide) _ _ _ _, l3, FrR_t l4 ends_FrR, by rw [a4]; exact h4, Or.inl ⟨by rw [a6, a1], g, by rw [a3]; exact h8⟩⟩
end
