/-! Bytes are written: feed, shorter, takeShorter. -/
section
theorem b255 : ∀ i, i < 32 → (255#32 : BitVec 32).getLsbD i = decide (i < 8) := by decide
theorem byte8 (x : Int32) : (x.toInt8.toInt32.toInt8.toInt32) &&& 255 = x &&& 255 := by
  apply Int32.toBitVec_inj.mp
  apply BitVec.eq_of_getLsbD_eq
  intro i hi
  rw [Int32.toBitVec_and, Int32.toBitVec_and, BitVec.getLsbD_and, BitVec.getLsbD_and]
  have e : (255 : Int32).toBitVec = 255#32 := rfl
  rw [e, b255 i hi]
  by_cases c : i < 8
  · have h8 : ∀ y : Int32, y.toInt8.toInt32.toBitVec.getLsbD i = y.toBitVec.getLsbD i := by
      intro y
      rw [Int8.toBitVec_toInt32, Int32.toBitVec_toInt8, BitVec.getLsbD_signExtend, BitVec.getLsbD_signExtend]
      simp [c, hi]
    rw [h8, h8]
  · simp [c]
theorem shr_b (x : Int32) (s : Nat) (hs : s + 8 ≤ 32) (y z : Int32) (hy : (zushr x y).toBitVec = x.toBitVec >>> s) (hz : (x >>> z).toBitVec = x.toBitVec.sshiftRight s) : zushr x y &&& 255 = (x >>> z) &&& 255 := by
  apply Int32.toBitVec_inj.mp
  apply BitVec.eq_of_getLsbD_eq
  intro i hi
  rw [Int32.toBitVec_and, Int32.toBitVec_and, BitVec.getLsbD_and, BitVec.getLsbD_and, hy, hz]
  have e : (255 : Int32).toBitVec = 255#32 := rfl
  rw [e, b255 i hi]
  by_cases c : i < 8
  · rw [BitVec.getLsbD_ushiftRight, BitVec.getLsbD_sshiftRight]
    have h1 : ¬ 32 ≤ i := by omega
    have h2 : s + i < 32 := by omega
    simp [c, h1, h2]
  · simp [c]
theorem shr_0 (x : Int32) : zushr x 24 &&& 255 = (x >>> ((24 - (8 * (nI 0))) &&& 31)) &&& 255 := shr_b x 24 (by omega) _ _ rfl rfl
theorem shr_1 (x : Int32) : zushr x 16 &&& 255 = (x >>> ((24 - (8 * (nI 1))) &&& 31)) &&& 255 := shr_b x 16 (by omega) _ _ rfl rfl
theorem shr_2 (x : Int32) : zushr x 8 &&& 255 = (x >>> ((24 - (8 * (nI 2))) &&& 31)) &&& 255 := shr_b x 8 (by omega) _ _ rfl rfl
theorem shr_3 (x : Int32) : x &&& 255 = (x >>> ((24 - (8 * (nI 3))) &&& 31)) &&& 255 := by
  have : x >>> ((24 - (8 * (nI 3))) &&& 31) = x := by
    apply Int32.toBitVec_inj.mp
    show x.toBitVec.sshiftRight 0 = _
    rw [BitVec.sshiftRight_zero]
  rw [this]

def adB (I : Nat → Nat → Int32) (b k : Nat) (x : Int32) : Nat → Nat → Int32 := if k < 6000 then up (up I (b + 1) k (x.toInt8.toInt32.toInt8.toInt32)) b 1 (nI (k + 1)) else up I b 1 (nI (k + 1))
theorem add_ok {v : zV} {J : Nat → Nat → Int64} {I : Nat → Nat → Int32} {b k : Nat} (hb : isB b = true) (h : I b 1 = nI k) (hk : k < 2 ^ 30) (x : Int32) : fX0_add b x (st I v J) = some (st (adB I b k x) v J) := by
  obtain ⟨h1, h2, h3, h4⟩ := B_0 hb
  have hbne : b ≠ b + 1 := by omega
  unfold fX0_add adB
  simp only [qI_st h1, bnd_x, h, if_neg (nI_pos (show k < 2 ^ 31 by omega)), B_q hb, qL_st h2, h3]
  by_cases c : k < 6000
  · have e : up I (b + 1) k (x.toInt8.toInt32.toInt8.toInt32) b 1 = nI k := by rw [up_ne hbne]; exact h
    rw [if_neg (nI_ge c (by omega)), if_pos c, uB_st h2 (by rw [h3]; exact c)]
    unfold fX0_add_30
    simp only [qI_st h1, bnd_x, e, nI_1, wI_st h1]
  · rw [if_pos (nI_le (by omega) (by omega)), if_neg c]
    unfold fX0_add_30
    simp only [qI_st h1, bnd_x, h, nI_1, wI_st h1]
def wb (x : Int32) (j : Nat) : Int32 := (x >>> ((24 - (8 * (nI j))) &&& 31)) &&& 255
theorem word_ok {v : zV} {J : Nat → Nat → Int64} {I : Nat → Nat → Int32} {k : Nat} (h : I 2 1 = nI k) (hk : k + 4 ≤ 6000) (x : Int32) :
    ∃ I1, fX0_addWord 2 x (st I v J) = some (st I1 v J) ∧ I1 2 1 = nI (k + 4) ∧ (∀ j, j < 4 → I1 3 (k + j) &&& 255 = wb x j) ∧ (∀ p, p < k → I1 3 p = I 3 p) ∧ (∀ a, a ≠ 2 → a ≠ 3 → I1 a = I a) := by
  have hb : isB 2 = true := rfl
  have e : ∀ (X : Nat → Nat → Int32) (q : Nat) (y : Int32), X 2 1 = nI q → q < 6000 → adB X 2 q y = up (up X 3 q (y.toInt8.toInt32.toInt8.toInt32)) 2 1 (nI (q + 1)) := fun X q y _ hq => by unfold adB; rw [if_pos hq]
  have s1 : ∀ (X : Nat → Nat → Int32) (q : Nat) (y : Int32), up (up X 3 q y) 2 1 (nI (q + 1)) 2 1 = nI (q + 1) := fun X q y => up_self ..
  generalize h1 : up (up I 3 k ((zushr x 24).toInt8.toInt32.toInt8.toInt32)) 2 1 (nI (k + 1)) = A
  generalize h2 : up (up A 3 (k + 1) ((zushr x 16).toInt8.toInt32.toInt8.toInt32)) 2 1 (nI (k + 1 + 1)) = B
  generalize h3 : up (up B 3 (k + 2) ((zushr x 8).toInt8.toInt32.toInt8.toInt32)) 2 1 (nI (k + 2 + 1)) = C
  generalize h4 : up (up C 3 (k + 3) (x.toInt8.toInt32.toInt8.toInt32)) 2 1 (nI (k + 3 + 1)) = D
  have a1 := add_ok (v := v) (J := J) hb h (show k < 2 ^ 30 by omega) (zushr x 24)
  rw [e I k _ h (by omega), h1] at a1
  have hA : A 2 1 = nI (k + 1) := by rw [← h1]; exact s1 _ _ _
  have a2 := add_ok (v := v) (J := J) hb hA (show k + 1 < 2 ^ 30 by omega) (zushr x 16)
  rw [e A (k + 1) _ hA (by omega), h2] at a2
  have hB : B 2 1 = nI (k + 2) := by rw [← h2]; exact s1 _ _ _
  have a3 := add_ok (v := v) (J := J) hb hB (show k + 2 < 2 ^ 30 by omega) (zushr x 8)
  rw [e B (k + 2) _ hB (by omega), h3] at a3
  have hC : C 2 1 = nI (k + 3) := by rw [← h3]; exact s1 _ _ _
  have a4 := add_ok (v := v) (J := J) hb hC (show k + 3 < 2 ^ 30 by omega) x
  rw [e C (k + 3) _ hC (by omega), h4] at a4
  have D3 : D 3 = vup (C 3) (k + 3) (x.toInt8.toInt32.toInt8.toInt32) := by rw [← h4, up_ne (by decide), up_at]
  have C3 : C 3 = vup (B 3) (k + 2) ((zushr x 8).toInt8.toInt32.toInt8.toInt32) := by rw [← h3, up_ne (by decide), up_at]
  have B3 : B 3 = vup (A 3) (k + 1) ((zushr x 16).toInt8.toInt32.toInt8.toInt32) := by rw [← h2, up_ne (by decide), up_at]
  have A3 : A 3 = vup (I 3) k ((zushr x 24).toInt8.toInt32.toInt8.toInt32) := by rw [← h1, up_ne (by decide), up_at]
  refine ⟨D, ?_, by rw [← h4]; exact s1 _ _ _, fun j hj => ?_, fun p hp => ?_, fun a b1 b2 => ?_⟩
  · unfold fX0_addWord
    simp only [bnd_x, gd_0, gd_1, gd_o0, gd_o1, ite_self, rf_1_0, rf_1_1, rf_1_5, rf_1_6, rf_1_7, rf_2_0, rf_4_0, rf_6_0, rf_6_1, rf_6_2, rf_7_0, rf_9_0, rf_11_0, rf_13_0, rf_13_1, rf_13_2, rf_14_0, rf_16_0, rf_18_0, rf_20_0, rf_20_1, rf_20_2, rf_21_0, rf_23_0, rf_25_0, rf_27_0, rf_29_0, rf_29_1, rf_29_2, rf_29_3, rf_29_4, rf_29_5, rf_30_0, rf_32_0, rf_34_0, rf_36_0, rf_38_0, rf_40_0, rf_42_0, rf_42_1, rf_42_2, rf_42_3, rf_43_0, rf_43_1, rf_43_2, rf_44_0, rf_46_0, rf_48_0, rf_50_0, rf_52_0, rf_52_1, rf_52_2, rf_52_3, rf_52_4, rf_52_5, rf_52_6, rf_52_7, rf_52_8, rf_52_9, rf_52_10, rf_52_11, rf_53_0, rf_55_0, rf_57_0, rf_59_0, rf_61_0, rf_63_0, rf_65_0, rf_67_0, rf_69_0, rf_71_0, rf_73_0, a_7, p_7, f_7, c_7, a_9, p_9, f_9, c_9, a_11, p_11, f_11, c_11, a_14, p_14, f_14, c_14, a_16, p_16, f_16, c_16, a_18, p_18, f_18, c_18, a_21, p_21, f_21, c_21, a_23, p_23, f_23, c_23, a_25, p_25, f_25, c_25, a_30, p_30, f_30, c_30, a_32, p_32, f_32, c_32, a_34, p_34, f_34, c_34, a_36, p_36, f_36, c_36, a_38, p_38, f_38, c_38, a_40, p_40, f_40, c_40, a_44, p_44, f_44, c_44, a_46, p_46, f_46, c_46, a_48, p_48, f_48, c_48, a_50, p_50, f_50, c_50, a_53, p_53, f_53, c_53, a_55, p_55, f_55, c_55, a_57, p_57, f_57, c_57, a_59, p_59, f_59, c_59, a_61, p_61, f_61, c_61, a_63, p_63, f_63, c_63, a_65, p_65, f_65, c_65, a_67, p_67, f_67, c_67, a_69, p_69, f_69, c_69, a_71, p_71, f_71, c_71, a_73, p_73, f_73, c_73, c_1, i_1, w_1, z0_1, z1_1, c_2, i_2, w_2, z0_2, z1_2, c_4, i_4, w_4, z0_4, z1_4, c_6, i_6, w_6, z0_6, z1_6, c_13, i_13, w_13, z0_13, z1_13, c_20, i_20, w_20, z0_20, z1_20, c_27, i_27, w_27, z0_27, z1_27, c_28, i_28, w_28, z0_28, z1_28, c_29, i_29, w_29, z0_29, z1_29, c_42, i_42, w_42, z0_42, z1_42, c_43, i_43, w_43, z0_43, z1_43, c_52, i_52, w_52, z0_52, z1_52, X1_size, X1_literal, X1_numberOfStep, X1_ofFormula, X1_inAll, X1_user, X9_codeOf, X1_firstUse, X1_endOfUses, X2_open, X2_at, X2_add, X2_drop, X2_clear, X4_fuelLeft, X4_isActive, X4_isMarked, X4_mark, X4_usedCount, X4_usedAt, X4_setActive, X4_forget, X4_truthOf, a1, a2, a3, a4]
  · have : j = 0 ∨ j = 1 ∨ j = 2 ∨ j = 3 := by omega
    rcases this with rfl | rfl | rfl | rfl
    · rw [D3, vup_n (by omega), C3, vup_n (by omega), B3, vup_n (by omega), A3, Nat.add_zero, vup_s, byte8]; exact shr_0 x
    · rw [D3, vup_n (by omega), C3, vup_n (by omega), B3, vup_s, byte8]; exact shr_1 x
    · rw [D3, vup_n (by omega), C3, vup_s, byte8]; exact shr_2 x
    · rw [D3, vup_s, byte8]; exact shr_3 x
  · rw [D3, vup_n (by omega), C3, vup_n (by omega), B3, vup_n (by omega), A3, vup_n (by omega)]
  · rw [← h4, up_ne b1, up_ne b2, ← h3, up_ne b1, up_ne b2, ← h2, up_ne b1, up_ne b2, ← h1, up_ne b1, up_ne b2]
def wq (a b c d e : Int32) (q : Nat) : Int32 := if 4 ≤ q then (if 8 ≤ q then (if 12 ≤ q then (if 16 ≤ q then e else d) else c) else b) else a
theorem mod4_tab : ∀ i, i < 20 → nI i - nI i / 4 * 4 = nI (i % 4) := by decide +kernel
theorem feedM {v : zV} {J : Nat → Nat → Int64} {tw : Nat} (ht : tw + 20 ≤ 6000) (a b c d e : Int32) : ∀ (k i m : Nat) (I : Nat → Nat → Int32), i + k = 20 → k < m → I 75 2 = nI (tw + i) →
    ∃ I1, fX10_feed_23 m 75 a b c d e (nI i) (st I v J) = some (nI (tw + 20), st I1 v J) ∧ (∀ q, i ≤ q → q < 20 → I1 76 (tw + q) = wb (wq a b c d e q) (q % 4)) ∧ (∀ p, p < tw + i → I1 76 p = I 76 p) ∧ I1 75 2 = nI (tw + 20) ∧ (∀ j, j ≠ 2 → I1 75 j = I 75 j) ∧ (∀ q, q ≠ 75 → q ≠ 76 → I1 q = I q) := by
  intro k
  induction k with
  | zero =>
    intro i m I hi hm h2
    obtain ⟨m, rfl⟩ : ∃ q, m = q + 1 := ⟨m - 1, by omega⟩
    have e20 : i = 20 := by omega
    refine ⟨I, ?_, fun q q1 q2 => by omega, fun _ _ => rfl, by rw [h2, e20], fun _ _ => rfl, fun _ _ _ => rfl⟩
    conv => lhs; unfold fX10_feed_23
    rw [if_pos (show (20 : Int32) ≤ nI i from nI_le (a := 20) (by omega) (by omega))]
    simp only [bnd_x, gd_0, gd_1, gd_o0, gd_o1, ite_self, rf_75_1, rf_75_3, rf_75_12, rf_75_13, rf_75_14, rf_75_15, rf_75_16, rf_75_17, rf_75_18, rf_75_22, rf_75_23, rf_75_24, rf_75_25, rf_75_31, rf_75_32, rf_75_41, rf_75_42, rf_75_43, rf_75_44, rf_75_45, rf_75_46, rf_75_47, rf_75_48, rf_75_53, rf_75_54, rf_75_55, rf_75_57, c_75, i_75, w_75, z0_75, z1_75, h2, e20]
  | succ k ih =>
    intro i m I hi hm h2
    obtain ⟨m, rfl⟩ : ∃ q, m = q + 1 := ⟨m - 1, by omega⟩
    obtain ⟨I1, f1, f2, f3, f4, f5, f6⟩ := ih (i + 1) m (up (up I 76 (tw + i) (wb (wq a b c d e i) (i % 4))) 75 2 (nI (tw + i + 1))) (by omega) (by omega) (by rw [up_self]; rfl)
    have h76 : ∀ x : Int32, fX10_feed_76 (fX10_feed_23 m) 75 a b c d e (nI i) x (st I v J) = fX10_feed_23 m 75 a b c d e (nI (i + 1)) (st (up (up I 76 (tw + i) (wb x (i % 4))) 75 2 (nI (tw + i + 1))) v J) := by
      intro x
      unfold fX10_feed_76 wb
      simp only [bnd_x, gd_0, gd_1, gd_o0, gd_o1, ite_self, rf_75_1, rf_75_3, rf_75_12, rf_75_13, rf_75_14, rf_75_15, rf_75_16, rf_75_17, rf_75_18, rf_75_22, rf_75_23, rf_75_24, rf_75_25, rf_75_31, rf_75_32, rf_75_41, rf_75_42, rf_75_43, rf_75_44, rf_75_45, rf_75_46, rf_75_47, rf_75_48, rf_75_53, rf_75_54, rf_75_55, rf_75_57, c_75, i_75, w_75, z0_75, z1_75, h2, mod4_tab i (by omega), ua_76 (show tw + i < 6000 by omega), up_ne (show (75 : Nat) ≠ 76 by decide), nI_1]
    refine ⟨I1, ?_, ?_, ?_, f4, fun j hj => by rw [f5 j hj, up_at, vup_n hj, up_ne (by decide)], fun q q1 q2 => by rw [f6 q q1 q2, up_ne q1, up_ne q2]⟩
    · rw [← f1]
      conv => lhs; unfold fX10_feed_23
      rw [if_neg (show ¬ (20 : Int32) ≤ nI i from nI_ge (b := 20) (by omega) (by decide))]
      simp only [h76]
      unfold wq
      have t : ∀ (b : Nat) (y : Int32), y = nI b → b ≤ 20 → ((y ≤ nI i) ↔ b ≤ i) := fun b y hy hb => by rw [hy]; exact nI_leI (by omega) (by omega)
      by_cases c4 : 4 ≤ i
      · rw [if_pos ((t 4 4 rfl (by omega)).mpr c4), if_pos c4]
        by_cases c8 : 8 ≤ i
        · rw [if_pos ((t 8 8 rfl (by omega)).mpr c8), if_pos c8]
          by_cases c12 : 12 ≤ i
          · rw [if_pos ((t 12 12 rfl (by omega)).mpr c12), if_pos c12]
            by_cases c16 : 16 ≤ i
            · rw [if_pos ((t 16 16 rfl (by omega)).mpr c16), if_pos c16]
            · rw [if_neg (fun q => c16 ((t 16 16 rfl (by omega)).mp q)), if_neg c16]
          · rw [if_neg (fun q => c12 ((t 12 12 rfl (by omega)).mp q)), if_neg c12]
        · rw [if_neg (fun q => c8 ((t 8 8 rfl (by omega)).mp q)), if_neg c8]
      · rw [if_neg (fun q => c4 ((t 4 4 rfl (by omega)).mp q)), if_neg c4]
    · intro q q1 q2
      by_cases c' : q = i
      · subst c'; rw [f3 (tw + q) (by omega), up_ne (by decide), up_self]
      · exact f2 q (by omega) q2
    · intro p hp
      rw [f3 p (by omega), up_ne (by decide), up_at, vup_n (by omega)]
theorem feed_call (a b c d e : Int32) : CALL0 (fX9_feed 1 a b c d e) (fX10_feed 75 a b c d e) := by
  intro I I' v v' J J' hG
  have hG' := hG
  have hz := zfu_big
  obtain ⟨nf, ef, wf, df, np, ep, wp, dp, N, sz, lt, h1, h2, h3, h4, h5, ⟨tw, w1, w2, w3, w4⟩, h7, h8, h9⟩ := hG
  obtain ⟨p1, p2, p3, p4, p5, p6, p7⟩ := h1
  have hf1 : v.1 + 6 < 27 ∧ 5 < v.1 := by rcases isSh_i p1 with q | q | q <;> omega
  have hf2 : v.2.1 + 6 < 27 ∧ 5 < v.2.1 := by rcases isSh_i p2 with q | q | q <;> omega
  have hf3 : v.2.2.1 + 6 < 27 ∧ 5 < v.2.2.1 := by rcases isSh_i p3 with q | q | q <;> omega
  have e2 : up I' 75 0 0 75 2 = nI tw := by rw [up_at, vup_n (by decide)]; exact w3
  have e20 : nI tw + 20 = nI (tw + 20) := nI_add tw 20
  by_cases c0 : tw + 20 ≤ 6000
  · have le : nI (tw + 20) ≤ (6000 : Int32) := nI_le (b := 6000) c0 (by decide)
    obtain ⟨A, a1, a2, a3, a4, a5⟩ := word_ok (v := v) (J := J) w2 (by omega) a
    obtain ⟨B, b1, b2, b3, b4, b5⟩ := word_ok (v := v) (J := J) a2 (by omega) b
    obtain ⟨C, c1, c2, c3, c4, c5⟩ := word_ok (v := v) (J := J) b2 (by omega) c
    obtain ⟨D, d1, d2, d3, d4, d5⟩ := word_ok (v := v) (J := J) c2 (by omega) d
    obtain ⟨X, x1, x2, x3, x4, x5⟩ := word_ok (v := v) (J := J) d2 (by omega) e
    obtain ⟨M, m1, m2, m3, m4, m5, m6⟩ := feedM (v := v') (J := J') c0 a b c d e 20 0 zfu (up I' 75 0 0) (by omega) (by omega) e2
    rw [nI_0] at m1
    have frX : ∀ q, q ≠ 2 → q ≠ 3 → X q = I q := fun q q1 q2 => by rw [x5 q q1 q2, d5 q q1 q2, c5 q q1 q2, b5 q q1 q2, a5 q q1 q2]
    have hMF : MFr I' M := ⟨fun q q1 q2 q3 => by rw [m6 q (by omega) (by omega), up_ne (by omega)], fun j hj => by rw [m5 j (by omega), up_at, vup_n (by omega)]⟩
    have hCF : CFr I X v.2.1 := ⟨fun q q1 q2 => frX q (by omega) (by omega), fun q q1 q2 => frX q (by omega) (by omega)⟩
    refine ⟨X, v, nI (tw + 20), M, ?_, ?_, ⟨nf, ef, wf, df, np, ep, wp, dp, N, sz, lt, ⟨p1, p2, p3, p4, p5, p6, p7⟩, by rw [frX _ (by omega) (by omega)]; exact h2, FSh_G h3 (fun r r1 r2 => frX r (by omega) (by omega)) hMF, PSh_G h4 hCF.2 hMF, DBS_G h5 hCF hMF, ⟨tw + 20, c0, x2, m4, ?_⟩, SW_G h7 (frX 4 (by decide) (by decide)) (frX 5 (by decide) (by decide)) (by rw [m5 58 (by decide), up_at, vup_n (by decide)]) (by rw [m6 102 (by decide) (by decide), up_ne (by decide)]), by rw [m5 10 (by decide), up_at, vup_n (by decide), frX 1 (by decide) (by decide)]; exact h8, by rw [m5 11 (by decide), up_at, vup_n (by decide), frX 1 (by decide) (by decide)]; exact h9⟩, fun q hq => frX q (by omega) (by omega), fun q hq => by rw [m6 q (by omega) (by omega), up_ne (by omega)]⟩
    · unfold fX9_feed fX0_written
      simp only [bnd_x, gd_0, gd_1, gd_o0, gd_o1, ite_self, rf_1_0, rf_1_1, rf_1_5, rf_1_6, rf_1_7, rf_2_0, rf_4_0, rf_6_0, rf_6_1, rf_6_2, rf_7_0, rf_9_0, rf_11_0, rf_13_0, rf_13_1, rf_13_2, rf_14_0, rf_16_0, rf_18_0, rf_20_0, rf_20_1, rf_20_2, rf_21_0, rf_23_0, rf_25_0, rf_27_0, rf_29_0, rf_29_1, rf_29_2, rf_29_3, rf_29_4, rf_29_5, rf_30_0, rf_32_0, rf_34_0, rf_36_0, rf_38_0, rf_40_0, rf_42_0, rf_42_1, rf_42_2, rf_42_3, rf_43_0, rf_43_1, rf_43_2, rf_44_0, rf_46_0, rf_48_0, rf_50_0, rf_52_0, rf_52_1, rf_52_2, rf_52_3, rf_52_4, rf_52_5, rf_52_6, rf_52_7, rf_52_8, rf_52_9, rf_52_10, rf_52_11, rf_53_0, rf_55_0, rf_57_0, rf_59_0, rf_61_0, rf_63_0, rf_65_0, rf_67_0, rf_69_0, rf_71_0, rf_73_0, a_7, p_7, f_7, c_7, a_9, p_9, f_9, c_9, a_11, p_11, f_11, c_11, a_14, p_14, f_14, c_14, a_16, p_16, f_16, c_16, a_18, p_18, f_18, c_18, a_21, p_21, f_21, c_21, a_23, p_23, f_23, c_23, a_25, p_25, f_25, c_25, a_30, p_30, f_30, c_30, a_32, p_32, f_32, c_32, a_34, p_34, f_34, c_34, a_36, p_36, f_36, c_36, a_38, p_38, f_38, c_38, a_40, p_40, f_40, c_40, a_44, p_44, f_44, c_44, a_46, p_46, f_46, c_46, a_48, p_48, f_48, c_48, a_50, p_50, f_50, c_50, a_53, p_53, f_53, c_53, a_55, p_55, f_55, c_55, a_57, p_57, f_57, c_57, a_59, p_59, f_59, c_59, a_61, p_61, f_61, c_61, a_63, p_63, f_63, c_63, a_65, p_65, f_65, c_65, a_67, p_67, f_67, c_67, a_69, p_69, f_69, c_69, a_71, p_71, f_71, c_71, a_73, p_73, f_73, c_73, c_1, i_1, w_1, z0_1, z1_1, c_2, i_2, w_2, z0_2, z1_2, c_4, i_4, w_4, z0_4, z1_4, c_6, i_6, w_6, z0_6, z1_6, c_13, i_13, w_13, z0_13, z1_13, c_20, i_20, w_20, z0_20, z1_20, c_27, i_27, w_27, z0_27, z1_27, c_28, i_28, w_28, z0_28, z1_28, c_29, i_29, w_29, z0_29, z1_29, c_42, i_42, w_42, z0_42, z1_42, c_43, i_43, w_43, z0_43, z1_43, c_52, i_52, w_52, z0_52, z1_52, X1_size, X1_literal, X1_numberOfStep, X1_ofFormula, X1_inAll, X1_user, X9_codeOf, X1_firstUse, X1_endOfUses, X2_open, X2_at, X2_add, X2_drop, X2_clear, X4_fuelLeft, X4_isActive, X4_isMarked, X4_mark, X4_usedCount, X4_usedAt, X4_setActive, X4_forget, X4_truthOf, w2, e20, if_pos le, a1, b1, c1, d1, x1, x2]
    · unfold fX10_feed
      simp only [bnd_x, gd_0, gd_1, gd_o0, gd_o1, ite_self, rf_75_1, rf_75_3, rf_75_12, rf_75_13, rf_75_14, rf_75_15, rf_75_16, rf_75_17, rf_75_18, rf_75_22, rf_75_23, rf_75_24, rf_75_25, rf_75_31, rf_75_32, rf_75_41, rf_75_42, rf_75_43, rf_75_44, rf_75_45, rf_75_46, rf_75_47, rf_75_48, rf_75_53, rf_75_54, rf_75_55, rf_75_57, c_75, i_75, w_75, z0_75, z1_75, e2, e20, if_pos le, m1]
    · intro p hp
      by_cases cp : p < tw
      · rw [x4 p (by omega), d4 p (by omega), c4 p (by omega), b4 p (by omega), a4 p cp, m3 p (by omega), up_ne (by decide)]
        exact w4 p cp
      · have ep : p = tw + (p - tw) := by omega
        generalize hq : p - tw = q at ep
        have hq20 : q < 20 := by omega
        rw [ep, m2 q (by omega) hq20]
        unfold wq
        by_cases c4' : 4 ≤ q
        · rw [if_pos c4']
          by_cases c8 : 8 ≤ q
          · rw [if_pos c8]
            by_cases c12 : 12 ≤ q
            · rw [if_pos c12]
              by_cases c16 : 16 ≤ q
              · rw [if_pos c16]
                have := x3 (q - 16) (by omega)
                rw [show tw + 4 + 4 + 4 + 4 + (q - 16) = tw + q by omega] at this
                rw [this]; congr 1; omega
              · rw [if_neg c16, x4 _ (by omega)]
                have := d3 (q - 12) (by omega)
                rw [show tw + 4 + 4 + 4 + (q - 12) = tw + q by omega] at this
                rw [this]; congr 1; omega
            · rw [if_neg c12, x4 _ (by omega), d4 _ (by omega)]
              have := c3 (q - 8) (by omega)
              rw [show tw + 4 + 4 + (q - 8) = tw + q by omega] at this
              rw [this]; congr 1; omega
          · rw [if_neg c8, x4 _ (by omega), d4 _ (by omega), c4 _ (by omega)]
            have := b3 (q - 4) (by omega)
            rw [show tw + 4 + (q - 4) = tw + q by omega] at this
            rw [this]; congr 1; omega
        · rw [if_neg c4', x4 _ (by omega), d4 _ (by omega), c4 _ (by omega), b4 _ (by omega)]
          rw [a3 q (by omega)]; congr 1; omega
  · have nle : ¬ nI (tw + 20) ≤ (6000 : Int32) := nI_ge (a := 6000) (by omega) (by omega)
    refine ⟨I, v, -1, up I' 75 0 0, ?_, ?_, GR_0 hG' 0, fun _ _ => rfl, fun q hq => up_ne (by omega)⟩
    · unfold fX9_feed fX0_written
      simp only [bnd_x, gd_0, gd_1, gd_o0, gd_o1, ite_self, rf_1_0, rf_1_1, rf_1_5, rf_1_6, rf_1_7, rf_2_0, rf_4_0, rf_6_0, rf_6_1, rf_6_2, rf_7_0, rf_9_0, rf_11_0, rf_13_0, rf_13_1, rf_13_2, rf_14_0, rf_16_0, rf_18_0, rf_20_0, rf_20_1, rf_20_2, rf_21_0, rf_23_0, rf_25_0, rf_27_0, rf_29_0, rf_29_1, rf_29_2, rf_29_3, rf_29_4, rf_29_5, rf_30_0, rf_32_0, rf_34_0, rf_36_0, rf_38_0, rf_40_0, rf_42_0, rf_42_1, rf_42_2, rf_42_3, rf_43_0, rf_43_1, rf_43_2, rf_44_0, rf_46_0, rf_48_0, rf_50_0, rf_52_0, rf_52_1, rf_52_2, rf_52_3, rf_52_4, rf_52_5, rf_52_6, rf_52_7, rf_52_8, rf_52_9, rf_52_10, rf_52_11, rf_53_0, rf_55_0, rf_57_0, rf_59_0, rf_61_0, rf_63_0, rf_65_0, rf_67_0, rf_69_0, rf_71_0, rf_73_0, a_7, p_7, f_7, c_7, a_9, p_9, f_9, c_9, a_11, p_11, f_11, c_11, a_14, p_14, f_14, c_14, a_16, p_16, f_16, c_16, a_18, p_18, f_18, c_18, a_21, p_21, f_21, c_21, a_23, p_23, f_23, c_23, a_25, p_25, f_25, c_25, a_30, p_30, f_30, c_30, a_32, p_32, f_32, c_32, a_34, p_34, f_34, c_34, a_36, p_36, f_36, c_36, a_38, p_38, f_38, c_38, a_40, p_40, f_40, c_40, a_44, p_44, f_44, c_44, a_46, p_46, f_46, c_46, a_48, p_48, f_48, c_48, a_50, p_50, f_50, c_50, a_53, p_53, f_53, c_53, a_55, p_55, f_55, c_55, a_57, p_57, f_57, c_57, a_59, p_59, f_59, c_59, a_61, p_61, f_61, c_61, a_63, p_63, f_63, c_63, a_65, p_65, f_65, c_65, a_67, p_67, f_67, c_67, a_69, p_69, f_69, c_69, a_71, p_71, f_71, c_71, a_73, p_73, f_73, c_73, c_1, i_1, w_1, z0_1, z1_1, c_2, i_2, w_2, z0_2, z1_2, c_4, i_4, w_4, z0_4, z1_4, c_6, i_6, w_6, z0_6, z1_6, c_13, i_13, w_13, z0_13, z1_13, c_20, i_20, w_20, z0_20, z1_20, c_27, i_27, w_27, z0_27, z1_27, c_28, i_28, w_28, z0_28, z1_28, c_29, i_29, w_29, z0_29, z1_29, c_42, i_42, w_42, z0_42, z1_42, c_43, i_43, w_43, z0_43, z1_43, c_52, i_52, w_52, z0_52, z1_52, X1_size, X1_literal, X1_numberOfStep, X1_ofFormula, X1_inAll, X1_user, X9_codeOf, X1_firstUse, X1_endOfUses, X2_open, X2_at, X2_add, X2_drop, X2_clear, X4_fuelLeft, X4_isActive, X4_isMarked, X4_mark, X4_usedCount, X4_usedAt, X4_setActive, X4_forget, X4_truthOf, w2, e20, if_neg nle]
    · unfold fX10_feed
      simp only [bnd_x, gd_0, gd_1, gd_o0, gd_o1, ite_self, rf_75_1, rf_75_3, rf_75_12, rf_75_13, rf_75_14, rf_75_15, rf_75_16, rf_75_17, rf_75_18, rf_75_22, rf_75_23, rf_75_24, rf_75_25, rf_75_31, rf_75_32, rf_75_41, rf_75_42, rf_75_43, rf_75_44, rf_75_45, rf_75_46, rf_75_47, rf_75_48, rf_75_53, rf_75_54, rf_75_55, rf_75_57, c_75, i_75, w_75, z0_75, z1_75, e2, e20, if_neg nle]
end
