/-! Sheets; clauses get their numbers. -/
section
theorem nI_sub {a b : Nat} (h : b ≤ a) : nI a - nI b = nI (a - b) := by
  have : nI a = nI (a - b) + nI b := by rw [nI_add]; congr 1; omega
  rw [this, Int32.add_sub_cancel]
/-- a sheet: n rows, row i is w from e (i - 1) to e i, a deletion if d i -/
def OKS (n : Nat) (e : Nat → Nat) (w : Nat → Int32) : Prop :=
  n ≤ 300 ∧ e 0 = 0 ∧ e n ≤ 2000 ∧ ∀ i, 1 ≤ i → i ≤ n → e (i - 1) ≤ e i ∧ e i ≤ e (i - 1) + 40 ∧ (∀ p, e (i - 1) ≤ p → p < e i → isL (w p)) ∧ (∀ p q, e (i - 1) ≤ p → p < q → q < e i → w p ≠ w q)
theorem OKS_mono {n : Nat} {e : Nat → Nat} {w : Nat → Int32} (h : OKS n e w) : ∀ d i, i + d = n → e i ≤ e n := by
  intro d
  induction d with
  | zero => intro i hi; rw [show i = n by omega]; exact Nat.le_refl _
  | succ d ih =>
    intro i hi
    have := (h.2.2.2 (i + 1) (by omega) (by omega)).1
    exact Nat.le_trans this (ih (i + 1) (by omega))
theorem OKS_le {n i : Nat} {e : Nat → Nat} {w : Nat → Int32} (h : OKS n e w) (hi : i ≤ n) : e i ≤ e n := OKS_mono h (n - i) i (by omega)
def SHC (I : Nat → Nat → Int32) (f n : Nat) (e : Nat → Nat) (w : Nat → Int32) (d : Nat → Bool) : Prop :=
  I f 3 = nI n ∧ I f 4 = nI (e n) ∧ (∀ i, i ≤ n → I (f + 4) i = nI (e i)) ∧ (∀ p, p < e n → I (f + 2) p = w p) ∧ (∀ i, 1 ≤ i → i ≤ n → I (f + 6) i = b2 (d i))
def SHR (I : Nat → Nat → Int32) (A L W n : Nat) (e : Nat → Nat) (w : Nat → Int32) : Prop :=
  (∀ i, 1 ≤ i → i ≤ n → I A i = nI (e (i - 1)) ∧ I L i = nI (e i - e (i - 1))) ∧ (∀ p, p < e n → I W p = w p)
theorem SHC_fr {I I1 : Nat → Nat → Int32} {f n : Nat} {e : Nat → Nat} {w : Nat → Int32} {d : Nat → Bool} (h : SHC I f n e w d) (a : ∀ r, f ≤ r → r ≤ f + 6 → I1 r = I r) : SHC I1 f n e w d := by
  unfold SHC
  rw [a f (by omega) (by omega), a (f + 4) (by omega) (by omega), a (f + 2) (by omega) (by omega), a (f + 6) (by omega) (by omega)]; exact h
theorem SHR_fr {I I1 : Nat → Nat → Int32} {A L W n : Nat} {e : Nat → Nat} {w : Nat → Int32} (h : SHR I A L W n e w) (a : I1 A = I A) (b : I1 L = I L) (c : I1 W = I W) : SHR I1 A L W n e w := by
  unfold SHR
  rw [a, b, c]; exact h
section
variable {I : Nat → Nat → Int32} {f n : Nat} {e : Nat → Nat} {w : Nat → Int32} {d : Nat → Bool}
theorem SHC_size (hf : isSh f = true) (h : SHC I f n e w d) (hO : OKS n e w) {i : Nat} (i1 : 1 ≤ i) (i2 : i ≤ n) : rd I (f + 3) (nI i) = nI (e i) ∧ rd I (f + 3) (nI i - 1) = nI (e (i - 1)) ∧ shSize I f (nI i) = nI (e i - e (i - 1)) := by
  obtain ⟨-, -, -, -, h5, h6, h7⟩ := sh_f hf
  have hn := hO.1
  have a1 : rd I (f + 3) (nI i) = nI (e i) := by rw [rd_i (by rw [h6]; omega)]; exact h.2.2.1 i i2
  have a2 : rd I (f + 3) (nI i - 1) = nI (e (i - 1)) := by rw [zz_p i1, rd_i (by rw [h6]; omega)]; exact h.2.2.1 (i - 1) (by omega)
  refine ⟨a1, a2, ?_⟩
  unfold shSize
  rw [a1, a2, nI_sub (hO.2.2.2 i i1 i2).1]
theorem SHC_lit (hf : isSh f = true) (h : SHC I f n e w d) (hO : OKS n e w) {i j : Nat} (i1 : 1 ≤ i) (i2 : i ≤ n) (hj : j < e i - e (i - 1)) : shLit I f (nI i) (nI j) = w (e (i - 1) + j) := by
  obtain ⟨a1, a2, a3⟩ := SHC_size hf h hO i1 i2
  obtain ⟨-, -, -, -, h5, h6, h7⟩ := sh_f hf
  have h40 := (hO.2.2.2 i i1 i2).2.1
  have hle := OKS_le hO i2
  have hl := hO.2.2.1
  unfold shLit
  rw [if_neg (nI_pos (by omega)), a3, if_neg (nI_ge hj (by omega)), a2, nI_add, rd_i (by rw [h5]; omega)]
  exact h.2.2.2.1 _ (by omega)
theorem SHC_del (hf : isSh f = true) (h : SHC I f n e w d) (hO : OKS n e w) {i : Nat} (i1 : 1 ≤ i) (i2 : i ≤ n) : rd I (f + 5) (nI i) = b2 (d i) := by
  obtain ⟨-, -, -, -, h5, h6, h7⟩ := sh_f hf
  have hn := hO.1
  rw [rd_i (by rw [h7]; omega)]
  exact h.2.2.2.2 i i1 i2
end
/-- the class's clauses: their ends, their literals -/
def CL (I : Nat → Nat → Int32) (N : Nat) (E : Nat → Nat) (W : Nat → Int32) : Prop :=
  I 29 9 = nI N ∧ I 29 7 = nI (E N) ∧ (∀ k, k ≤ N → I 33 k = nI (E k)) ∧ (∀ p, p < E N → I 31 p = W p)
def eE (E : Nat → Nat) (N s : Nat) : Nat → Nat := fun k => if k = N + 1 then E N + s else E k
def eW (W : Nat → Int32) (F : Nat) (w : Nat → Int32) (a : Nat) : Nat → Int32 := fun p => if p < F then W p else w (a + (p - F))
theorem append_loop {v : zV} {J : Nat → Nat → Int64} {f n : Nat} {e : Nat → Nat} {w : Nat → Int32} {d : Nat → Bool} (hf : isSh f = true) (hO : OKS n e w) {i : Nat} (i1 : 1 ≤ i) (i2 : i ≤ n) {N F : Nat} (hF : F + (e i - e (i - 1)) ≤ 4000) : ∀ (r j m : Nat) (I : Nat → Nat → Int32), j + r = e i - e (i - 1) → r < m → SHC I f n e w d → I 29 7 = nI F → I 29 9 = nI N →
    ∃ I1, fX1_append_9 m 29 f (nI i) (nI (e i - e (i - 1))) (nI j) (st I v J) = some (st (wr (up (up I1 29 7 (nI (F + (e i - e (i - 1))))) 29 9 (nI (N + 1))) 32 (nI (N + 1)) (nI (F + (e i - e (i - 1))))) v J) ∧ (∀ q, j ≤ q → q < e i - e (i - 1) → I1 31 (F + q) = w (e (i - 1) + q)) ∧ (∀ p, p < F + j → I1 31 p = I 31 p) ∧ (∀ a, a ≠ 31 → I1 a = I a) := by
  have hf0 : f ≠ 31 ∧ f + 2 ≠ 31 ∧ f + 4 ≠ 31 ∧ f + 6 ≠ 31 ∧ f + 6 < 29 := by rcases isSh_i hf with q | q | q <;> omega
  have h40 := (hO.2.2.2 i i1 i2).2.1
  intro r
  induction r with
  | zero =>
    intro j m I hj hm hS h7 h9
    obtain ⟨m, rfl⟩ : ∃ q, m = q + 1 := ⟨m - 1, by omega⟩
    refine ⟨I, ?_, fun q q1 q2 => by omega, fun _ _ => rfl, fun _ _ => rfl⟩
    conv => lhs; unfold fX1_append_9
    simp only [bnd_x, gd_0, gd_1, gd_o0, gd_o1, ite_self, rf_1_0, rf_1_1, rf_1_5, rf_1_6, rf_1_7, rf_2_0, rf_4_0, rf_6_0, rf_6_1, rf_6_2, rf_7_0, rf_9_0, rf_11_0, rf_13_0, rf_13_1, rf_13_2, rf_14_0, rf_16_0, rf_18_0, rf_20_0, rf_20_1, rf_20_2, rf_21_0, rf_23_0, rf_25_0, rf_27_0, rf_29_0, rf_29_1, rf_29_2, rf_29_3, rf_29_4, rf_29_5, rf_30_0, rf_32_0, rf_34_0, rf_36_0, rf_38_0, rf_40_0, rf_42_0, rf_42_1, rf_42_2, rf_42_3, rf_43_0, rf_43_1, rf_43_2, rf_44_0, rf_46_0, rf_48_0, rf_50_0, rf_52_0, rf_52_1, rf_52_2, rf_52_3, rf_52_4, rf_52_5, rf_52_6, rf_52_7, rf_52_8, rf_52_9, rf_52_10, rf_52_11, rf_53_0, rf_55_0, rf_57_0, rf_59_0, rf_61_0, rf_63_0, rf_65_0, rf_67_0, rf_69_0, rf_71_0, rf_73_0, a_7, p_7, f_7, c_7, a_9, p_9, f_9, c_9, a_11, p_11, f_11, c_11, a_14, p_14, f_14, c_14, a_16, p_16, f_16, c_16, a_18, p_18, f_18, c_18, a_21, p_21, f_21, c_21, a_23, p_23, f_23, c_23, a_25, p_25, f_25, c_25, a_30, p_30, f_30, c_30, a_32, p_32, f_32, c_32, a_34, p_34, f_34, c_34, a_36, p_36, f_36, c_36, a_38, p_38, f_38, c_38, a_40, p_40, f_40, c_40, a_44, p_44, f_44, c_44, a_46, p_46, f_46, c_46, a_48, p_48, f_48, c_48, a_50, p_50, f_50, c_50, a_53, p_53, f_53, c_53, a_55, p_55, f_55, c_55, a_57, p_57, f_57, c_57, a_59, p_59, f_59, c_59, a_61, p_61, f_61, c_61, a_63, p_63, f_63, c_63, a_65, p_65, f_65, c_65, a_67, p_67, f_67, c_67, a_69, p_69, f_69, c_69, a_71, p_71, f_71, c_71, a_73, p_73, f_73, c_73, c_1, i_1, w_1, z0_1, z1_1, c_2, i_2, w_2, z0_2, z1_2, c_4, i_4, w_4, z0_4, z1_4, c_6, i_6, w_6, z0_6, z1_6, c_13, i_13, w_13, z0_13, z1_13, c_20, i_20, w_20, z0_20, z1_20, c_27, i_27, w_27, z0_27, z1_27, c_28, i_28, w_28, z0_28, z1_28, c_29, i_29, w_29, z0_29, z1_29, c_42, i_42, w_42, z0_42, z1_42, c_43, i_43, w_43, z0_43, z1_43, c_52, i_52, w_52, z0_52, z1_52, X1_size, X1_literal, X1_numberOfStep, X1_ofFormula, X1_inAll, X1_user, X9_codeOf, X1_firstUse, X1_endOfUses, X2_open, X2_at, X2_add, X2_drop, X2_clear, X4_fuelLeft, X4_isActive, X4_isMarked, X4_mark, X4_usedCount, X4_usedAt, X4_setActive, X4_forget, X4_truthOf, if_pos (nI_le (show e i - e (i - 1) ≤ j by omega) (show j < 2 ^ 31 by omega)), h7, nI_add, up_at, vup_n (show (9 : Nat) ≠ 7 by decide), h9, nI_1, vup_s, vup_n (show (7 : Nat) ≠ 9 by decide)]
  | succ r ih =>
    intro j m I hj hm hS h7 h9
    obtain ⟨m, rfl⟩ : ∃ q, m = q + 1 := ⟨m - 1, by omega⟩
    obtain ⟨I1, f1, f2, f3, f4⟩ := ih (j + 1) m (up I 31 (F + j) (w (e (i - 1) + j))) (by omega) (by omega) (SHC_fr hS (fun r r1 r2 => up_ne (by omega))) (by rw [up_ne (by decide)]; exact h7) (by rw [up_ne (by decide)]; exact h9)
    refine ⟨I1, ?_, ?_, ?_, ?_⟩
    · conv => lhs; unfold fX1_append_9
      simp only [bnd_x, gd_0, gd_1, gd_o0, gd_o1, ite_self, rf_1_0, rf_1_1, rf_1_5, rf_1_6, rf_1_7, rf_2_0, rf_4_0, rf_6_0, rf_6_1, rf_6_2, rf_7_0, rf_9_0, rf_11_0, rf_13_0, rf_13_1, rf_13_2, rf_14_0, rf_16_0, rf_18_0, rf_20_0, rf_20_1, rf_20_2, rf_21_0, rf_23_0, rf_25_0, rf_27_0, rf_29_0, rf_29_1, rf_29_2, rf_29_3, rf_29_4, rf_29_5, rf_30_0, rf_32_0, rf_34_0, rf_36_0, rf_38_0, rf_40_0, rf_42_0, rf_42_1, rf_42_2, rf_42_3, rf_43_0, rf_43_1, rf_43_2, rf_44_0, rf_46_0, rf_48_0, rf_50_0, rf_52_0, rf_52_1, rf_52_2, rf_52_3, rf_52_4, rf_52_5, rf_52_6, rf_52_7, rf_52_8, rf_52_9, rf_52_10, rf_52_11, rf_53_0, rf_55_0, rf_57_0, rf_59_0, rf_61_0, rf_63_0, rf_65_0, rf_67_0, rf_69_0, rf_71_0, rf_73_0, a_7, p_7, f_7, c_7, a_9, p_9, f_9, c_9, a_11, p_11, f_11, c_11, a_14, p_14, f_14, c_14, a_16, p_16, f_16, c_16, a_18, p_18, f_18, c_18, a_21, p_21, f_21, c_21, a_23, p_23, f_23, c_23, a_25, p_25, f_25, c_25, a_30, p_30, f_30, c_30, a_32, p_32, f_32, c_32, a_34, p_34, f_34, c_34, a_36, p_36, f_36, c_36, a_38, p_38, f_38, c_38, a_40, p_40, f_40, c_40, a_44, p_44, f_44, c_44, a_46, p_46, f_46, c_46, a_48, p_48, f_48, c_48, a_50, p_50, f_50, c_50, a_53, p_53, f_53, c_53, a_55, p_55, f_55, c_55, a_57, p_57, f_57, c_57, a_59, p_59, f_59, c_59, a_61, p_61, f_61, c_61, a_63, p_63, f_63, c_63, a_65, p_65, f_65, c_65, a_67, p_67, f_67, c_67, a_69, p_69, f_69, c_69, a_71, p_71, f_71, c_71, a_73, p_73, f_73, c_73, c_1, i_1, w_1, z0_1, z1_1, c_2, i_2, w_2, z0_2, z1_2, c_4, i_4, w_4, z0_4, z1_4, c_6, i_6, w_6, z0_6, z1_6, c_13, i_13, w_13, z0_13, z1_13, c_20, i_20, w_20, z0_20, z1_20, c_27, i_27, w_27, z0_27, z1_27, c_28, i_28, w_28, z0_28, z1_28, c_29, i_29, w_29, z0_29, z1_29, c_42, i_42, w_42, z0_42, z1_42, c_43, i_43, w_43, z0_43, z1_43, c_52, i_52, w_52, z0_52, z1_52, X1_size, X1_literal, X1_numberOfStep, X1_ofFormula, X1_inAll, X1_user, X9_codeOf, X1_firstUse, X1_endOfUses, X2_open, X2_at, X2_add, X2_drop, X2_clear, X4_fuelLeft, X4_isActive, X4_isMarked, X4_mark, X4_usedCount, X4_usedAt, X4_setActive, X4_forget, X4_truthOf, if_neg (nI_ge (show j < e i - e (i - 1) by omega) (show e i - e (i - 1) < 2 ^ 31 by omega)), h7, nI_add, cl_st (sh_f hf).1, X7_literal hf, SHC_lit hf hS hO i1 i2 (show j < e i - e (i - 1) by omega), wr_30 (show F + j < 4000 by omega), nI_1]
      exact f1
    · intro q q1 q2
      by_cases c : q = j
      · subst c; rw [f3 (F + q) (by omega), up_self]
      · exact f2 q (by omega) q2
    · intro p hp
      rw [f3 p (by omega), up_at, vup_n (by omega)]
    · intro a ha
      rw [f4 a ha, up_ne ha]
theorem append_ok {v : zV} {J : Nat → Nat → Int64} {I : Nat → Nat → Int32} {f n : Nat} {e : Nat → Nat} {w : Nat → Int32} {d : Nat → Bool} (hf : isSh f = true) (hS : SHC I f n e w d) (hO : OKS n e w) {i : Nat} (i1 : 1 ≤ i) (i2 : i ≤ n) {N : Nat} {E : Nat → Nat} {W : Nat → Int32} (hC : CL I N E W) (hN : N < 600) (hF : E N + (e i - e (i - 1)) ≤ 4000) :
    ∃ I1, fX1_append 29 f (nI i) (st I v J) = some (st I1 v J) ∧ CL I1 (N + 1) (eE E N (e i - e (i - 1))) (eW W (E N) w (e (i - 1))) ∧ (∀ j, j ≠ 7 → j ≠ 9 → I1 29 j = I 29 j) ∧ (∀ a, a ≠ 29 → a ≠ 31 → a ≠ 33 → I1 a = I a) := by
  have hz := zfu_big
  have h40 := (hO.2.2.2 i i1 i2).2.1
  obtain ⟨I1, f1, f2, f3, f4⟩ := append_loop (v := v) (J := J) hf hO i1 i2 hF (e i - e (i - 1)) 0 zfu I (by omega) (by omega) hS hC.2.1 hC.1
  rw [nI_0, wr_32 (show N + 1 < 601 by omega)] at f1
  refine ⟨up (up (up I1 29 7 (nI (E N + (e i - e (i - 1))))) 29 9 (nI (N + 1))) 33 (N + 1) (nI (E N + (e i - e (i - 1)))), ?_, ⟨?_, ?_, ?_, ?_⟩, ?_, ?_⟩
  · unfold fX1_append
    simp only [cl_st (sh_f hf).1, X7_size hf, bnd_x, (SHC_size hf hS hO i1 i2).2.2]
    exact f1
  · rw [up_ne (by decide), up_self]
  · rw [up_ne (by decide), up_at, vup_n (by decide), up_self]
    unfold eE; rw [if_pos rfl]
  · intro k hk
    rw [up_at, up_ne (by decide), up_ne (by decide)]
    unfold eE
    by_cases c : k = N + 1
    · rw [if_pos c, c, vup_s]
    · rw [if_neg c, vup_n c, f4 33 (by decide)]
      exact hC.2.2.1 k (by omega)
  · intro p hp
    unfold eE at hp; rw [if_pos rfl] at hp
    rw [up_ne (by decide), up_ne (by decide), up_ne (by decide)]
    unfold eW
    by_cases c : p < E N
    · rw [if_pos c, f3 p (by omega)]; exact hC.2.2.2 p c
    · rw [if_neg c]
      have := f2 (p - E N) (by omega) (by omega)
      rw [show E N + (p - E N) = p by omega] at this
      exact this
  · intro j j1 j2
    rw [up_ne (by decide), up_at, vup_n j2, up_at, vup_n j1, f4 29 (by decide)]
  · intro a a1 a2 a3
    rw [up_ne a3, up_ne a1, up_ne a1, f4 a a2]
/-- clause k is the formula's row, or a step's -/
def DK (I' : Nat → Nat → Int32) (nf : Nat) (ef : Nat → Nat) (wf : Nat → Int32) (np : Nat) (ep : Nat → Nat) (wp : Nat → Int32) (E : Nat → Nat) (W : Nat → Int32) (k : Nat) : Prop :=
  E (k - 1) ≤ E k ∧ (k ≤ nf → E k - E (k - 1) = ef k - ef (k - 1) ∧ ∀ j, j < E k - E (k - 1) → W (E (k - 1) + j) = wf (ef (k - 1) + j)) ∧ (nf < k → ∃ i, 1 ≤ i ∧ i ≤ np ∧ I' 89 k = nI i ∧ E k - E (k - 1) = ep i - ep (i - 1) ∧ ∀ j, j < E k - E (k - 1) → W (E (k - 1) + j) = wp (ep (i - 1) + j))
theorem DK_e {I' : Nat → Nat → Int32} {nf : Nat} {ef : Nat → Nat} {wf : Nat → Int32} {np : Nat} {ep : Nat → Nat} {wp : Nat → Int32} {E : Nat → Nat} {W : Nat → Int32} {N k s a : Nat} {w : Nat → Int32} (h : DK I' nf ef wf np ep wp E W k) (k1 : 1 ≤ k) (hk : k ≤ N) (hE : E k ≤ E N) : DK I' nf ef wf np ep wp (eE E N s) (eW W (E N) w a) k := by
  have e1 : eE E N s k = E k := by unfold eE; rw [if_neg (by omega)]
  have e2 : eE E N s (k - 1) = E (k - 1) := by unfold eE; rw [if_neg (by omega)]
  have e3 : ∀ j, j < E k - E (k - 1) → eW W (E N) w a (E (k - 1) + j) = W (E (k - 1) + j) := fun j hj => by unfold eW; rw [if_pos (by omega)]
  obtain ⟨h1, h2, h3⟩ := h
  refine ⟨by rw [e1, e2]; exact h1, fun c => ?_, fun c => ?_⟩
  · rw [e1, e2]
    exact ⟨(h2 c).1, fun j hj => by rw [e3 j hj]; exact (h2 c).2 j hj⟩
  · rw [e1, e2]
    obtain ⟨i, q1, q2, q3, q4, q5⟩ := h3 c
    exact ⟨i, q1, q2, q3, q4, fun j hj => by rw [e3 j hj]; exact q5 j hj⟩
theorem DK_fr {I' I2 : Nat → Nat → Int32} {nf : Nat} {ef : Nat → Nat} {wf : Nat → Int32} {np : Nat} {ep : Nat → Nat} {wp : Nat → Int32} {E : Nat → Nat} {W : Nat → Int32} {k : Nat} (h : DK I' nf ef wf np ep wp E W k) (a : I2 89 k = I' 89 k) : DK I2 nf ef wf np ep wp E W k := by
  unfold DK; rw [a]; exact h
section
variable {nf : Nat} {ef : Nat → Nat} {wf : Nat → Int32} {np : Nat} {ep : Nat → Nat} {wp : Nat → Int32} {dp : Nat → Bool}
/-- the formula's clauses -/
theorem formula_loop {v : zV} {J : Nat → Nat → Int64} {f : Nat} {d : Nat → Bool} (hf : isSh f = true) (hO : OKS nf ef wf) (I' : Nat → Nat → Int32) : ∀ (r i m : Nat) (I : Nat → Nat → Int32) (E : Nat → Nat) (W : Nat → Int32), 1 ≤ i → i + r = nf + 1 → r < m → SHC I f nf ef wf d → I 29 8 = nI nf → CL I (i - 1) E W → E (i - 1) = ef (i - 1) → E 0 = 0 → (∀ k, k ≤ i - 1 → E k ≤ E (i - 1)) → (∀ k, 1 ≤ k → k ≤ i - 1 → DK I' nf ef wf np ep wp E W k) →
    ∃ I1 E1 W1, fX1_numberAll_25 m 29 f (nI i) (st I v J) = fX1_numberAll_47 zfu 29 1 (st I1 v J) ∧ CL I1 nf E1 W1 ∧ E1 nf = ef nf ∧ E1 0 = 0 ∧ (∀ k, k ≤ nf → E1 k ≤ E1 nf) ∧ (∀ k, 1 ≤ k → k ≤ nf → DK I' nf ef wf np ep wp E1 W1 k) ∧ (∀ j, j ≠ 7 → j ≠ 9 → I1 29 j = I 29 j) ∧ (∀ a, a ≠ 29 → a ≠ 31 → a ≠ 33 → I1 a = I a) := by
  have hn := hO.1
  have hfl : f + 6 < 29 := by rcases isSh_i hf with q | q | q <;> omega
  intro r
  induction r with
  | zero =>
    intro i m I E W i1 hi hm hS h8 hC hE h0 hmo hDK
    obtain ⟨m, rfl⟩ : ∃ q, m = q + 1 := ⟨m - 1, by omega⟩
    have : i - 1 = nf := by omega
    rw [this] at hC hE hmo hDK
    refine ⟨I, E, W, ?_, hC, hE, h0, hmo, hDK, fun _ _ _ => rfl, fun _ _ _ _ => rfl⟩
    conv => lhs; unfold fX1_numberAll_25
    simp only [bnd_x, gd_0, gd_1, gd_o0, gd_o1, ite_self, rf_1_0, rf_1_1, rf_1_5, rf_1_6, rf_1_7, rf_2_0, rf_4_0, rf_6_0, rf_6_1, rf_6_2, rf_7_0, rf_9_0, rf_11_0, rf_13_0, rf_13_1, rf_13_2, rf_14_0, rf_16_0, rf_18_0, rf_20_0, rf_20_1, rf_20_2, rf_21_0, rf_23_0, rf_25_0, rf_27_0, rf_29_0, rf_29_1, rf_29_2, rf_29_3, rf_29_4, rf_29_5, rf_30_0, rf_32_0, rf_34_0, rf_36_0, rf_38_0, rf_40_0, rf_42_0, rf_42_1, rf_42_2, rf_42_3, rf_43_0, rf_43_1, rf_43_2, rf_44_0, rf_46_0, rf_48_0, rf_50_0, rf_52_0, rf_52_1, rf_52_2, rf_52_3, rf_52_4, rf_52_5, rf_52_6, rf_52_7, rf_52_8, rf_52_9, rf_52_10, rf_52_11, rf_53_0, rf_55_0, rf_57_0, rf_59_0, rf_61_0, rf_63_0, rf_65_0, rf_67_0, rf_69_0, rf_71_0, rf_73_0, a_7, p_7, f_7, c_7, a_9, p_9, f_9, c_9, a_11, p_11, f_11, c_11, a_14, p_14, f_14, c_14, a_16, p_16, f_16, c_16, a_18, p_18, f_18, c_18, a_21, p_21, f_21, c_21, a_23, p_23, f_23, c_23, a_25, p_25, f_25, c_25, a_30, p_30, f_30, c_30, a_32, p_32, f_32, c_32, a_34, p_34, f_34, c_34, a_36, p_36, f_36, c_36, a_38, p_38, f_38, c_38, a_40, p_40, f_40, c_40, a_44, p_44, f_44, c_44, a_46, p_46, f_46, c_46, a_48, p_48, f_48, c_48, a_50, p_50, f_50, c_50, a_53, p_53, f_53, c_53, a_55, p_55, f_55, c_55, a_57, p_57, f_57, c_57, a_59, p_59, f_59, c_59, a_61, p_61, f_61, c_61, a_63, p_63, f_63, c_63, a_65, p_65, f_65, c_65, a_67, p_67, f_67, c_67, a_69, p_69, f_69, c_69, a_71, p_71, f_71, c_71, a_73, p_73, f_73, c_73, c_1, i_1, w_1, z0_1, z1_1, c_2, i_2, w_2, z0_2, z1_2, c_4, i_4, w_4, z0_4, z1_4, c_6, i_6, w_6, z0_6, z1_6, c_13, i_13, w_13, z0_13, z1_13, c_20, i_20, w_20, z0_20, z1_20, c_27, i_27, w_27, z0_27, z1_27, c_28, i_28, w_28, z0_28, z1_28, c_29, i_29, w_29, z0_29, z1_29, c_42, i_42, w_42, z0_42, z1_42, c_43, i_43, w_43, z0_43, z1_43, c_52, i_52, w_52, z0_52, z1_52, X1_size, X1_literal, X1_numberOfStep, X1_ofFormula, X1_inAll, X1_user, X9_codeOf, X1_firstUse, X1_endOfUses, X2_open, X2_at, X2_add, X2_drop, X2_clear, X4_fuelLeft, X4_isActive, X4_isMarked, X4_mark, X4_usedCount, X4_usedAt, X4_setActive, X4_forget, X4_truthOf, h8, if_pos (nI_lt (show nf < i by omega) (show i < 2 ^ 31 by omega))]
  | succ r ih =>
    intro i m I E W i1 hi hm hS h8 hC hE h0 hmo hDK
    obtain ⟨m, rfl⟩ : ∃ q, m = q + 1 := ⟨m - 1, by omega⟩
    obtain ⟨q1, q2, q3, q4⟩ := hO.2.2.2 i i1 (by omega)
    have hle := OKS_le hO (show i ≤ nf by omega)
    have h2000 := hO.2.2.1
    obtain ⟨I1, a1, a2, a3, a4⟩ := append_ok (v := v) (J := J) hf hS hO i1 (show i ≤ nf by omega) hC (by omega) (by omega)
    rw [show i - 1 + 1 = i by omega] at a2
    have eN : eE E (i - 1) (ef i - ef (i - 1)) i = ef i := by unfold eE; rw [if_pos (by omega), hE]; omega
    have eP : eE E (i - 1) (ef i - ef (i - 1)) (i - 1) = ef (i - 1) := by unfold eE; rw [if_neg (by omega), hE]
    obtain ⟨I2, E2, W2, f1, f2, f3, f4, f5, f6, f7, f8⟩ := ih (i + 1) m I1 _ _ (by omega) (by omega) (by omega) (SHC_fr hS (fun r r1 r2 => a4 r (by omega) (by omega) (by omega))) (by rw [a3 8 (by decide) (by decide)]; exact h8) (by rw [Nat.add_sub_cancel]; exact a2) (by rw [Nat.add_sub_cancel]; exact eN) (by unfold eE; rw [if_neg (by omega)]; exact h0) (by
      rw [Nat.add_sub_cancel]
      intro k hk
      rw [eN]
      unfold eE
      by_cases c : k = i - 1 + 1
      · rw [if_pos c, hE]; omega
      · rw [if_neg c]
        have := hmo k (by omega)
        omega) (by
      rw [Nat.add_sub_cancel]
      intro k k1 k2
      by_cases c : k = i
      · subst c
        refine ⟨by rw [eN, eP]; exact q1, fun _ => ?_, fun c => by omega⟩
        rw [eN, eP]
        refine ⟨rfl, fun j hj => ?_⟩
        unfold eW
        rw [if_neg (by omega), hE]
        congr 1; omega
      · exact DK_e (hDK k k1 (by omega)) k1 (by omega) (hmo k (by omega)))
    refine ⟨I2, E2, W2, ?_, f2, f3, f4, f5, f6, fun j j1 j2 => by rw [f7 j j1 j2, a3 j j1 j2], fun a b1 b2 b3 => by rw [f8 a b1 b2 b3, a4 a b1 b2 b3]⟩
    conv => lhs; unfold fX1_numberAll_25
    simp only [bnd_x, gd_0, gd_1, gd_o0, gd_o1, ite_self, rf_1_0, rf_1_1, rf_1_5, rf_1_6, rf_1_7, rf_2_0, rf_4_0, rf_6_0, rf_6_1, rf_6_2, rf_7_0, rf_9_0, rf_11_0, rf_13_0, rf_13_1, rf_13_2, rf_14_0, rf_16_0, rf_18_0, rf_20_0, rf_20_1, rf_20_2, rf_21_0, rf_23_0, rf_25_0, rf_27_0, rf_29_0, rf_29_1, rf_29_2, rf_29_3, rf_29_4, rf_29_5, rf_30_0, rf_32_0, rf_34_0, rf_36_0, rf_38_0, rf_40_0, rf_42_0, rf_42_1, rf_42_2, rf_42_3, rf_43_0, rf_43_1, rf_43_2, rf_44_0, rf_46_0, rf_48_0, rf_50_0, rf_52_0, rf_52_1, rf_52_2, rf_52_3, rf_52_4, rf_52_5, rf_52_6, rf_52_7, rf_52_8, rf_52_9, rf_52_10, rf_52_11, rf_53_0, rf_55_0, rf_57_0, rf_59_0, rf_61_0, rf_63_0, rf_65_0, rf_67_0, rf_69_0, rf_71_0, rf_73_0, a_7, p_7, f_7, c_7, a_9, p_9, f_9, c_9, a_11, p_11, f_11, c_11, a_14, p_14, f_14, c_14, a_16, p_16, f_16, c_16, a_18, p_18, f_18, c_18, a_21, p_21, f_21, c_21, a_23, p_23, f_23, c_23, a_25, p_25, f_25, c_25, a_30, p_30, f_30, c_30, a_32, p_32, f_32, c_32, a_34, p_34, f_34, c_34, a_36, p_36, f_36, c_36, a_38, p_38, f_38, c_38, a_40, p_40, f_40, c_40, a_44, p_44, f_44, c_44, a_46, p_46, f_46, c_46, a_48, p_48, f_48, c_48, a_50, p_50, f_50, c_50, a_53, p_53, f_53, c_53, a_55, p_55, f_55, c_55, a_57, p_57, f_57, c_57, a_59, p_59, f_59, c_59, a_61, p_61, f_61, c_61, a_63, p_63, f_63, c_63, a_65, p_65, f_65, c_65, a_67, p_67, f_67, c_67, a_69, p_69, f_69, c_69, a_71, p_71, f_71, c_71, a_73, p_73, f_73, c_73, c_1, i_1, w_1, z0_1, z1_1, c_2, i_2, w_2, z0_2, z1_2, c_4, i_4, w_4, z0_4, z1_4, c_6, i_6, w_6, z0_6, z1_6, c_13, i_13, w_13, z0_13, z1_13, c_20, i_20, w_20, z0_20, z1_20, c_27, i_27, w_27, z0_27, z1_27, c_28, i_28, w_28, z0_28, z1_28, c_29, i_29, w_29, z0_29, z1_29, c_42, i_42, w_42, z0_42, z1_42, c_43, i_43, w_43, z0_43, z1_43, c_52, i_52, w_52, z0_52, z1_52, X1_size, X1_literal, X1_numberOfStep, X1_ofFormula, X1_inAll, X1_user, X9_codeOf, X1_firstUse, X1_endOfUses, X2_open, X2_at, X2_add, X2_drop, X2_clear, X4_fuelLeft, X4_isActive, X4_isMarked, X4_mark, X4_usedCount, X4_usedAt, X4_setActive, X4_forget, X4_truthOf, h8, if_neg (nI_nlt (show i ≤ nf by omega) (show nf < 2 ^ 31 by omega)), a1, nI_1]
    exact f1
/-- steps get their numbers -/
def NU (I I' : Nat → Nat → Int32) (dp : Nat → Bool) (N i : Nat) : Prop := ∀ q, 1 ≤ q → q < i → ∃ u, I 35 q = nI u ∧ I' 90 q = nI u ∧ (dp q = true → u = 0) ∧ (dp q = false → 1 ≤ u ∧ u ≤ N)
theorem steps_loop {v v' : zV} {J J' : Nat → Nat → Int64} (hf : isSh v.2.2.2.2.2.2 = true) (hO : OKS np ep wp) (hnf : nf ≤ 300) (hef : ef nf ≤ 2000) : ∀ (r i m m' N : Nat) (I I' : Nat → Nat → Int32) (E : Nat → Nat) (W : Nat → Int32), 1 ≤ i → i + r = np + 1 → r < m → r < m' → SHC I v.2.2.2.2.2.2 np ep wp dp → I' 75 20 = nI np → (∀ q, 1 ≤ q → q ≤ np → I' 84 q = b2 (dp q)) → I' 75 33 = nI N → N ≤ nf + (i - 1) → nf ≤ N → CL I N E W → E N ≤ 2000 + ep (i - 1) → E 0 = 0 → (∀ k, k ≤ N → E k ≤ E N) → (∀ k, 1 ≤ k → k ≤ N → DK I' nf ef wf np ep wp E W k) → NU I I' dp N i →
    ∃ I1 I2 N1 E1 W1, fX1_numberAll_47 m 29 (nI i) (st I v J) = (bnd (fX1_listUsers 29 (st I1 v J)) fun q => some q) ∧ fX10_number0_10 m' 75 (nI i) (st I' v' J') = some (st I2 v' J') ∧ N1 ≤ 600 ∧ nf ≤ N1 ∧ I2 75 33 = nI N1 ∧ CL I1 N1 E1 W1 ∧ E1 N1 ≤ 4000 ∧ E1 0 = 0 ∧ (∀ k, k ≤ N1 → E1 k ≤ E1 N1) ∧ (∀ k, 1 ≤ k → k ≤ N1 → DK I2 nf ef wf np ep wp E1 W1 k) ∧ NU I1 I2 dp N1 (np + 1) ∧ (∀ j, j ≠ 7 → j ≠ 9 → I1 29 j = I 29 j) ∧ (∀ a, a ≠ 29 → a ≠ 31 → a ≠ 33 → a ≠ 35 → I1 a = I a) ∧ (∀ j, j ≠ 33 → I2 75 j = I' 75 j) ∧ (∀ a, a ≠ 75 → a ≠ 89 → a ≠ 90 → I2 a = I' a) := by
  have hn := hO.1
  have hfl : v.2.2.2.2.2.2 + 6 < 29 := by rcases isSh_i hf with q | q | q <;> omega
  have hf0 : v.2.2.2.2.2.2 ≠ 0 := by rcases isSh_i hf with q | q | q <;> rw [q] <;> decide
  intro r
  induction r with
  | zero =>
    intro i m m' N I I' E W i1 hi hm hm' hS h20 h84 h33 hNi hnN hC hE h0 hmo hDK hNU
    obtain ⟨m, rfl⟩ : ∃ q, m = q + 1 := ⟨m - 1, by omega⟩
    obtain ⟨m', rfl⟩ : ∃ q, m' = q + 1 := ⟨m' - 1, by omega⟩
    have hle := OKS_le hO (show i - 1 ≤ np by omega)
    have h2000 := hO.2.2.1
    refine ⟨I, I', N, E, W, ?_, ?_, by omega, hnN, h33, hC, by omega, h0, hmo, hDK, by rw [show np + 1 = i by omega]; exact hNU, fun _ _ _ => rfl, fun _ _ _ _ _ => rfl, fun _ _ => rfl, fun _ _ _ _ => rfl⟩
    · conv => lhs; unfold fX1_numberAll_47
      simp only [bnd_x, gd_0, gd_1, gd_o0, gd_o1, ite_self, rf_1_0, rf_1_1, rf_1_5, rf_1_6, rf_1_7, rf_2_0, rf_4_0, rf_6_0, rf_6_1, rf_6_2, rf_7_0, rf_9_0, rf_11_0, rf_13_0, rf_13_1, rf_13_2, rf_14_0, rf_16_0, rf_18_0, rf_20_0, rf_20_1, rf_20_2, rf_21_0, rf_23_0, rf_25_0, rf_27_0, rf_29_0, rf_29_1, rf_29_2, rf_29_3, rf_29_4, rf_29_5, rf_30_0, rf_32_0, rf_34_0, rf_36_0, rf_38_0, rf_40_0, rf_42_0, rf_42_1, rf_42_2, rf_42_3, rf_43_0, rf_43_1, rf_43_2, rf_44_0, rf_46_0, rf_48_0, rf_50_0, rf_52_0, rf_52_1, rf_52_2, rf_52_3, rf_52_4, rf_52_5, rf_52_6, rf_52_7, rf_52_8, rf_52_9, rf_52_10, rf_52_11, rf_53_0, rf_55_0, rf_57_0, rf_59_0, rf_61_0, rf_63_0, rf_65_0, rf_67_0, rf_69_0, rf_71_0, rf_73_0, a_7, p_7, f_7, c_7, a_9, p_9, f_9, c_9, a_11, p_11, f_11, c_11, a_14, p_14, f_14, c_14, a_16, p_16, f_16, c_16, a_18, p_18, f_18, c_18, a_21, p_21, f_21, c_21, a_23, p_23, f_23, c_23, a_25, p_25, f_25, c_25, a_30, p_30, f_30, c_30, a_32, p_32, f_32, c_32, a_34, p_34, f_34, c_34, a_36, p_36, f_36, c_36, a_38, p_38, f_38, c_38, a_40, p_40, f_40, c_40, a_44, p_44, f_44, c_44, a_46, p_46, f_46, c_46, a_48, p_48, f_48, c_48, a_50, p_50, f_50, c_50, a_53, p_53, f_53, c_53, a_55, p_55, f_55, c_55, a_57, p_57, f_57, c_57, a_59, p_59, f_59, c_59, a_61, p_61, f_61, c_61, a_63, p_63, f_63, c_63, a_65, p_65, f_65, c_65, a_67, p_67, f_67, c_67, a_69, p_69, f_69, c_69, a_71, p_71, f_71, c_71, a_73, p_73, f_73, c_73, c_1, i_1, w_1, z0_1, z1_1, c_2, i_2, w_2, z0_2, z1_2, c_4, i_4, w_4, z0_4, z1_4, c_6, i_6, w_6, z0_6, z1_6, c_13, i_13, w_13, z0_13, z1_13, c_20, i_20, w_20, z0_20, z1_20, c_27, i_27, w_27, z0_27, z1_27, c_28, i_28, w_28, z0_28, z1_28, c_29, i_29, w_29, z0_29, z1_29, c_42, i_42, w_42, z0_42, z1_42, c_43, i_43, w_43, z0_43, z1_43, c_52, i_52, w_52, z0_52, z1_52, X1_size, X1_literal, X1_numberOfStep, X1_ofFormula, X1_inAll, X1_user, X9_codeOf, X1_firstUse, X1_endOfUses, X2_open, X2_at, X2_add, X2_drop, X2_clear, X4_fuelLeft, X4_isActive, X4_isMarked, X4_mark, X4_usedCount, X4_usedAt, X4_setActive, X4_forget, X4_truthOf, rv_29_6 hf0, cl_st (sh_f hf).1, X7_rows hf, hS.1, if_pos (nI_lt (show np < i by omega) (show i < 2 ^ 31 by omega))]
    · conv => lhs; unfold fX10_number0_10
      simp only [bnd_x, gd_0, gd_1, gd_o0, gd_o1, ite_self, rf_75_1, rf_75_3, rf_75_12, rf_75_13, rf_75_14, rf_75_15, rf_75_16, rf_75_17, rf_75_18, rf_75_22, rf_75_23, rf_75_24, rf_75_25, rf_75_31, rf_75_32, rf_75_41, rf_75_42, rf_75_43, rf_75_44, rf_75_45, rf_75_46, rf_75_47, rf_75_48, rf_75_53, rf_75_54, rf_75_55, rf_75_57, c_75, i_75, w_75, z0_75, z1_75, h20, if_pos (nI_lt (show np < i by omega) (show i < 2 ^ 31 by omega))]
  | succ r ih =>
    intro i m m' N I I' E W i1 hi hm hm' hS h20 h84 h33 hNi hnN hC hE h0 hmo hDK hNU
    obtain ⟨m, rfl⟩ : ∃ q, m = q + 1 := ⟨m - 1, by omega⟩
    obtain ⟨m', rfl⟩ : ∃ q, m' = q + 1 := ⟨m' - 1, by omega⟩
    obtain ⟨q1, q2, q3, q4⟩ := hO.2.2.2 i i1 (by omega)
    have hle := OKS_le hO (show i ≤ np by omega)
    have h2000 := hO.2.2.1
    have hdel := SHC_del hf hS hO i1 (show i ≤ np by omega)
    have n1 : ¬ nI np < nI i := nI_nlt (show i ≤ np by omega) (by omega)
    cases hd : dp i with
    | true =>
      rw [hd] at hdel
      obtain ⟨I1, I2, N1, E1, W1, f1, f2, f3, f4, f5, f6, f7, f8, f9, f10, f11, f12, f13, f14, f15⟩ := ih (i + 1) m m' N (up I 35 i 0) (up I' 90 i 0) E W (by omega) (by omega) (by omega) (by omega) (SHC_fr hS (fun r r1 r2 => up_ne (by omega))) (by rw [up_ne (by decide)]; exact h20) (by rw [up_ne (by decide)]; exact h84) (by rw [up_ne (by decide)]; exact h33) (by omega) hnN ⟨by rw [up_ne (by decide)]; exact hC.1, by rw [up_ne (by decide)]; exact hC.2.1, by rw [up_ne (by decide)]; exact hC.2.2.1, by rw [up_ne (by decide)]; exact hC.2.2.2⟩ (by rw [Nat.add_sub_cancel]; omega) h0 hmo (fun k k1 k2 => DK_fr (hDK k k1 k2) (by rw [up_ne (by decide)])) (by
        intro q x1 x2
        rw [up_at, up_at]
        by_cases c : q = i
        · subst c
          rw [vup_s, vup_s]
          exact ⟨0, rfl, rfl, fun _ => rfl, fun c => by rw [hd] at c; exact absurd c (by decide)⟩
        · rw [vup_n c, vup_n c]; exact hNU q x1 (by omega))
      refine ⟨I1, I2, N1, E1, W1, ?_, ?_, f3, f4, f5, f6, f7, f8, f9, f10, f11, fun j j1 j2 => by rw [f12 j j1 j2, up_ne (by decide)], fun a b1 b2 b3 b4 => by rw [f13 a b1 b2 b3 b4, up_ne b4], fun j hj => by rw [f14 j hj, up_ne (by decide)], fun a b1 b2 b3 => by rw [f15 a b1 b2 b3, up_ne b3]⟩
      · conv => lhs; unfold fX1_numberAll_47
        simp only [bnd_x, gd_0, gd_1, gd_o0, gd_o1, ite_self, rf_1_0, rf_1_1, rf_1_5, rf_1_6, rf_1_7, rf_2_0, rf_4_0, rf_6_0, rf_6_1, rf_6_2, rf_7_0, rf_9_0, rf_11_0, rf_13_0, rf_13_1, rf_13_2, rf_14_0, rf_16_0, rf_18_0, rf_20_0, rf_20_1, rf_20_2, rf_21_0, rf_23_0, rf_25_0, rf_27_0, rf_29_0, rf_29_1, rf_29_2, rf_29_3, rf_29_4, rf_29_5, rf_30_0, rf_32_0, rf_34_0, rf_36_0, rf_38_0, rf_40_0, rf_42_0, rf_42_1, rf_42_2, rf_42_3, rf_43_0, rf_43_1, rf_43_2, rf_44_0, rf_46_0, rf_48_0, rf_50_0, rf_52_0, rf_52_1, rf_52_2, rf_52_3, rf_52_4, rf_52_5, rf_52_6, rf_52_7, rf_52_8, rf_52_9, rf_52_10, rf_52_11, rf_53_0, rf_55_0, rf_57_0, rf_59_0, rf_61_0, rf_63_0, rf_65_0, rf_67_0, rf_69_0, rf_71_0, rf_73_0, a_7, p_7, f_7, c_7, a_9, p_9, f_9, c_9, a_11, p_11, f_11, c_11, a_14, p_14, f_14, c_14, a_16, p_16, f_16, c_16, a_18, p_18, f_18, c_18, a_21, p_21, f_21, c_21, a_23, p_23, f_23, c_23, a_25, p_25, f_25, c_25, a_30, p_30, f_30, c_30, a_32, p_32, f_32, c_32, a_34, p_34, f_34, c_34, a_36, p_36, f_36, c_36, a_38, p_38, f_38, c_38, a_40, p_40, f_40, c_40, a_44, p_44, f_44, c_44, a_46, p_46, f_46, c_46, a_48, p_48, f_48, c_48, a_50, p_50, f_50, c_50, a_53, p_53, f_53, c_53, a_55, p_55, f_55, c_55, a_57, p_57, f_57, c_57, a_59, p_59, f_59, c_59, a_61, p_61, f_61, c_61, a_63, p_63, f_63, c_63, a_65, p_65, f_65, c_65, a_67, p_67, f_67, c_67, a_69, p_69, f_69, c_69, a_71, p_71, f_71, c_71, a_73, p_73, f_73, c_73, c_1, i_1, w_1, z0_1, z1_1, c_2, i_2, w_2, z0_2, z1_2, c_4, i_4, w_4, z0_4, z1_4, c_6, i_6, w_6, z0_6, z1_6, c_13, i_13, w_13, z0_13, z1_13, c_20, i_20, w_20, z0_20, z1_20, c_27, i_27, w_27, z0_27, z1_27, c_28, i_28, w_28, z0_28, z1_28, c_29, i_29, w_29, z0_29, z1_29, c_42, i_42, w_42, z0_42, z1_42, c_43, i_43, w_43, z0_43, z1_43, c_52, i_52, w_52, z0_52, z1_52, X1_size, X1_literal, X1_numberOfStep, X1_ofFormula, X1_inAll, X1_user, X9_codeOf, X1_firstUse, X1_endOfUses, X2_open, X2_at, X2_add, X2_drop, X2_clear, X4_fuelLeft, X4_isActive, X4_isMarked, X4_mark, X4_usedCount, X4_usedAt, X4_setActive, X4_forget, X4_truthOf, rv_29_6 hf0, cl_st (sh_f hf).1, X7_rows hf, hS.1, if_neg n1, X7_isDeletion hf, hdel, show b2 true = 1 from rfl, if_neg (show ¬ (1 : Int32) = 0 by decide), wr_34 (show i < 301 by omega), fX1_numberAll_102, nI_1]
        exact f1
      · conv => lhs; unfold fX10_number0_10
        simp only [bnd_x, gd_0, gd_1, gd_o0, gd_o1, ite_self, rf_75_1, rf_75_3, rf_75_12, rf_75_13, rf_75_14, rf_75_15, rf_75_16, rf_75_17, rf_75_18, rf_75_22, rf_75_23, rf_75_24, rf_75_25, rf_75_31, rf_75_32, rf_75_41, rf_75_42, rf_75_43, rf_75_44, rf_75_45, rf_75_46, rf_75_47, rf_75_48, rf_75_53, rf_75_54, rf_75_55, rf_75_57, c_75, i_75, w_75, z0_75, z1_75, h20, if_neg n1, qa_84 (show i < 301 by omega), h84 i i1 (by omega), hd, show b2 true = 1 from rfl, if_neg (show ¬ (1 : Int32) = 0 by decide), fX10_number0_47, fX10_number0_69, ua_90 (show i < 301 by omega), nI_1]
        exact f2
    | false =>
      rw [hd] at hdel
      obtain ⟨Ia, a1, a2, a3, a4⟩ := append_ok (v := v) (J := J) hf hS hO i1 (show i ≤ np by omega) hC (by omega) (by omega)
      have eN : eE E N (ep i - ep (i - 1)) (N + 1) = E N + (ep i - ep (i - 1)) := by unfold eE; rw [if_pos rfl]
      have eP : eE E N (ep i - ep (i - 1)) N = E N := by unfold eE; rw [if_neg (by omega)]
      obtain ⟨I1, I2, N1, E1, W1, f1, f2, f3, f4, f5, f6, f7, f8, f9, f10, f11, f12, f13, f14, f15⟩ := ih (i + 1) m m' (N + 1) (up Ia 35 i (nI (N + 1))) (up (up (up I' 75 33 (nI (N + 1))) 89 (N + 1) (nI i)) 90 i (nI (N + 1))) _ _ (by omega) (by omega) (by omega) (by omega) (SHC_fr hS (fun r r1 r2 => by rw [up_ne (by omega), a4 r (by omega) (by omega) (by omega)])) (by rw [up_ne (by decide), up_ne (by decide), up_at, vup_n (by decide)]; exact h20) (by rw [up_ne (by decide), up_ne (by decide), up_ne (by decide)]; exact h84) (by rw [up_ne (by decide), up_ne (by decide), up_self]) (by omega) (by omega) ⟨by rw [up_ne (by decide)]; exact a2.1, by rw [up_ne (by decide)]; exact a2.2.1, by rw [up_ne (by decide)]; exact a2.2.2.1, by rw [up_ne (by decide)]; exact a2.2.2.2⟩ (by rw [Nat.add_sub_cancel, eN]; omega) (by unfold eE; rw [if_neg (by omega)]; exact h0) (by
        intro k hk
        rw [eN]
        unfold eE
        by_cases c : k = N + 1
        · rw [if_pos c]; exact Nat.le_refl _
        · rw [if_neg c]
          have := hmo k (by omega)
          omega) (by
        intro k k1 k2
        by_cases c : k = N + 1
        · subst c
          refine ⟨?_, fun c => by omega, fun _ => ⟨i, i1, by omega, ?_, ?_, ?_⟩⟩
          · rw [Nat.add_sub_cancel, eN, eP]; omega
          · rw [up_ne (by decide), up_self]
          · rw [Nat.add_sub_cancel, eN, eP]; omega
          · rw [Nat.add_sub_cancel, eN, eP]
            intro j hj
            unfold eW
            rw [if_neg (by omega)]
            congr 1; omega
        · apply DK_fr (DK_e (hDK k k1 (by omega)) k1 (by omega) (hmo k (by omega)))
          rw [up_ne (by decide), up_at, vup_n c, up_ne (by decide)]) (by
        intro q x1 x2
        rw [up_at, up_at]
        by_cases c : q = i
        · subst c
          rw [vup_s, vup_s]
          exact ⟨N + 1, rfl, rfl, fun c => by rw [hd] at c; exact absurd c (by decide), fun _ => ⟨by omega, by omega⟩⟩
        · rw [vup_n c, vup_n c, a4 35 (by decide) (by decide) (by decide), up_ne (by decide), up_ne (by decide)]
          obtain ⟨u, y1, y2, y3, y4⟩ := hNU q x1 (by omega)
          exact ⟨u, y1, y2, y3, fun c => ⟨(y4 c).1, by have := (y4 c).2; omega⟩⟩)
      refine ⟨I1, I2, N1, E1, W1, ?_, ?_, f3, by omega, f5, f6, f7, f8, f9, f10, f11, fun j j1 j2 => by rw [f12 j j1 j2, up_ne (by decide), a3 j j1 j2], fun a b1 b2 b3 b4 => by rw [f13 a b1 b2 b3 b4, up_ne b4, a4 a b1 b2 b3], fun j hj => by rw [f14 j hj, up_ne (by decide), up_ne (by decide), up_at, vup_n hj], fun a b1 b2 b3 => by rw [f15 a b1 b2 b3, up_ne b3, up_ne b2, up_ne b1]⟩
      · conv => lhs; unfold fX1_numberAll_47
        simp only [bnd_x, gd_0, gd_1, gd_o0, gd_o1, ite_self, rf_1_0, rf_1_1, rf_1_5, rf_1_6, rf_1_7, rf_2_0, rf_4_0, rf_6_0, rf_6_1, rf_6_2, rf_7_0, rf_9_0, rf_11_0, rf_13_0, rf_13_1, rf_13_2, rf_14_0, rf_16_0, rf_18_0, rf_20_0, rf_20_1, rf_20_2, rf_21_0, rf_23_0, rf_25_0, rf_27_0, rf_29_0, rf_29_1, rf_29_2, rf_29_3, rf_29_4, rf_29_5, rf_30_0, rf_32_0, rf_34_0, rf_36_0, rf_38_0, rf_40_0, rf_42_0, rf_42_1, rf_42_2, rf_42_3, rf_43_0, rf_43_1, rf_43_2, rf_44_0, rf_46_0, rf_48_0, rf_50_0, rf_52_0, rf_52_1, rf_52_2, rf_52_3, rf_52_4, rf_52_5, rf_52_6, rf_52_7, rf_52_8, rf_52_9, rf_52_10, rf_52_11, rf_53_0, rf_55_0, rf_57_0, rf_59_0, rf_61_0, rf_63_0, rf_65_0, rf_67_0, rf_69_0, rf_71_0, rf_73_0, a_7, p_7, f_7, c_7, a_9, p_9, f_9, c_9, a_11, p_11, f_11, c_11, a_14, p_14, f_14, c_14, a_16, p_16, f_16, c_16, a_18, p_18, f_18, c_18, a_21, p_21, f_21, c_21, a_23, p_23, f_23, c_23, a_25, p_25, f_25, c_25, a_30, p_30, f_30, c_30, a_32, p_32, f_32, c_32, a_34, p_34, f_34, c_34, a_36, p_36, f_36, c_36, a_38, p_38, f_38, c_38, a_40, p_40, f_40, c_40, a_44, p_44, f_44, c_44, a_46, p_46, f_46, c_46, a_48, p_48, f_48, c_48, a_50, p_50, f_50, c_50, a_53, p_53, f_53, c_53, a_55, p_55, f_55, c_55, a_57, p_57, f_57, c_57, a_59, p_59, f_59, c_59, a_61, p_61, f_61, c_61, a_63, p_63, f_63, c_63, a_65, p_65, f_65, c_65, a_67, p_67, f_67, c_67, a_69, p_69, f_69, c_69, a_71, p_71, f_71, c_71, a_73, p_73, f_73, c_73, c_1, i_1, w_1, z0_1, z1_1, c_2, i_2, w_2, z0_2, z1_2, c_4, i_4, w_4, z0_4, z1_4, c_6, i_6, w_6, z0_6, z1_6, c_13, i_13, w_13, z0_13, z1_13, c_20, i_20, w_20, z0_20, z1_20, c_27, i_27, w_27, z0_27, z1_27, c_28, i_28, w_28, z0_28, z1_28, c_29, i_29, w_29, z0_29, z1_29, c_42, i_42, w_42, z0_42, z1_42, c_43, i_43, w_43, z0_43, z1_43, c_52, i_52, w_52, z0_52, z1_52, X1_size, X1_literal, X1_numberOfStep, X1_ofFormula, X1_inAll, X1_user, X9_codeOf, X1_firstUse, X1_endOfUses, X2_open, X2_at, X2_add, X2_drop, X2_clear, X4_fuelLeft, X4_isActive, X4_isMarked, X4_mark, X4_usedCount, X4_usedAt, X4_setActive, X4_forget, X4_truthOf, rv_29_6 hf0, cl_st (sh_f hf).1, X7_rows hf, hS.1, if_neg n1, X7_isDeletion hf, hdel, show b2 false = 0 from rfl, if_pos, a1, a2.1, wr_34 (show i < 301 by omega), fX1_numberAll_102, nI_1]
        exact f1
      · conv => lhs; unfold fX10_number0_10
        simp only [bnd_x, gd_0, gd_1, gd_o0, gd_o1, ite_self, rf_75_1, rf_75_3, rf_75_12, rf_75_13, rf_75_14, rf_75_15, rf_75_16, rf_75_17, rf_75_18, rf_75_22, rf_75_23, rf_75_24, rf_75_25, rf_75_31, rf_75_32, rf_75_41, rf_75_42, rf_75_43, rf_75_44, rf_75_45, rf_75_46, rf_75_47, rf_75_48, rf_75_53, rf_75_54, rf_75_55, rf_75_57, c_75, i_75, w_75, z0_75, z1_75, h20, if_neg n1, qa_84 (show i < 301 by omega), h84 i i1 (by omega), hd, show b2 false = 0 from rfl, if_pos, h33, nI_1, up_self, ua_89 (show N + 1 < 601 by omega), fX10_number0_47, fX10_number0_69, up_ne (show (84 : Nat) ≠ 89 by decide), up_ne (show (84 : Nat) ≠ 75 by decide), up_ne (show (75 : Nat) ≠ 89 by decide), ua_90 (show i < 301 by omega)]
        exact f2
end
end
