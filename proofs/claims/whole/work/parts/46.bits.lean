/-! Sets of bits: the ready ones. -/
def rb (I : Nat → Nat → Int32) (r : Nat) : Bool := (I 62 (r / 32)).toBitVec.getLsbD (r % 32)
theorem low_bit (w : BitVec 32) (h : w ≠ 0#32) : ∃ b, b < 32 ∧ w.getLsbD b = true ∧ (∀ i, i < b → w.getLsbD i = false) ∧ w &&& (-w) = BitVec.twoPow 32 b := by
  have hx : ∃ k, w.getLsbD k = true := by
    apply Classical.byContradiction
    intro q
    apply h
    apply BitVec.eq_of_getLsbD_eq
    intro i hi
    have : ¬ w.getLsbD i = true := fun r => q ⟨i, r⟩
    simpa using this
  obtain ⟨b, hb, hm⟩ := pk_least (fun k => w.getLsbD k = true) hx
  have hb32 : b < 32 := BitVec.lt_of_getLsbD hb
  refine ⟨b, hb32, hb, fun i hi => by simpa using hm i hi, ?_⟩
  apply BitVec.eq_of_getLsbD_eq
  intro i hi
  rw [BitVec.getLsbD_and, BitVec.getLsbD_neg, BitVec.getLsbD_twoPow]
  by_cases h1 : i < b
  · have := hm i h1
    have e : w.getLsbD i = false := by simpa using this
    have : ¬ b = i := by omega
    simp [e, this]
  · by_cases h2 : i = b
    · subst h2
      have : ¬ ∃ j, j < i ∧ w.getLsbD j = true := by
        rintro ⟨j, hj, hj2⟩
        exact hm j hj hj2
      simp [hb, hi, this]
    · have : ∃ j, j < i ∧ w.getLsbD j = true := ⟨b, by omega, hb⟩
      have e3 : ¬ b = i := fun q => h2 q.symm
      simp [hi, this, e3]
theorem bit_tab : ∀ b, b < 32 → ((1 : Int32) <<< (nI b)).toBitVec = BitVec.twoPow 32 b ∧ fJ6_bitCount_0f7a4 (Int32.ofBitVec (BitVec.twoPow 32 b) - 1) = fun s => some (nI b, s) := by
  intro b hb
  refine ⟨?_, ?_⟩
  · have : ∀ b, b < 32 → ((1 : Int32) <<< (nI b)).toBitVec = BitVec.twoPow 32 b := by decide +kernel
    exact this b hb
  · funext s
    unfold fJ6_bitCount_0f7a4
    refine congrArg (fun x => some (x, s)) ?_
    revert b
    decide +kernel
theorem low_int (w : Int32) (h : w ≠ 0) : ∃ b, b < 32 ∧ w.toBitVec.getLsbD b = true ∧ (∀ i, i < b → w.toBitVec.getLsbD i = false) ∧ (∀ i, (w ^^^ (w &&& (-w))).toBitVec.getLsbD i = (w.toBitVec.getLsbD i && !(decide (i = b)))) ∧ (∀ s, fJ6_bitCount_0f7a4 ((w &&& (-w)) - 1) s = some (nI b, s)) := by
  have h0 : w.toBitVec ≠ 0#32 := by
    intro q
    apply h
    apply Int32.toBitVec_inj.mp
    rw [q]; rfl
  obtain ⟨b, hb, h1, h2, h3⟩ := low_bit w.toBitVec h0
  have e : w &&& (-w) = Int32.ofBitVec (BitVec.twoPow 32 b) := by
    apply Int32.toBitVec_inj.mp
    simpa using h3
  refine ⟨b, hb, h1, h2, ?_, ?_⟩
  · intro i
    rw [e]
    simp only [Int32.toBitVec_xor, BitVec.getLsbD_xor]
    rw [show (Int32.ofBitVec (BitVec.twoPow 32 b)).toBitVec = BitVec.twoPow 32 b from rfl, BitVec.getLsbD_twoPow]
    by_cases q : i = b
    · subst q; simp [h1, hb]
    · have : ¬ b = i := fun r => q r.symm
      simp [q, this]
  · intro s
    rw [e]
    exact congrFun (bit_tab b hb).2 s
section
variable {I : Nat → Nat → Int32} {v : zV} {J : Nat → Nat → Int64}
def rank (I : Nat → Nat → Int32) (k : Nat) : Nat := if I 56 k = 0 then 608 + k else k
theorem rank_lt {k : Nat} (h : k ≤ 600) : rank I k < 1216 := by unfold rank; split <;> omega
/-- the bit of a rank is set -/
theorem setbit {r : Nat} (h : r < 1216) : ∃ I', fX4_makeReady_31 52 (nI r) (st I v J) = some (st I' v J) ∧ (∀ i, i < 1216 → (rb I' i = true ↔ rb I i = true ∨ i = r)) ∧ (∀ a, a ≠ 62 → I' a = I a) := by
  have hd : (nI r / 32) = nI (r / 32) := pk_div (by omega) (by decide) (by decide)
  have hm : (nI r - nI r / 32 * 32) &&& 31 = nI (r % 32) := by
    rw [show (32 : Int32) = nI 32 from rfl, pk_rem (by omega) (by decide) (by decide), pk_andN (by omega) 5 rfl]
    congr 1; omega
  refine ⟨up I 62 (r / 32) (I 62 (r / 32) ||| ((1 : Int32) <<< nI (r % 32))), ?_, ?_, ?_⟩
  · simp only [fX4_makeReady_31, bnd_x, gd_0, gd_1, gd_o0, gd_o1, ite_self, rf_1_0, rf_1_1, rf_1_5, rf_1_6, rf_1_7, rf_2_0, rf_4_0, rf_6_0, rf_6_1, rf_6_2, rf_7_0, rf_9_0, rf_11_0, rf_13_0, rf_13_1, rf_13_2, rf_14_0, rf_16_0, rf_18_0, rf_20_0, rf_20_1, rf_20_2, rf_21_0, rf_23_0, rf_25_0, rf_27_0, rf_29_0, rf_29_1, rf_29_2, rf_29_3, rf_29_4, rf_29_5, rf_30_0, rf_32_0, rf_34_0, rf_36_0, rf_38_0, rf_40_0, rf_42_0, rf_42_1, rf_42_2, rf_42_3, rf_43_0, rf_43_1, rf_43_2, rf_44_0, rf_46_0, rf_48_0, rf_50_0, rf_52_0, rf_52_1, rf_52_2, rf_52_3, rf_52_4, rf_52_5, rf_52_6, rf_52_7, rf_52_8, rf_52_9, rf_52_10, rf_52_11, rf_53_0, rf_55_0, rf_57_0, rf_59_0, rf_61_0, rf_63_0, rf_65_0, rf_67_0, rf_69_0, rf_71_0, rf_73_0, a_7, p_7, f_7, c_7, a_9, p_9, f_9, c_9, a_11, p_11, f_11, c_11, a_14, p_14, f_14, c_14, a_16, p_16, f_16, c_16, a_18, p_18, f_18, c_18, a_21, p_21, f_21, c_21, a_23, p_23, f_23, c_23, a_25, p_25, f_25, c_25, a_30, p_30, f_30, c_30, a_32, p_32, f_32, c_32, a_34, p_34, f_34, c_34, a_36, p_36, f_36, c_36, a_38, p_38, f_38, c_38, a_40, p_40, f_40, c_40, a_44, p_44, f_44, c_44, a_46, p_46, f_46, c_46, a_48, p_48, f_48, c_48, a_50, p_50, f_50, c_50, a_53, p_53, f_53, c_53, a_55, p_55, f_55, c_55, a_57, p_57, f_57, c_57, a_59, p_59, f_59, c_59, a_61, p_61, f_61, c_61, a_63, p_63, f_63, c_63, a_65, p_65, f_65, c_65, a_67, p_67, f_67, c_67, a_69, p_69, f_69, c_69, a_71, p_71, f_71, c_71, a_73, p_73, f_73, c_73, c_1, i_1, w_1, z0_1, z1_1, c_2, i_2, w_2, z0_2, z1_2, c_4, i_4, w_4, z0_4, z1_4, c_6, i_6, w_6, z0_6, z1_6, c_13, i_13, w_13, z0_13, z1_13, c_20, i_20, w_20, z0_20, z1_20, c_27, i_27, w_27, z0_27, z1_27, c_28, i_28, w_28, z0_28, z1_28, c_29, i_29, w_29, z0_29, z1_29, c_42, i_42, w_42, z0_42, z1_42, c_43, i_43, w_43, z0_43, z1_43, c_52, i_52, w_52, z0_52, z1_52, X1_size, X1_literal, X1_numberOfStep, X1_ofFormula, X1_inAll, X1_user, X9_codeOf, X1_firstUse, X1_endOfUses, X2_open, X2_at, X2_add, X2_drop, X2_clear, X4_fuelLeft, X4_isActive, X4_isMarked, X4_mark, X4_usedCount, X4_usedAt, X4_setActive, X4_forget, X4_truthOf]
    rw [hm, hd, rd_61 (by omega), wr_61 (by omega)]
  · intro i hi
    unfold rb
    by_cases e : i / 32 = r / 32
    · rw [e, up_self]
      simp only [Int32.toBitVec_or, BitVec.getLsbD_or, (bit_tab (r % 32) (by omega)).1, BitVec.getLsbD_twoPow]
      have : (r % 32 = i % 32) ↔ i = r := by omega
      have h32 : r % 32 < 32 := by omega
      simp [this, h32]
    · have : i ≠ r := fun q => e (by rw [q])
      rw [up_get, if_neg (by rintro ⟨-, q⟩; exact e q)]
      simp [this]
  · intro a ha
    exact up_ne ha
/-- a clause is made ready, if it is active -/
theorem makeReady_ok {k : Nat} (h : k ≤ 600) : ∃ I', fX4_makeReady 52 (nI k) (st I v J) = some (st I' v J) ∧ (∀ i, i < 1216 → (rb I' i = true ↔ rb I i = true ∨ (I 54 k ≠ 0 ∧ i = rank I k))) ∧ (∀ a, a ≠ 62 → I' a = I a) := by
  simp only [fX4_makeReady, bnd_x, gd_0, gd_1, gd_o0, gd_o1, ite_self, rf_1_0, rf_1_1, rf_1_5, rf_1_6, rf_1_7, rf_2_0, rf_4_0, rf_6_0, rf_6_1, rf_6_2, rf_7_0, rf_9_0, rf_11_0, rf_13_0, rf_13_1, rf_13_2, rf_14_0, rf_16_0, rf_18_0, rf_20_0, rf_20_1, rf_20_2, rf_21_0, rf_23_0, rf_25_0, rf_27_0, rf_29_0, rf_29_1, rf_29_2, rf_29_3, rf_29_4, rf_29_5, rf_30_0, rf_32_0, rf_34_0, rf_36_0, rf_38_0, rf_40_0, rf_42_0, rf_42_1, rf_42_2, rf_42_3, rf_43_0, rf_43_1, rf_43_2, rf_44_0, rf_46_0, rf_48_0, rf_50_0, rf_52_0, rf_52_1, rf_52_2, rf_52_3, rf_52_4, rf_52_5, rf_52_6, rf_52_7, rf_52_8, rf_52_9, rf_52_10, rf_52_11, rf_53_0, rf_55_0, rf_57_0, rf_59_0, rf_61_0, rf_63_0, rf_65_0, rf_67_0, rf_69_0, rf_71_0, rf_73_0, a_7, p_7, f_7, c_7, a_9, p_9, f_9, c_9, a_11, p_11, f_11, c_11, a_14, p_14, f_14, c_14, a_16, p_16, f_16, c_16, a_18, p_18, f_18, c_18, a_21, p_21, f_21, c_21, a_23, p_23, f_23, c_23, a_25, p_25, f_25, c_25, a_30, p_30, f_30, c_30, a_32, p_32, f_32, c_32, a_34, p_34, f_34, c_34, a_36, p_36, f_36, c_36, a_38, p_38, f_38, c_38, a_40, p_40, f_40, c_40, a_44, p_44, f_44, c_44, a_46, p_46, f_46, c_46, a_48, p_48, f_48, c_48, a_50, p_50, f_50, c_50, a_53, p_53, f_53, c_53, a_55, p_55, f_55, c_55, a_57, p_57, f_57, c_57, a_59, p_59, f_59, c_59, a_61, p_61, f_61, c_61, a_63, p_63, f_63, c_63, a_65, p_65, f_65, c_65, a_67, p_67, f_67, c_67, a_69, p_69, f_69, c_69, a_71, p_71, f_71, c_71, a_73, p_73, f_73, c_73, c_1, i_1, w_1, z0_1, z1_1, c_2, i_2, w_2, z0_2, z1_2, c_4, i_4, w_4, z0_4, z1_4, c_6, i_6, w_6, z0_6, z1_6, c_13, i_13, w_13, z0_13, z1_13, c_20, i_20, w_20, z0_20, z1_20, c_27, i_27, w_27, z0_27, z1_27, c_28, i_28, w_28, z0_28, z1_28, c_29, i_29, w_29, z0_29, z1_29, c_42, i_42, w_42, z0_42, z1_42, c_43, i_43, w_43, z0_43, z1_43, c_52, i_52, w_52, z0_52, z1_52, X1_size, X1_literal, X1_numberOfStep, X1_ofFormula, X1_inAll, X1_user, X9_codeOf, X1_firstUse, X1_endOfUses, X2_open, X2_at, X2_add, X2_drop, X2_clear, X4_fuelLeft, X4_isActive, X4_isMarked, X4_mark, X4_usedCount, X4_usedAt, X4_setActive, X4_forget, X4_truthOf]
  rw [rd_53 (by omega), rd_55 (by omega)]
  by_cases ha : I 54 k = 0
  · refine ⟨I, by rw [if_pos ha], ?_, fun _ _ => rfl⟩
    intro i hi
    simp [ha]
  · rw [if_neg ha]
    have hr := rank_lt (I := I) h
    obtain ⟨I', h1, h2, h3⟩ := setbit (I := I) (v := v) (J := J) hr
    refine ⟨I', ?_, ?_, h3⟩
    · by_cases hm : I 56 k = 0
      · rw [if_pos hm, show (608 : Int32) = nI 608 from rfl, nI_add]
        unfold rank at h1
        rw [if_pos hm] at h1
        exact h1
      · rw [if_neg hm]
        unfold rank at h1
        rw [if_neg hm] at h1
        exact h1
    · intro i hi
      rw [h2 i hi]
      simp [ha]
theorem rb_w0 {a : Nat} (h : I 62 a = 0) {i : Nat} (hi : i / 32 = a) : rb I i = false := by
  unfold rb
  rw [hi, h]
  simp
/-- the first ready one is taken -/
theorem takeFirst_loop : ∀ (d i n : Nat), i + d = 38 → d < n → (∀ r, r < 1216 → r / 32 < i → rb I r = false) →
    ((∀ r, r < 1216 → rb I r = false) ∧ fX4_takeFirstReady_2 n 52 (nI i) (st I v J) = some (0, st I v J)) ∨
    (∃ r I', r < 1216 ∧ rb I r = true ∧ (∀ r', r' < r → rb I r' = false) ∧ fX4_takeFirstReady_2 n 52 (nI i) (st I v J) = some (nI (if r < 608 then r else r - 608), st I' v J) ∧ (∀ i, i < 1216 → (rb I' i = true ↔ rb I i = true ∧ i ≠ r)) ∧ (∀ a, a ≠ 62 → I' a = I a)) := by
  intro d
  induction d with
  | zero =>
    intro i n hi hn hz
    obtain ⟨n, rfl⟩ : ∃ m, n = m + 1 := ⟨n - 1, by omega⟩
    left
    refine ⟨fun r hr => hz r hr (by omega), ?_⟩
    unfold fX4_takeFirstReady_2
    rw [show i = 38 by omega]
    rfl
  | succ d ih =>
    intro i n hi hn hz
    obtain ⟨n, rfl⟩ : ∃ m, n = m + 1 := ⟨n - 1, by omega⟩
    have hlt : ¬ (38 : Int32) ≤ nI i := nI_ge (b := 38) (by omega) (by decide)
    by_cases hw : I 62 i = 0
    · have hstep : fX4_takeFirstReady_2 (n + 1) 52 (nI i) (st I v J) = fX4_takeFirstReady_2 n 52 (nI (i + 1)) (st I v J) := by
        conv => lhs; unfold fX4_takeFirstReady_2
        simp only [bnd_x, gd_0, gd_1, gd_o0, gd_o1, ite_self, rf_1_0, rf_1_1, rf_1_5, rf_1_6, rf_1_7, rf_2_0, rf_4_0, rf_6_0, rf_6_1, rf_6_2, rf_7_0, rf_9_0, rf_11_0, rf_13_0, rf_13_1, rf_13_2, rf_14_0, rf_16_0, rf_18_0, rf_20_0, rf_20_1, rf_20_2, rf_21_0, rf_23_0, rf_25_0, rf_27_0, rf_29_0, rf_29_1, rf_29_2, rf_29_3, rf_29_4, rf_29_5, rf_30_0, rf_32_0, rf_34_0, rf_36_0, rf_38_0, rf_40_0, rf_42_0, rf_42_1, rf_42_2, rf_42_3, rf_43_0, rf_43_1, rf_43_2, rf_44_0, rf_46_0, rf_48_0, rf_50_0, rf_52_0, rf_52_1, rf_52_2, rf_52_3, rf_52_4, rf_52_5, rf_52_6, rf_52_7, rf_52_8, rf_52_9, rf_52_10, rf_52_11, rf_53_0, rf_55_0, rf_57_0, rf_59_0, rf_61_0, rf_63_0, rf_65_0, rf_67_0, rf_69_0, rf_71_0, rf_73_0, a_7, p_7, f_7, c_7, a_9, p_9, f_9, c_9, a_11, p_11, f_11, c_11, a_14, p_14, f_14, c_14, a_16, p_16, f_16, c_16, a_18, p_18, f_18, c_18, a_21, p_21, f_21, c_21, a_23, p_23, f_23, c_23, a_25, p_25, f_25, c_25, a_30, p_30, f_30, c_30, a_32, p_32, f_32, c_32, a_34, p_34, f_34, c_34, a_36, p_36, f_36, c_36, a_38, p_38, f_38, c_38, a_40, p_40, f_40, c_40, a_44, p_44, f_44, c_44, a_46, p_46, f_46, c_46, a_48, p_48, f_48, c_48, a_50, p_50, f_50, c_50, a_53, p_53, f_53, c_53, a_55, p_55, f_55, c_55, a_57, p_57, f_57, c_57, a_59, p_59, f_59, c_59, a_61, p_61, f_61, c_61, a_63, p_63, f_63, c_63, a_65, p_65, f_65, c_65, a_67, p_67, f_67, c_67, a_69, p_69, f_69, c_69, a_71, p_71, f_71, c_71, a_73, p_73, f_73, c_73, c_1, i_1, w_1, z0_1, z1_1, c_2, i_2, w_2, z0_2, z1_2, c_4, i_4, w_4, z0_4, z1_4, c_6, i_6, w_6, z0_6, z1_6, c_13, i_13, w_13, z0_13, z1_13, c_20, i_20, w_20, z0_20, z1_20, c_27, i_27, w_27, z0_27, z1_27, c_28, i_28, w_28, z0_28, z1_28, c_29, i_29, w_29, z0_29, z1_29, c_42, i_42, w_42, z0_42, z1_42, c_43, i_43, w_43, z0_43, z1_43, c_52, i_52, w_52, z0_52, z1_52, X1_size, X1_literal, X1_numberOfStep, X1_ofFormula, X1_inAll, X1_user, X9_codeOf, X1_firstUse, X1_endOfUses, X2_open, X2_at, X2_add, X2_drop, X2_clear, X4_fuelLeft, X4_isActive, X4_isMarked, X4_mark, X4_usedCount, X4_usedAt, X4_setActive, X4_forget, X4_truthOf]
        rw [if_neg hlt, rd_61 (by omega), if_pos hw, nI_1]
      rw [hstep]
      apply ih (i + 1) n (by omega) (by omega)
      intro r hr hri
      by_cases q : r / 32 < i
      · exact hz r hr q
      · exact rb_w0 hw (by omega)
    · right
      obtain ⟨b, hb, h1, h2, h3, h4⟩ := low_int (I 62 i) hw
      refine ⟨32 * i + b, up I 62 i (I 62 i ^^^ (I 62 i &&& -I 62 i)), by omega, ?_, ?_, ?_, ?_, ?_⟩
      · unfold rb
        rw [show (32 * i + b) / 32 = i by omega, show (32 * i + b) % 32 = b by omega]
        exact h1
      · intro r' hr'
        by_cases q : r' / 32 < i
        · exact hz r' (by omega) q
        · unfold rb
          rw [show r' / 32 = i by omega]
          exact h2 _ (by omega)
      · unfold fX4_takeFirstReady_2
        simp only [bnd_x, gd_0, gd_1, gd_o0, gd_o1, ite_self, rf_1_0, rf_1_1, rf_1_5, rf_1_6, rf_1_7, rf_2_0, rf_4_0, rf_6_0, rf_6_1, rf_6_2, rf_7_0, rf_9_0, rf_11_0, rf_13_0, rf_13_1, rf_13_2, rf_14_0, rf_16_0, rf_18_0, rf_20_0, rf_20_1, rf_20_2, rf_21_0, rf_23_0, rf_25_0, rf_27_0, rf_29_0, rf_29_1, rf_29_2, rf_29_3, rf_29_4, rf_29_5, rf_30_0, rf_32_0, rf_34_0, rf_36_0, rf_38_0, rf_40_0, rf_42_0, rf_42_1, rf_42_2, rf_42_3, rf_43_0, rf_43_1, rf_43_2, rf_44_0, rf_46_0, rf_48_0, rf_50_0, rf_52_0, rf_52_1, rf_52_2, rf_52_3, rf_52_4, rf_52_5, rf_52_6, rf_52_7, rf_52_8, rf_52_9, rf_52_10, rf_52_11, rf_53_0, rf_55_0, rf_57_0, rf_59_0, rf_61_0, rf_63_0, rf_65_0, rf_67_0, rf_69_0, rf_71_0, rf_73_0, a_7, p_7, f_7, c_7, a_9, p_9, f_9, c_9, a_11, p_11, f_11, c_11, a_14, p_14, f_14, c_14, a_16, p_16, f_16, c_16, a_18, p_18, f_18, c_18, a_21, p_21, f_21, c_21, a_23, p_23, f_23, c_23, a_25, p_25, f_25, c_25, a_30, p_30, f_30, c_30, a_32, p_32, f_32, c_32, a_34, p_34, f_34, c_34, a_36, p_36, f_36, c_36, a_38, p_38, f_38, c_38, a_40, p_40, f_40, c_40, a_44, p_44, f_44, c_44, a_46, p_46, f_46, c_46, a_48, p_48, f_48, c_48, a_50, p_50, f_50, c_50, a_53, p_53, f_53, c_53, a_55, p_55, f_55, c_55, a_57, p_57, f_57, c_57, a_59, p_59, f_59, c_59, a_61, p_61, f_61, c_61, a_63, p_63, f_63, c_63, a_65, p_65, f_65, c_65, a_67, p_67, f_67, c_67, a_69, p_69, f_69, c_69, a_71, p_71, f_71, c_71, a_73, p_73, f_73, c_73, c_1, i_1, w_1, z0_1, z1_1, c_2, i_2, w_2, z0_2, z1_2, c_4, i_4, w_4, z0_4, z1_4, c_6, i_6, w_6, z0_6, z1_6, c_13, i_13, w_13, z0_13, z1_13, c_20, i_20, w_20, z0_20, z1_20, c_27, i_27, w_27, z0_27, z1_27, c_28, i_28, w_28, z0_28, z1_28, c_29, i_29, w_29, z0_29, z1_29, c_42, i_42, w_42, z0_42, z1_42, c_43, i_43, w_43, z0_43, z1_43, c_52, i_52, w_52, z0_52, z1_52, X1_size, X1_literal, X1_numberOfStep, X1_ofFormula, X1_inAll, X1_user, X9_codeOf, X1_firstUse, X1_endOfUses, X2_open, X2_at, X2_add, X2_drop, X2_clear, X4_fuelLeft, X4_isActive, X4_isMarked, X4_mark, X4_usedCount, X4_usedAt, X4_setActive, X4_forget, X4_truthOf]
        rw [if_neg hlt, rd_61 (by omega), if_neg hw, wr_61 (by omega), h4]
        simp only [bnd_s]
        rw [show (32 : Int32) = nI 32 from rfl, pk_mul, nI_add, show i * 32 + b = 32 * i + b by omega, show (608 : Int32) = nI 608 from rfl]
        by_cases q : 32 * i + b < 608
        · rw [if_pos (nI_lt (b := 608) q (by decide)), if_pos q]
        · rw [if_neg (nI_nlt (a := 32 * i + b) (b := 608) (by omega) (by omega)), if_neg q, pk_sub (by omega)]
      · intro j hj
        unfold rb
        by_cases e : j / 32 = i
        · rw [e, up_self, h3]
          have : (j % 32 = b) ↔ j = 32 * i + b := by omega
          simp [this]
        · have : j ≠ 32 * i + b := fun q => e (by omega)
          rw [up_get, if_neg (by rintro ⟨-, q⟩; exact e q)]
          simp [this]
      · intro a ha
        exact up_ne ha
theorem takeFirst_ok : ((∀ r, r < 1216 → rb I r = false) ∧ fX4_takeFirstReady 52 (st I v J) = some (0, st I v J)) ∨
    (∃ r I', r < 1216 ∧ rb I r = true ∧ (∀ r', r' < r → rb I r' = false) ∧ fX4_takeFirstReady 52 (st I v J) = some (nI (if r < 608 then r else r - 608), st I' v J) ∧ (∀ i, i < 1216 → (rb I' i = true ↔ rb I i = true ∧ i ≠ r)) ∧ (∀ a, a ≠ 62 → I' a = I a)) :=
  takeFirst_loop 38 0 zfu (by omega) (by decide) (fun r _ h => by omega)
end
