/-! Hints; what a conflict leaves; restart and begin. -/
section
variable {N : Nat} {sz : Nat → Nat} {lt : Nat → Nat → Int32}
def HR (I I' : Nat → Nat → Int32) (N : Nat) : Prop :=
  ∃ h, h ≤ 4000 ∧ I 43 3 = nI h ∧ I' 75 56 = nI h ∧ (∀ i, i < h → I' 99 i = I 45 i) ∧ ∀ k, k ≤ N → ∃ a m, I 47 k = nI a ∧ I 49 k = nI (a + m) ∧ a + m ≤ h ∧ I' 101 k = nI m ∧ (m ≠ 0 → I' 100 k = nI a)
def OP (I I' : Nat → Nat → Int32) (k : Nat) : Prop :=
  ∃ a m, I 47 k = nI a ∧ I' 100 k = nI a ∧ I 43 3 = nI (a + m) ∧ I 49 k = nI (a + m) ∧ I' 101 k = nI m ∧ a + m ≤ 4000
theorem HR_fr {I I' I1 I2 : Nat → Nat → Int32} (h : HR I I' N) (a43 : I1 43 3 = I 43 3) (a45 : I1 45 = I 45) (a47 : I1 47 = I 47) (a49 : I1 49 = I 49) (b75 : I2 75 56 = I' 75 56) (b99 : I2 99 = I' 99) (b100 : I2 100 = I' 100) (b101 : I2 101 = I' 101) : HR I1 I2 N := by
  unfold HR
  rw [a43, a45, a47, a49, b75, b99, b100, b101]; exact h
theorem OP_fr {I I' I1 I2 : Nat → Nat → Int32} {k : Nat} (h : OP I I' k) (a43 : I1 43 3 = I 43 3) (a47 : I1 47 = I 47) (a49 : I1 49 = I 49) (b100 : I2 100 = I' 100) (b101 : I2 101 = I' 101) : OP I1 I2 k := by
  unfold OP
  rw [a43, a47, a49, b100, b101]; exact h
def cadd (k : Nat) (I : Nat → Nat → Int32) (x : Int32) : Nat → Nat → Int32 :=
  if 4000 ≤ I 43 3 then I else wr (up (wr I 44 (I 43 3) x) 43 3 (I 43 3 + 1)) 48 (nI k) (I 43 3 + 1)
theorem cadd_49 {k q : Nat} (hk : k < 601) (hq : q ≠ k) {I : Nat → Nat → Int32} {x : Int32} : cadd k I x 49 q = I 49 q := by
  unfold cadd
  split
  · rfl
  · rw [wr_48 hk, up_at, vup_n hq, up_ne (by decide), wr_ne (by decide)]
theorem cadd_fr {k : Nat} {I : Nat → Nat → Int32} {x : Int32} : (∀ a, a ≠ 43 → a ≠ 45 → a ≠ 49 → cadd k I x a = I a) ∧ (∀ j, j ≠ 3 → cadd k I x 43 j = I 43 j) := by
  unfold cadd
  split
  · exact ⟨fun _ _ _ _ => rfl, fun _ _ => rfl⟩
  · exact ⟨fun a a1 a2 a3 => by rw [wr_ne a3, up_ne a1, wr_ne a2], fun j hj => by rw [wr_ne (by decide), up_at, vup_n hj, wr_ne (by decide)]⟩
theorem add_lock (hN : N ≤ 600) {I I' : Nat → Nat → Int32} {k : Nat} (hk : k ≤ N) (x : Int32) (h : HR I I' N) (o : OP I I' k) : HR (cadd k I x) (radd k I' x) N ∧ OP (cadd k I x) (radd k I' x) k := by
  obtain ⟨h, h1, h2, h3, h4, h5⟩ := h
  obtain ⟨a, m, o1, o2, o3, o4, o5, o6⟩ := o
  have ham : a + m = h := (nI_eq (by omega) (by omega)).mp (by rw [← o3, h2])
  by_cases e : h = 4000
  · have c1 : (4000 : Int32) ≤ I 43 3 := by rw [h2, e]; decide
    have c2 : I' 75 56 = 4000 := by rw [h3, e]; rfl
    unfold cadd radd
    rw [if_pos c1, if_pos c2]
    exact ⟨⟨h, h1, h2, h3, h4, h5⟩, a, m, o1, o2, o3, o4, o5, o6⟩
  · have c1 : ¬ (4000 : Int32) ≤ I 43 3 := by rw [h2]; exact nI_ge (b := 4000) (by omega) (by decide)
    have c2 : ¬ I' 75 56 = 4000 := by
      rw [h3]; intro q; exact e ((nI_eq (b := 4000) (by omega) (by decide)).mp q)
    have d1 : cadd k I x = up (up (up I 45 h x) 43 3 (nI (h + 1))) 49 k (nI (h + 1)) := by
      unfold cadd
      rw [if_neg c1, h2, wr_44 (by omega), wr_48 (by omega), nI_1]
    have d2 : radd k I' x = up (up (up I' 99 h x) 75 56 (nI (h + 1))) 101 k (nI (m + 1)) := by
      unfold radd
      rw [if_neg c2, h3, nI_clamp (by omega), nI_1, o5, nI_1]
    rw [d1, d2]
    have e43 : up (up (up I 45 h x) 43 3 (nI (h + 1))) 49 k (nI (h + 1)) 43 3 = nI (h + 1) := by rw [up_ne (by decide), up_self]
    have e45 : up (up (up I 45 h x) 43 3 (nI (h + 1))) 49 k (nI (h + 1)) 45 = vup (I 45) h x := by rw [up_ne (by decide), up_ne (by decide), up_at]
    have e47 : up (up (up I 45 h x) 43 3 (nI (h + 1))) 49 k (nI (h + 1)) 47 = I 47 := by rw [up_ne (by decide), up_ne (by decide), up_ne (by decide)]
    have e49 : up (up (up I 45 h x) 43 3 (nI (h + 1))) 49 k (nI (h + 1)) 49 = vup (I 49) k (nI (h + 1)) := by rw [up_at, up_ne (by decide), up_ne (by decide)]
    have f75 : up (up (up I' 99 h x) 75 56 (nI (h + 1))) 101 k (nI (m + 1)) 75 56 = nI (h + 1) := by rw [up_ne (by decide), up_self]
    have f99 : up (up (up I' 99 h x) 75 56 (nI (h + 1))) 101 k (nI (m + 1)) 99 = vup (I' 99) h x := by rw [up_ne (by decide), up_ne (by decide), up_at]
    have f100 : up (up (up I' 99 h x) 75 56 (nI (h + 1))) 101 k (nI (m + 1)) 100 = I' 100 := by rw [up_ne (by decide), up_ne (by decide), up_ne (by decide)]
    have f101 : up (up (up I' 99 h x) 75 56 (nI (h + 1))) 101 k (nI (m + 1)) 101 = vup (I' 101) k (nI (m + 1)) := by rw [up_at, up_ne (by decide), up_ne (by decide)]
    constructor
    · refine ⟨h + 1, by omega, e43, f75, ?_, ?_⟩
      · intro i hi
        rw [e45, f99]
        by_cases q : i = h
        · rw [q, vup_s, vup_s]
        · rw [vup_n q, vup_n q]; exact h4 i (by omega)
      · intro q hq
        rw [e47, e49, f100, f101]
        by_cases c : q = k
        · subst c
          exact ⟨a, m + 1, o1, by rw [vup_s, ← ham]; rfl, by omega, by rw [vup_s], fun _ => o2⟩
        · obtain ⟨b, p, p1, p2, p3, p4, p5⟩ := h5 q hq
          exact ⟨b, p, p1, by rw [vup_n c]; exact p2, by omega, by rw [vup_n c]; exact p4, p5⟩
    · refine ⟨a, m + 1, by rw [e47]; exact o1, by rw [f100]; exact o2, by rw [e43, ← ham]; rfl, by rw [e49, vup_s, ← ham]; rfl, by rw [f101, vup_s], by omega⟩
theorem keep_loop {v : zV} {J : Nat → Nat → Int64} (hN : N ≤ 600) {k : Nat} (hk : k ≤ N) {U : List Nat} (hUN : ∀ q ∈ U, 1 ≤ q ∧ q ≤ N) : ∀ (L : List Nat) (i f : Nat) (I I' : Nat → Nat → Int32), UL I U → i ≤ 151 → U.drop i = L → L.length < f → HR I I' N → OP I I' k →
    ∃ I1, fX3_keepUsed_10 f 42 (nI k) (nI U.length) (nI i) (st I v J) = some (st I1 v J) ∧ HR I1 (radds k I' (L.map nI)) N ∧ OP I1 (radds k I' (L.map nI)) k ∧ (∀ q, q ≠ k → I1 49 q = I 49 q) ∧ (∀ q, I1 56 q = if q ∈ L then 1 else I 56 q) ∧ (∀ j, j ≠ 3 → I1 43 j = I 43 j) ∧ (∀ a, a ≠ 43 → a ≠ 45 → a ≠ 49 → a ≠ 56 → I1 a = I a) := by
  intro L
  induction L with
  | nil =>
    intro i f I I' hU hi151 hd hf hH hO
    obtain ⟨f, rfl⟩ : ∃ m, f = m + 1 := ⟨f - 1, by have : 0 < f := hf; omega⟩
    have hle : U.length ≤ i := by
      have := congrArg List.length hd
      simp at this; omega
    have hi : i < 2 ^ 31 := by omega
    · refine ⟨I, ?_, hH, hO, fun _ _ => rfl, by simp, fun _ _ => rfl, fun _ _ _ _ _ => rfl⟩
      unfold fX3_keepUsed_10
      rw [if_pos (nI_le hle hi)]

  | cons q L ih =>
    intro i f I I' hU hi151 hd hf hH hO
    obtain ⟨f, rfl⟩ : ∃ m, f = m + 1 := ⟨f - 1, by have : 0 < f := Nat.lt_of_le_of_lt (Nat.zero_le _) hf; omega⟩
    obtain ⟨u1, u2, u3⟩ := hU
    have hil : i < U.length := by
      have := congrArg List.length hd
      simp at this; omega
    have hgi : I 74 i = nI q := by
      rw [u3 i hil, List.getD_eq_getElem?_getD]
      have := congrArg (fun x => x[0]?) hd
      simp at this
      simp [this]
    have hqU : q ∈ U := by
      have : q ∈ U.drop i := by rw [hd]; exact List.mem_cons_self ..
      exact List.mem_of_mem_drop this
    obtain ⟨q1, q2⟩ := hUN q hqU
    have hd' : U.drop (i + 1) = L := by
      rw [← List.drop_drop, hd]; rfl
    obtain ⟨g1, g2⟩ := add_lock hN hk (nI q) (I := up I 56 q 1) (I' := I') (HR_fr hH (by rw [up_ne (by decide)]) (up_ne (by decide)) (up_ne (by decide)) (up_ne (by decide)) rfl rfl rfl rfl) (OP_fr hO (by rw [up_ne (by decide)]) (up_ne (by decide)) (up_ne (by decide)) rfl rfl)
    obtain ⟨c1, c2⟩ := cadd_fr (k := k) (I := up I 56 q 1) (x := nI q)
    obtain ⟨I1, f1, f2, f3, f49, f4, f5, f6⟩ := ih (i + 1) f (cadd k (up I 56 q 1) (nI q)) (radd k I' (nI q)) ⟨by rw [c1 52 (by decide) (by decide) (by decide), up_ne (by decide)]; exact u1, u2, by rw [c1 74 (by decide) (by decide) (by decide), up_ne (by decide)]; exact u3⟩ (by omega) hd' (by simp at hf; omega) g1 g2
    refine ⟨I1, ?_, f2, f3, fun p hp => by rw [f49 p hp, cadd_49 (by omega) hp, up_ne (by decide)], ?_, ?_, ?_⟩
    · conv => lhs; unfold fX3_keepUsed_10
      rw [if_neg (nI_ge hil (by omega))]
      simp only [bnd_x, gd_0, gd_1, gd_o0, gd_o1, ite_self, rf_1_0, rf_1_1, rf_1_5, rf_1_6, rf_1_7, rf_2_0, rf_4_0, rf_6_0, rf_6_1, rf_6_2, rf_7_0, rf_9_0, rf_11_0, rf_13_0, rf_13_1, rf_13_2, rf_14_0, rf_16_0, rf_18_0, rf_20_0, rf_20_1, rf_20_2, rf_21_0, rf_23_0, rf_25_0, rf_27_0, rf_29_0, rf_29_1, rf_29_2, rf_29_3, rf_29_4, rf_29_5, rf_30_0, rf_32_0, rf_34_0, rf_36_0, rf_38_0, rf_40_0, rf_42_0, rf_42_1, rf_42_2, rf_42_3, rf_43_0, rf_43_1, rf_43_2, rf_44_0, rf_46_0, rf_48_0, rf_50_0, rf_52_0, rf_52_1, rf_52_2, rf_52_3, rf_52_4, rf_52_5, rf_52_6, rf_52_7, rf_52_8, rf_52_9, rf_52_10, rf_52_11, rf_53_0, rf_55_0, rf_57_0, rf_59_0, rf_61_0, rf_63_0, rf_65_0, rf_67_0, rf_69_0, rf_71_0, rf_73_0, a_7, p_7, f_7, c_7, a_9, p_9, f_9, c_9, a_11, p_11, f_11, c_11, a_14, p_14, f_14, c_14, a_16, p_16, f_16, c_16, a_18, p_18, f_18, c_18, a_21, p_21, f_21, c_21, a_23, p_23, f_23, c_23, a_25, p_25, f_25, c_25, a_30, p_30, f_30, c_30, a_32, p_32, f_32, c_32, a_34, p_34, f_34, c_34, a_36, p_36, f_36, c_36, a_38, p_38, f_38, c_38, a_40, p_40, f_40, c_40, a_44, p_44, f_44, c_44, a_46, p_46, f_46, c_46, a_48, p_48, f_48, c_48, a_50, p_50, f_50, c_50, a_53, p_53, f_53, c_53, a_55, p_55, f_55, c_55, a_57, p_57, f_57, c_57, a_59, p_59, f_59, c_59, a_61, p_61, f_61, c_61, a_63, p_63, f_63, c_63, a_65, p_65, f_65, c_65, a_67, p_67, f_67, c_67, a_69, p_69, f_69, c_69, a_71, p_71, f_71, c_71, a_73, p_73, f_73, c_73, c_1, i_1, w_1, z0_1, z1_1, c_2, i_2, w_2, z0_2, z1_2, c_4, i_4, w_4, z0_4, z1_4, c_6, i_6, w_6, z0_6, z1_6, c_13, i_13, w_13, z0_13, z1_13, c_20, i_20, w_20, z0_20, z1_20, c_27, i_27, w_27, z0_27, z1_27, c_28, i_28, w_28, z0_28, z1_28, c_29, i_29, w_29, z0_29, z1_29, c_42, i_42, w_42, z0_42, z1_42, c_43, i_43, w_43, z0_43, z1_43, c_52, i_52, w_52, z0_52, z1_52, X1_size, X1_literal, X1_numberOfStep, X1_ofFormula, X1_inAll, X1_user, X9_codeOf, X1_firstUse, X1_endOfUses, X2_open, X2_at, X2_add, X2_drop, X2_clear, X4_fuelLeft, X4_isActive, X4_isMarked, X4_mark, X4_usedCount, X4_usedAt, X4_setActive, X4_forget, X4_truthOf]
      rw [rd_73 (by omega), hgi, wr_55 (by omega), nI_1]
      exact f1
    · intro p
      rw [f4, c1 56 (by decide) (by decide) (by decide), up_at]
      by_cases e : p = q
      · rw [e, vup_s]; simp
      · rw [vup_n e]; simp [e]
    · intro j hj
      rw [f5 j hj, c2 j hj, up_ne (by decide)]
    · intro a a1 a2 a3 a4
      rw [f6 a a1 a2 a3 a4, c1 a a1 a2 a3, up_ne a4]
theorem keep_ok {v : zV} {J : Nat → Nat → Int64} (hN : N ≤ 600) {k : Nat} (hk : k ≤ N) {U : List Nat} (hUN : ∀ q ∈ U, 1 ≤ q ∧ q ≤ N) {I I' : Nat → Nat → Int32} (hU : UL I U) (hH : HR I I' N) (hO : OP I I' k) :
    ∃ I1, fX3_keepUsed 42 (nI k) (st I v J) = some (st I1 v J) ∧ HR I1 (radds k I' (U.map nI)) N ∧ OP I1 (radds k I' (U.map nI)) k ∧ (∀ q, q ≠ k → I1 49 q = I 49 q) ∧ (∀ q, I1 56 q = if q ∈ U then 1 else I 56 q) ∧ (∀ j, j ≠ 3 → I1 43 j = I 43 j) ∧ (∀ a, a ≠ 43 → a ≠ 45 → a ≠ 49 → a ≠ 56 → I1 a = I a) := by
  have hz := zfu_big
  obtain ⟨I1, f1, f2⟩ := keep_loop (v := v) (J := J) hN hk hUN U 0 zfu I I' hU (by omega) rfl (by have := hU.2.1; omega) hH hO
  refine ⟨I1, ?_, f2⟩
  rw [nI_0] at f1
  simp only [fX3_keepUsed, bnd_x, gd_0, gd_1, gd_o0, gd_o1, ite_self, rf_1_0, rf_1_1, rf_1_5, rf_1_6, rf_1_7, rf_2_0, rf_4_0, rf_6_0, rf_6_1, rf_6_2, rf_7_0, rf_9_0, rf_11_0, rf_13_0, rf_13_1, rf_13_2, rf_14_0, rf_16_0, rf_18_0, rf_20_0, rf_20_1, rf_20_2, rf_21_0, rf_23_0, rf_25_0, rf_27_0, rf_29_0, rf_29_1, rf_29_2, rf_29_3, rf_29_4, rf_29_5, rf_30_0, rf_32_0, rf_34_0, rf_36_0, rf_38_0, rf_40_0, rf_42_0, rf_42_1, rf_42_2, rf_42_3, rf_43_0, rf_43_1, rf_43_2, rf_44_0, rf_46_0, rf_48_0, rf_50_0, rf_52_0, rf_52_1, rf_52_2, rf_52_3, rf_52_4, rf_52_5, rf_52_6, rf_52_7, rf_52_8, rf_52_9, rf_52_10, rf_52_11, rf_53_0, rf_55_0, rf_57_0, rf_59_0, rf_61_0, rf_63_0, rf_65_0, rf_67_0, rf_69_0, rf_71_0, rf_73_0, a_7, p_7, f_7, c_7, a_9, p_9, f_9, c_9, a_11, p_11, f_11, c_11, a_14, p_14, f_14, c_14, a_16, p_16, f_16, c_16, a_18, p_18, f_18, c_18, a_21, p_21, f_21, c_21, a_23, p_23, f_23, c_23, a_25, p_25, f_25, c_25, a_30, p_30, f_30, c_30, a_32, p_32, f_32, c_32, a_34, p_34, f_34, c_34, a_36, p_36, f_36, c_36, a_38, p_38, f_38, c_38, a_40, p_40, f_40, c_40, a_44, p_44, f_44, c_44, a_46, p_46, f_46, c_46, a_48, p_48, f_48, c_48, a_50, p_50, f_50, c_50, a_53, p_53, f_53, c_53, a_55, p_55, f_55, c_55, a_57, p_57, f_57, c_57, a_59, p_59, f_59, c_59, a_61, p_61, f_61, c_61, a_63, p_63, f_63, c_63, a_65, p_65, f_65, c_65, a_67, p_67, f_67, c_67, a_69, p_69, f_69, c_69, a_71, p_71, f_71, c_71, a_73, p_73, f_73, c_73, c_1, i_1, w_1, z0_1, z1_1, c_2, i_2, w_2, z0_2, z1_2, c_4, i_4, w_4, z0_4, z1_4, c_6, i_6, w_6, z0_6, z1_6, c_13, i_13, w_13, z0_13, z1_13, c_20, i_20, w_20, z0_20, z1_20, c_27, i_27, w_27, z0_27, z1_27, c_28, i_28, w_28, z0_28, z1_28, c_29, i_29, w_29, z0_29, z1_29, c_42, i_42, w_42, z0_42, z1_42, c_43, i_43, w_43, z0_43, z1_43, c_52, i_52, w_52, z0_52, z1_52, X1_size, X1_literal, X1_numberOfStep, X1_ofFormula, X1_inAll, X1_user, X9_codeOf, X1_firstUse, X1_endOfUses, X2_open, X2_at, X2_add, X2_drop, X2_clear, X4_fuelLeft, X4_isActive, X4_isMarked, X4_mark, X4_usedCount, X4_usedAt, X4_setActive, X4_forget, X4_truthOf]
  rw [hU.1]
  exact f1
/-- the reasons as numbers -/
def rsn (I : Nat → Nat → Int32) (t : Nat) : Nat := (I 70 t).toNatClampNeg
theorem RN_rs (hO : OKD N sz lt) {I I' : Nat → Nat → Int32} {n c : Nat} (h : RN I I' n N sz lt) (hc : c = 0 ∨ ¬ sat (I 64) sz lt c) : (∀ t, t < n → rsn I t ≤ N ∧ isL (I 68 t) ∧ I 70 t = nI (rsn I t)) ∧ RD (rsn I) n c := by
  obtain ⟨hD, hU, hB, hA, hT, hL, hP, hS⟩ := h
  have hN := hO.1
  have h1 : ∀ t, t < n → rsn I t ≤ N ∧ isL (I 68 t) ∧ I 70 t = nI (rsn I t) := by
    intro t ht
    obtain ⟨r, r1, r2⟩ := hS.1 t ht
    have hr : r ≤ N := by rcases r2 with q | ⟨_, q, _⟩ <;> omega
    have : rsn I t = r := by unfold rsn; rw [r1, nI_clamp (by omega)]
    rw [this]
    exact ⟨hr, (hT.2.2.2.1 t ht).1, r1⟩
  refine ⟨h1, ?_, ?_⟩
  · intro t t' a b e
    have := hS.2 t t' a b (by rw [(h1 t (by omega)).2.2, (h1 t' b).2.2, e])
    unfold rsn; rw [this]; rfl
  · intro t ht h0 e
    obtain ⟨r, r1, r2⟩ := hS.1 t ht
    have hr : r ≤ N := by rcases r2 with q | ⟨_, q, _⟩ <;> omega
    have : rsn I t = r := by unfold rsn; rw [r1, nI_clamp (by omega)]
    rcases r2 with q | ⟨q1, q2, q3⟩
    · exact h0 (by omega)
    · rcases hc with c0 | c0
      · omega
      · apply c0
        rw [← e, this]
        obtain ⟨j, hj, ej⟩ := hs_i.mp q3
        exact ⟨j, hj, by rw [ej]; exact (hT.2.2.2.1 t ht).2⟩
theorem gs_c {rs : Nat → Nat} {tl tl' : Nat → Int32} : ∀ (t : Nat) (U : List Nat), (∀ q, q < t → tl' q = tl q) → gs rs tl' sz lt t U = gs rs tl sz lt t U
  | 0, _, _ => rfl
  | t + 1, U, h => by
    unfold gs
    rw [h t (by omega)]
    exact gs_c t _ (fun q hq => h q (by omega))
/-- behind a conflict -/
theorem settle {v v' : zV} {J J' : Nat → Nat → Int64} (hO : OKD N sz lt) {I I' : Nat → Nat → Int32} {n c k : Nat} (h : RN I I' n N sz lt) (h16 : I 52 16 = nI c) (hcN : c ≤ N) (hc : c = 0 ∨ ¬ sat (I 64) sz lt c) (hk : k ≤ N) (hH : HR I I' N) (hP : OP I I' k) :
    ∃ I1 I2 I3, fX4_gatherUsed 52 (st I v J) = some (st I1 v J) ∧ fX3_keepUsed 42 (nI k) (st I1 v J) = some (st I2 v J) ∧ fX10_uses 75 (nI k) (st I' v' J') = some (st I3 v' J') ∧ RN I2 I3 n N sz lt ∧ HR I2 I3 N ∧ OP I2 I3 k ∧ (∀ q, q ≠ k → I2 49 q = I 49 q) ∧ (∀ j, j ≠ 15 → I2 52 j = I 52 j) ∧ (∀ a, a ≠ 43 → a ≠ 45 → a ≠ 49 → a ≠ 52 → a ≠ 56 → a ≠ 72 → a ≠ 74 → I2 a = I a) ∧ (∀ j, j ≠ 56 → I3 75 j = I' 75 j) ∧ (∀ a, a ≠ 75 → a ≠ 92 → a ≠ 93 → a ≠ 99 → a ≠ 101 → I3 a = I' a) := by
  have hN := hO.1
  obtain ⟨e1, e2⟩ := RN_rs hO h hc
  have hRN := h
  obtain ⟨hD, hU, hB, hA, hT, hL, hPE, hS⟩ := h
  have hn : n ≤ 150 := by have := hT.2.1; omega
  have fin : ∀ (U : List Nat) (I1 I3 : Nat → Nat → Int32), fX4_gatherUsed 52 (st I v J) = some (st I1 v J) → UL I1 U → (∀ j, j ≠ 15 → I1 52 j = I 52 j) → (∀ a, a ≠ 52 → a ≠ 72 → a ≠ 74 → I1 a = I a) → (∀ q ∈ U, 1 ≤ q ∧ q ≤ N) →
      fX10_uses 75 (nI k) (st I' v' J') = some (st I3 v' J') → I3 75 = radds k I' (U.map nI) 75 → I3 99 = radds k I' (U.map nI) 99 → I3 101 = radds k I' (U.map nI) 101 → (∀ q, 1 ≤ q → q ≤ N → I3 92 q = if q ∈ U then 1 else if I' 92 q = 0 then 0 else 1) → (∀ a, a ≠ 75 → a ≠ 92 → a ≠ 93 → a ≠ 99 → a ≠ 101 → I3 a = I' a) →
      ∃ I1 I2 I3, fX4_gatherUsed 52 (st I v J) = some (st I1 v J) ∧ fX3_keepUsed 42 (nI k) (st I1 v J) = some (st I2 v J) ∧ fX10_uses 75 (nI k) (st I' v' J') = some (st I3 v' J') ∧ RN I2 I3 n N sz lt ∧ HR I2 I3 N ∧ OP I2 I3 k ∧ (∀ q, q ≠ k → I2 49 q = I 49 q) ∧ (∀ j, j ≠ 15 → I2 52 j = I 52 j) ∧ (∀ a, a ≠ 43 → a ≠ 45 → a ≠ 49 → a ≠ 52 → a ≠ 56 → a ≠ 72 → a ≠ 74 → I2 a = I a) ∧ (∀ j, j ≠ 56 → I3 75 j = I' 75 j) ∧ (∀ a, a ≠ 75 → a ≠ 92 → a ≠ 93 → a ≠ 99 → a ≠ 101 → I3 a = I' a) := by
    intro U I1 I3 g1 g2 g3 g4 g5 g6 g7 g8 g9 g10 g11
    obtain ⟨I2, k1, k2, k3, k49, k4, k5, k6⟩ := keep_ok (v := v) (J := J) hN hk g5 g2 (HR_fr hH (by rw [g4 43 (by decide) (by decide) (by decide)]) (g4 45 (by decide) (by decide) (by decide)) (g4 47 (by decide) (by decide) (by decide)) (g4 49 (by decide) (by decide) (by decide)) rfl rfl rfl rfl) (OP_fr hP (by rw [g4 43 (by decide) (by decide) (by decide)]) (g4 47 (by decide) (by decide) (by decide)) (g4 49 (by decide) (by decide) (by decide)) rfl rfl)
    obtain ⟨r1, r2⟩ := radds_fr (k := k) (U.map nI) I'
    have m52 : ∀ j, j ≠ 15 → I2 52 j = I 52 j := fun j hj => by rw [k6 52 (by decide) (by decide) (by decide) (by decide), g3 j hj]
    have mm : ∀ a, a ≠ 43 → a ≠ 45 → a ≠ 49 → a ≠ 52 → a ≠ 56 → a ≠ 72 → a ≠ 74 → I2 a = I a := fun a a1 a2 a3 a4 a5 a6 a7 => by rw [k6 a a1 a2 a3 a5, g4 a a4 a6 a7]
    have m75 : ∀ j, j ≠ 56 → I3 75 j = I' 75 j := fun j hj => by rw [g7, r2 j hj]
    refine ⟨I1, I2, I3, g1, k1, g6, ⟨?_, ?_, ?_, ?_, ?_, ?_, ?_, ?_⟩, ?_, ?_, fun q hq => by rw [k49 q hq, g4 49 (by decide) (by decide) (by decide)], m52, mm, m75, g11⟩
    · exact DBC_fr hD (mm 29 (by decide) (by decide) (by decide) (by decide) (by decide) (by decide) (by decide)) (mm 31 (by decide) (by decide) (by decide) (by decide) (by decide) (by decide) (by decide)) (mm 33 (by decide) (by decide) (by decide) (by decide) (by decide) (by decide) (by decide))
    · exact USC_fr hU (mm 37 (by decide) (by decide) (by decide) (by decide) (by decide) (by decide) (by decide)) (mm 39 (by decide) (by decide) (by decide) (by decide) (by decide) (by decide) (by decide)) (mm 41 (by decide) (by decide) (by decide) (by decide) (by decide) (by decide) (by decide))
    · exact DBR_fr hB (m75 33 (by decide)) (m75 19 (by decide)) (g11 _ (by decide) (by decide) (by decide) (by decide) (by decide)) (g11 _ (by decide) (by decide) (by decide) (by decide) (by decide)) (g11 _ (by decide) (by decide) (by decide) (by decide) (by decide)) (g11 _ (by decide) (by decide) (by decide) (by decide) (by decide)) (g11 _ (by decide) (by decide) (by decide) (by decide) (by decide)) (g11 _ (by decide) (by decide) (by decide) (by decide) (by decide)) (g11 _ (by decide) (by decide) (by decide) (by decide) (by decide))
    · intro q q1 q2
      obtain ⟨a1, a2, a3, a4⟩ := hA q q1 q2
      rw [mm 54 (by decide) (by decide) (by decide) (by decide) (by decide) (by decide) (by decide), g11 91 (by decide) (by decide) (by decide) (by decide) (by decide), g10 q q1 q2, k4 q, g4 56 (by decide) (by decide) (by decide), a2]
      refine ⟨a1, ?_, a3, ?_⟩
      · split
        · rfl
        · rcases a4 with e | e <;> rw [e] <;> rfl
      · split
        · exact Or.inr rfl
        · exact a4
    · unfold TI
      rw [m52 14 (by decide), mm 64 (by decide) (by decide) (by decide) (by decide) (by decide) (by decide) (by decide), mm 68 (by decide) (by decide) (by decide) (by decide) (by decide) (by decide) (by decide)]; exact hT
    · intro q q1 q2
      rw [mm 58 (by decide) (by decide) (by decide) (by decide) (by decide) (by decide) (by decide), mm 64 (by decide) (by decide) (by decide) (by decide) (by decide) (by decide) (by decide)]; exact hL q q1 q2
    · unfold PE
      rw [g11 96 (by decide) (by decide) (by decide) (by decide) (by decide), g11 97 (by decide) (by decide) (by decide) (by decide) (by decide), g11 98 (by decide) (by decide) (by decide) (by decide) (by decide), mm 64 (by decide) (by decide) (by decide) (by decide) (by decide) (by decide) (by decide), mm 68 (by decide) (by decide) (by decide) (by decide) (by decide) (by decide) (by decide), mm 70 (by decide) (by decide) (by decide) (by decide) (by decide) (by decide) (by decide), m75 49 (by decide), m75 38 (by decide), m75 50 (by decide), m52 17 (by decide), m52 16 (by decide)]; exact hPE
    · unfold RS
      rw [mm 68 (by decide) (by decide) (by decide) (by decide) (by decide) (by decide) (by decide), mm 70 (by decide) (by decide) (by decide) (by decide) (by decide) (by decide) (by decide)]; exact hS
    · exact HR_fr k2 rfl rfl rfl rfl (by rw [g7]) g8 (by rw [g11 100 (by decide) (by decide) (by decide) (by decide) (by decide), r1 100 (by decide) (by decide) (by decide)]) g9
    · exact OP_fr k3 rfl rfl rfl (by rw [g11 100 (by decide) (by decide) (by decide) (by decide) (by decide), r1 100 (by decide) (by decide) (by decide)]) g9
  by_cases c0 : c = 0
  · obtain ⟨I1, g1, g2, g3, g4⟩ := gather_0 (v := v) (J := J) (I := I) (by rw [h16, c0]; rfl)
    refine fin [] I1 I' g1 g2 g3 g4 (by simp) (uses_0 (by rw [hPE.2.2.2.2.1, h16, c0]; rfl) _) rfl rfl rfl ?_ (fun _ _ _ _ _ _ => rfl)
    intro q q1 q2
    obtain ⟨a1, a2, a3, a4⟩ := hA q q1 q2
    rw [a2, if_neg (by simp)]
    rcases a4 with e | e <;> rw [e] <;> rfl
  · obtain ⟨I1, g1, g2, g3, g4⟩ := gather_ok (v := v) (J := J) hO hn (rsn I) e1 hD hT.1 h16 (show 1 ≤ c by omega) hcN
    obtain ⟨hh, hh1, -, hh2, -⟩ := hH
    have u98 : ∀ t, t < n → rsn I t ≤ N ∧ I' 98 t = nI (rsn I t) := fun t ht => ⟨(e1 t ht).1, by rw [(hPE.2.2.1 t ht).2]; exact (e1 t ht).2.2⟩
    obtain ⟨I3, g5, g6, g7, g8, g9, g10⟩ := uses_ok (v := v') (J := J') hO hn (rsn I) u98 e2 hB hPE.2.1 (by rw [hPE.2.2.2.2.1]; exact h16) (show 1 ≤ c by omega) hcN ⟨hh, hh1, hh2⟩ (show k < 601 by omega)
    have hgs : gs (rsn I) (I' 97) sz lt n [c] = gs (rsn I) (I 68) sz lt n [c] := gs_c n [c] (fun q hq => (hPE.2.2.1 q hq).1)
    rw [hgs] at g6 g7 g8 g9
    exact fin _ I1 I3 g1 g2 g3 g4 (gs_mem (fun t ht => (e1 t ht).1) n [c] (Nat.le_refl _) (by simp; omega)) g5 g6 g7 g8 g9 g10
end
