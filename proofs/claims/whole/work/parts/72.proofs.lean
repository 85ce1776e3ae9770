/-! Rows are opened and closed; a proof as text: class and reference. -/
section
variable {f : Nat} {T : Nat → Int32} {L : Nat}
def RCl (I I' : Nat → Nat → Int32) (f n : Nat) (e : Nat → Nat) (w : Nat → Int32) (d : Nat → Bool) : Prop :=
  OKS n e w ∧ SHC I f n e w d ∧ SHR I' 85 86 87 n e w ∧ I' 75 26 = nI n ∧ I' 75 27 = nI (e n) ∧ (∀ i, 1 ≤ i → i ≤ n → I' 88 i = b2 (d i))
def opn (I : Nat → Nat → Int32) (n g : Nat) : Nat → Nat → Int32 := up (up (up (up (up I 75 26 (nI (n + 1))) 85 (n + 1) (nI g)) 86 (n + 1) 0) 88 (n + 1) 0) 75 29 0
theorem open_m {v : zV} {J : Nat → Nat → Int64} {I : Nat → Nat → Int32} {n g : Nat} (h26 : I 75 26 = nI n) (h27 : I 75 27 = nI g) (hn : n < 300) : fX10_beginRow 75 (st I v J) = some (st (opn I n g) v J) := by
  unfold fX10_beginRow opn
  have e26 : ∀ X : Nat → Nat → Int32, up X 75 26 (nI (n + 1)) 75 26 = nI (n + 1) := fun X => up_self ..
  have e27 : up I 75 26 (nI (n + 1)) 75 27 = nI g := by rw [up_at, vup_n (by decide)]; exact h27
  simp only [bnd_x, gd_0, gd_1, gd_o0, gd_o1, ite_self, rf_75_1, rf_75_3, rf_75_12, rf_75_13, rf_75_14, rf_75_15, rf_75_16, rf_75_17, rf_75_18, rf_75_22, rf_75_23, rf_75_24, rf_75_25, rf_75_31, rf_75_32, rf_75_41, rf_75_42, rf_75_43, rf_75_44, rf_75_45, rf_75_46, rf_75_47, rf_75_48, rf_75_53, rf_75_54, rf_75_55, rf_75_57, c_75, i_75, w_75, z0_75, z1_75, h26, nI_1, e26, e27, ua_85 (show n + 1 < 301 by omega), up_ne (show (75 : Nat) ≠ 85 by decide), up_ne (show (75 : Nat) ≠ 86 by decide), ua_86 (show n + 1 < 301 by omega), uz_88 (show n + 1 < 301 by omega) (Or.inl rfl)]
def dS (d : Nat → Bool) (n : Nat) (x : Bool) : Nat → Bool := fun i => if i = n + 1 then x else d i
def eS (e : Nat → Nat) (n g : Nat) : Nat → Nat := fun i => if i = n + 1 then g else e i
theorem opn_F {I : Nat → Nat → Int32} {n g : Nat} {x : Int32} : FMr I (up (opn I n g) 88 (n + 1) x) ∧ up (opn I n g) 88 (n + 1) x 75 29 = 0 ∧ (∀ j, j ≠ 26 → j ≠ 29 → up (opn I n g) 88 (n + 1) x 75 j = I 75 j) := by
  unfold opn
  refine ⟨⟨fun a a1 a2 a3 a4 a5 => by rw [up_ne a5, up_ne a1, up_ne a5, up_ne a3, up_ne a2, up_ne a1], fun j hj => ?_⟩, ?_, fun j j1 j2 => ?_⟩
  · rw [up_ne (by decide), up_at, vup_n (by omega), up_ne (by decide), up_ne (by decide), up_ne (by decide), up_at, vup_n (by omega)]
  · rw [up_ne (by decide), up_self]
  · rw [up_ne (by decide), up_at, vup_n j2, up_ne (by decide), up_ne (by decide), up_ne (by decide), up_at, vup_n j1]
theorem RF_open {I I' : Nat → Nat → Int32} {n : Nat} {e : Nat → Nat} {w : Nat → Int32} {d : Nat → Bool} (h : RCl I I' f n e w d) (hn : n < 300) (x : Bool) : RF I (up (opn I' n (e n)) 88 (n + 1) (b2 x)) f n e w (dS d n x) (e n) := by
  obtain ⟨h1, ⟨c1, c2, c3, c4, c5⟩, ⟨r1, r2⟩, h26, h27, h88⟩ := h
  have dn : ∀ i, i ≤ n → dS d n x i = d i := fun i hi => by unfold dS; rw [if_neg (by omega)]
  have e85 : up (opn I' n (e n)) 88 (n + 1) (b2 x) 85 = vup (I' 85) (n + 1) (nI (e n)) := by unfold opn; rw [up_ne (by decide), up_ne (by decide), up_ne (by decide), up_ne (by decide), up_at, up_ne (by decide)]
  have e86 : up (opn I' n (e n)) 88 (n + 1) (b2 x) 86 = vup (I' 86) (n + 1) 0 := by unfold opn; rw [up_ne (by decide), up_ne (by decide), up_ne (by decide), up_at, up_ne (by decide), up_ne (by decide)]
  have e87 : up (opn I' n (e n)) 88 (n + 1) (b2 x) 87 = I' 87 := by
    unfold opn; rw [up_ne (by decide), up_ne (by decide), up_ne (by decide), up_ne (by decide), up_ne (by decide), up_ne (by decide)]
  have e88 : ∀ i, i ≤ n → up (opn I' n (e n)) 88 (n + 1) (b2 x) 88 i = I' 88 i := fun i hi => by unfold opn; rw [up_at, vup_n (by omega), up_ne (by decide), up_at, vup_n (by omega), up_ne (by decide), up_ne (by decide), up_ne (by decide)]
  have hle := h1.2.2.1
  refine ⟨⟨h1, hn, Nat.le_refl _, by omega, hle, fun p q1 q2 => by omega, fun p q q1 q2 q3 => by omega⟩, ⟨c1, c2, c3, c4, fun i i1 i2 => by rw [dn i i2]; exact c5 i i1 i2⟩, ?_, ?_, ?_, ?_, ?_, ?_, ?_⟩
  · unfold opn; rw [up_ne (by decide), up_at, vup_n (by decide), up_ne (by decide), up_ne (by decide), up_ne (by decide), up_self]
  · rw [opn_F.2.2 27 (by decide) (by decide)]; exact h27
  · intro i i1 i2
    rw [e85, e86, vup_n (by omega), vup_n (by omega), e88 i i2, dn i i2]
    exact ⟨(r1 i i1 i2).1, (r1 i i1 i2).2, h88 i i1 i2⟩
  · rw [e85, vup_s]
  · rw [e86, vup_s, Nat.sub_self]; rfl
  · rw [up_self]; unfold dS; rw [if_pos rfl]
  · rw [e87]; exact r2
theorem RCl_close {I I' : Nat → Nat → Int32} {n g : Nat} {e : Nat → Nat} {w : Nat → Int32} {d : Nat → Bool} (hf : isSh f = true) (h : RF I I' f n e w d g) {x : Int32} (hx : (if x = 0 then (0 : Int32) else 1) = b2 (d (n + 1))) : RCl (shClose I f x) I' f (n + 1) (eS e n g) w d ∧ FCr I (shClose I f x) f ∧ (∀ a, a ≠ f → a ≠ f + 4 → a ≠ f + 6 → shClose I f x a = I a) := by
  obtain ⟨⟨p1, p2, p3, p4, p5, p6, p7⟩, ⟨c1, c2, c3, c4, c5⟩, r1, r2, r3, r4, r5, r6, r7⟩ := h
  obtain ⟨h0, h1, h2, h3, h5, h6, h7⟩ := sh_f hf
  have hf27 : f + 6 < 27 := by rcases isSh_i hf with q | q | q <;> omega
  have eC : shClose I f x = up (up (up I f 3 (nI (n + 1))) (f + 4) (n + 1) (nI g)) (f + 6) (n + 1) (b2 (d (n + 1))) := by
    unfold shClose
    rw [c1, c2, nI_1, hx, wr_i (r := f + 5) (by rw [h7]; omega), wr_i (r := f + 3) (by rw [h6]; omega)]
  rw [eC]
  have es : ∀ i, i ≤ n → eS e n g i = e i := fun i hi => by unfold eS; rw [if_neg (by omega)]
  have esn : eS e n g (n + 1) = g := by unfold eS; rw [if_pos rfl]
  refine ⟨⟨⟨by omega, ?_, ?_, ?_⟩, ⟨?_, ?_, ?_, ?_, ?_⟩, ⟨?_, ?_⟩, r1, ?_, ?_⟩, ?_, ?_⟩
  · rw [es 0 (by omega)]; exact p1.2.1
  · rw [esn]; exact p5
  · intro i i1 i2
    by_cases c : i = n + 1
    · subst c
      rw [esn, Nat.add_sub_cancel, es n (Nat.le_refl _)]
      exact ⟨p3, p4, p6, p7⟩
    · rw [es i (by omega), es (i - 1) (by omega)]
      exact p1.2.2.2 i i1 (by omega)
  · rw [up_ne (by omega), up_ne (by omega), up_self]
  · rw [up_ne (by omega), up_ne (by omega), up_at, vup_n (by decide), esn]; exact c2
  · intro i hi
    rw [up_ne (by omega), up_at]
    by_cases c : i = n + 1
    · rw [c, vup_s, esn]
    · rw [vup_n c, es i (by omega), up_ne (by omega)]; exact c3 i (by omega)
  · rw [esn]; intro p hp; rw [up_ne (by omega), up_ne (by omega), up_ne (by omega)]; exact c4 p hp
  · intro i i1 i2
    rw [up_at]
    by_cases c : i = n + 1
    · rw [c, vup_s]
    · rw [vup_n c, up_ne (by omega), up_ne (by omega)]; exact c5 i i1 (by omega)
  · intro i i1 i2
    by_cases c : i = n + 1
    · subst c
      rw [esn, Nat.add_sub_cancel, es n (Nat.le_refl _)]
      exact ⟨r4, r5⟩
    · rw [es i (by omega), es (i - 1) (by omega)]
      exact ⟨(r3 i i1 (by omega)).1, (r3 i i1 (by omega)).2.1⟩
  · rw [esn]; exact r7
  · rw [esn]; exact r2
  · intro i i1 i2
    by_cases c : i = n + 1
    · rw [c]; exact r6
    · exact (r3 i i1 (by omega)).2.2
  · exact ⟨fun a a1 a2 a3 a4 a5 a6 => by rw [up_ne a6, up_ne a5, up_ne a3], by rw [up_ne (by omega), up_ne (by omega), up_ne (by omega)], by rw [up_ne (by omega), up_ne (by omega), up_ne (by omega)], fun j hj => by rw [up_ne (by omega), up_ne (by omega), up_at, vup_n (by omega)]⟩
  · intro a a1 a2 a3; rw [up_ne a3, up_ne a2, up_ne a1]
theorem RCl_fr {I I' I1 I2 : Nat → Nat → Int32} {n : Nat} {e : Nat → Nat} {w : Nat → Int32} {d : Nat → Bool} (h : RCl I I' f n e w d) (a : ∀ q, f ≤ q → q ≤ f + 6 → I1 q = I q) (b1 : I2 75 26 = I' 75 26) (b2 : I2 75 27 = I' 75 27) (b : ∀ q, q ≠ 75 → I2 q = I' q) : RCl I1 I2 f n e w d := by
  obtain ⟨h1, h2, h3, h26, h27, h88⟩ := h
  exact ⟨h1, SHC_fr h2 a, SHR_fr h3 (b _ (by decide)) (b _ (by decide)) (b _ (by decide)), b1.trans h26, b2.trans h27, by rw [b 88 (by decide)]; exact h88⟩
/-- the reading of a proof is over -/
def PEND (v v' : zV) (J J' : Nat → Nat → Int64) (f : Nat) (A B : Option zS) (I I' : Nat → Nat → Int32) : Prop :=
  ∃ I1 I2 n e w d, A = some (st I1 v J) ∧ B = some (st I2 v' J') ∧ RCl I1 I2 f n e w d ∧ FK I1 I2 ∧ FCr I I1 f ∧ FMr I' I2
theorem PEND_t {v v' : zV} {J J' : Nat → Nat → Int64} {A B : Option zS} {I I' I1 I2 : Nat → Nat → Int32} (h : PEND v v' J J' f A B I1 I2) (a : FCr I I1 f) (b : FMr I' I2) : PEND v v' J J' f A B I I' := by
  obtain ⟨X, Y, n, e, w, d, h1, h2, h3, h4, h5, h6⟩ := h
  exact ⟨X, Y, n, e, w, d, h1, h2, h3, h4, FCr_t a h5, FMr_t b h6⟩
/-- at rest between rows, without a fault -/
def RST (I I' : Nat → Nat → Int32) (b : Nat) (T : Nat → Int32) (L f n : Nat) (e : Nat → Nat) (w : Nat → Int32) (d : Nat → Bool) (t pos : Nat) : Prop :=
  RCl I I' f n e w d ∧ CS I b T L ∧ RT I' T L ∧ I 27 7 = 0 ∧ I 27 8 = -1 ∧ I' 75 8 = 0 ∧ I 27 6 = nI t ∧ I' 75 28 = nI t ∧ e n ≤ t ∧ t ≤ 2000 ∧ pos ≤ L ∧ I 28 3 = nI pos ∧ I' 75 5 = nI pos
/-- a row is read and closed -/
def RWD (v v' : zV) (J J' : Nat → Nat → Int64) (b : Nat) (T : Nat → Int32) (L f n : Nat) (A : Option zS) (x : Int32) (B : Option zS) (I I' : Nat → Nat → Int32) : Prop :=
  ∃ X I1 I2 e w d, A = some (st X v J) ∧ fX7_closeRow f x (st X v J) = some (st I1 v J) ∧ B = some (st I2 v' J') ∧ FCr I I1 f ∧ FMr I' I2 ∧ RCl I1 I2 f (n + 1) e w d ∧ FK I1 I2 ∧ ((I1 27 7 ≠ 0) ∨ ∃ t pos, RST I1 I2 b T L f (n + 1) e w d t pos)
/-- from the row's reading to the closed row -/
theorem row_done {v v' : zV} {J J' : Nat → Nat → Int64} {b n : Nat} {e : Nat → Nat} {d : Nat → Bool} {A B : Option zS} {I I' : Nat → Nat → Int32} (hv : VV v b f) (hC : CS I b T L) (hR : RT I' T L) (h : REND v v' J J' f n e d L A B I I') {x : Int32} (hx : (if x = 0 then (0 : Int32) else 1) = b2 (d (n + 1))) :
    RWD v v' J J' b T L f n A x B I I' := by
  obtain ⟨v1, v2, v3, hb, hf⟩ := hv
  have hf27 : f + 6 < 27 := by rcases isSh_i hf with q | q | q <;> omega
  obtain ⟨I1, I2, w, g, h1, h2, h3, h4, h5, h6, h7⟩ := h
  obtain ⟨c1, c2, c3⟩ := RCl_close hf h3 hx
  have e27 : shClose I1 f x 27 = I1 27 := c3 27 (by omega) (by omega) (by omega)
  have e28 : shClose I1 f x 28 = I1 28 := c3 28 (by omega) (by omega) (by omega)
  have hFK : FK (shClose I1 f x) I2 := by unfold FK; rw [e27]; exact h4
  refine ⟨I1, shClose I1 f x, I2, _, w, d, h1, X7_closeRow hf x, h2, FCr_t h5 c2, h6, c1, hFK, ?_⟩
  by_cases z : I1 27 7 = 0
  · right
    obtain ⟨pos, t, q1, q2, q3, q4, q5, q6, q7⟩ := h7 z
    refine ⟨t, pos, c1, CS_fr hb hf hC (FCr_t h5 c2), RT_F hR h6, by rw [e27]; exact z, by rw [e27]; exact h4.2.1 z, by rw [← h4.1]; exact z, by rw [e27]; exact q4, q5, ?_, q7, q1, by rw [e28]; exact q2, q3⟩
    unfold eS; rw [if_pos rfl]; exact q6
  · left; rw [e27]; exact z
theorem nI_le' {a b : Nat} {x : Int32} (hx : x = nI b) (h : a ≤ b) (hb : b < 2 ^ 31) : nI a ≤ x := by rw [hx]; exact nI_le h hb
theorem RO_0 {I I' : Nat → Nat → Int32} {n t : Nat} {e : Nat → Nat} {w : Nat → Int32} {d : Nat → Bool} {x : Bool} (hf : isSh f = true) (h : RCl I I' f n e w d) (hn : n < 300) (h6 : I 27 6 = nI t) (h28 : I' 75 28 = nI t) (ht : e n ≤ t) (ht2 : t ≤ 2000) : RO (up I 27 5 0) (up (opn I' n (e n)) 88 (n + 1) (b2 x)) f n e w (dS d n x) (e n) 0 t := by
  have hf27 : f + 6 < 27 := by rcases isSh_i hf with q | q | q <;> omega
  refine ⟨RF_fr (RF_open h hn x) (up_ne (by omega)) (up_ne (by omega)) (up_ne (by omega)) (up_ne (by omega)) rfl rfl rfl rfl rfl rfl, ⟨by rw [up_self]; rfl, by rw [up_at, vup_n (by decide)]; exact h6, by rw [opn_F.2.2 28 (by decide) (by decide)]; exact h28, by rw [opn_F.2.1]; rfl⟩, by omega, by omega, ht, ht2⟩
theorem b2_if (x : Bool) : (if b2 x = 0 then (0 : Int32) else 1) = b2 x := by cases x <;> rfl
/-- a row of a proof, behind its d or from its first number -/
theorem row_of {v v' : zV} {J J' : Nat → Nat → Int64} {b bd n t pos : Nat} {e : Nat → Nat} {w : Nat → Int32} {d : Nat → Bool} {I I' : Nat → Nat → Int32} (hv : VV v b f) (hbd : bd ≤ 150) (h : RST I I' b T L f n e w d t pos) (h30 : I' 75 30 = nI bd) (hn : n < 300) (x : Bool) :
    RWD v v' J J' b T L f n (fX5_readRow 27 (nI bd) (st I v J)) (b2 x) (fX10_readRowOf 75 0 (st (up (opn I' n (e n)) 88 (n + 1) (b2 x)) v' J')) I I' := by
  have hz := zfu_big
  have hb := hv.2.2.2.1
  have hf := hv.2.2.2.2
  obtain ⟨h1, h2, h3, h4, h5, h6, h7, h8, h9, h10, h11, h12, h13⟩ := h
  obtain ⟨f1, f2, f3⟩ := opn_F (I := I') (n := n) (g := e n) (x := b2 x)
  have fI : FCr I (up I 27 5 0) f := FCr_27 hf (by decide)
  obtain ⟨m, hm⟩ : ∃ m, zfu = m + 1 := ⟨zfu - 1, by omega⟩
  have hE := row_loop (v := v) (v' := v') (J := J) (J' := J') hv hbd 40 0 m m t (up I 27 5 0) (up (opn I' n (e n)) 88 (n + 1) (b2 x)) w (e n) pos (by omega) (by omega) (by omega) (CS_fr hb hf h2 fI) (RT_F h3 f1) (RO_0 hf h1 hn h7 h8 h9 h10) (by rw [up_at, vup_n (by decide)]; exact h4) (by rw [up_at, vup_n (by decide)]; exact h5) (by rw [f3 8 (by decide) (by decide)]; exact h6) (by rw [f3 30 (by decide) (by decide)]; exact h30) (by rw [up_ne (by decide)]; exact h12) (by rw [f3 5 (by decide) (by decide)]; exact h13) h11
  rw [← hm, nI_0] at hE
  have eC : fX5_readRow 27 (nI bd) (st I v J) = fX5_readRow_7 zfu 27 (nI bd) 0 (st (up I 27 5 0) v J) := by
    unfold fX5_readRow
    simp only [bnd_x, gd_0, gd_1, gd_o0, gd_o1, ite_self, rf_1_0, rf_1_1, rf_1_5, rf_1_6, rf_1_7, rf_2_0, rf_4_0, rf_6_0, rf_6_1, rf_6_2, rf_7_0, rf_9_0, rf_11_0, rf_13_0, rf_13_1, rf_13_2, rf_14_0, rf_16_0, rf_18_0, rf_20_0, rf_20_1, rf_20_2, rf_21_0, rf_23_0, rf_25_0, rf_27_0, rf_29_0, rf_29_1, rf_29_2, rf_29_3, rf_29_4, rf_29_5, rf_30_0, rf_32_0, rf_34_0, rf_36_0, rf_38_0, rf_40_0, rf_42_0, rf_42_1, rf_42_2, rf_42_3, rf_43_0, rf_43_1, rf_43_2, rf_44_0, rf_46_0, rf_48_0, rf_50_0, rf_52_0, rf_52_1, rf_52_2, rf_52_3, rf_52_4, rf_52_5, rf_52_6, rf_52_7, rf_52_8, rf_52_9, rf_52_10, rf_52_11, rf_53_0, rf_55_0, rf_57_0, rf_59_0, rf_61_0, rf_63_0, rf_65_0, rf_67_0, rf_69_0, rf_71_0, rf_73_0, a_7, p_7, f_7, c_7, a_9, p_9, f_9, c_9, a_11, p_11, f_11, c_11, a_14, p_14, f_14, c_14, a_16, p_16, f_16, c_16, a_18, p_18, f_18, c_18, a_21, p_21, f_21, c_21, a_23, p_23, f_23, c_23, a_25, p_25, f_25, c_25, a_30, p_30, f_30, c_30, a_32, p_32, f_32, c_32, a_34, p_34, f_34, c_34, a_36, p_36, f_36, c_36, a_38, p_38, f_38, c_38, a_40, p_40, f_40, c_40, a_44, p_44, f_44, c_44, a_46, p_46, f_46, c_46, a_48, p_48, f_48, c_48, a_50, p_50, f_50, c_50, a_53, p_53, f_53, c_53, a_55, p_55, f_55, c_55, a_57, p_57, f_57, c_57, a_59, p_59, f_59, c_59, a_61, p_61, f_61, c_61, a_63, p_63, f_63, c_63, a_65, p_65, f_65, c_65, a_67, p_67, f_67, c_67, a_69, p_69, f_69, c_69, a_71, p_71, f_71, c_71, a_73, p_73, f_73, c_73, c_1, i_1, w_1, z0_1, z1_1, c_2, i_2, w_2, z0_2, z1_2, c_4, i_4, w_4, z0_4, z1_4, c_6, i_6, w_6, z0_6, z1_6, c_13, i_13, w_13, z0_13, z1_13, c_20, i_20, w_20, z0_20, z1_20, c_27, i_27, w_27, z0_27, z1_27, c_28, i_28, w_28, z0_28, z1_28, c_29, i_29, w_29, z0_29, z1_29, c_42, i_42, w_42, z0_42, z1_42, c_43, i_43, w_43, z0_43, z1_43, c_52, i_52, w_52, z0_52, z1_52, X1_size, X1_literal, X1_numberOfStep, X1_ofFormula, X1_inAll, X1_user, X9_codeOf, X1_firstUse, X1_endOfUses, X2_open, X2_at, X2_add, X2_drop, X2_clear, X4_fuelLeft, X4_isActive, X4_isMarked, X4_mark, X4_usedCount, X4_usedAt, X4_setActive, X4_forget, X4_truthOf]
  have eM : fX10_readRowOf 75 0 (st (up (opn I' n (e n)) 88 (n + 1) (b2 x)) v' J') = fX10_readRowOf_15 zfu 75 0 1 (st (up (opn I' n (e n)) 88 (n + 1) (b2 x)) v' J') := by
    unfold fX10_readRowOf
    simp only [bnd_x, gd_0, gd_1, gd_o0, gd_o1, ite_self, rf_75_1, rf_75_3, rf_75_12, rf_75_13, rf_75_14, rf_75_15, rf_75_16, rf_75_17, rf_75_18, rf_75_22, rf_75_23, rf_75_24, rf_75_25, rf_75_31, rf_75_32, rf_75_41, rf_75_42, rf_75_43, rf_75_44, rf_75_45, rf_75_46, rf_75_47, rf_75_48, rf_75_53, rf_75_54, rf_75_55, rf_75_57, c_75, i_75, w_75, z0_75, z1_75, f3 8 (by decide) (by decide), h6, if_pos, fX10_readRowOf_14]
  rw [eC, eM]
  exact row_done hv h2 h3 (REND_t hE fI f1) (by rw [b2_if]; unfold dS; rw [if_pos rfl])
/-- the same, the first token being read already by the reference -/
theorem row_of1 {v v' : zV} {J J' : Nat → Nat → Int64} {b bd n t pos : Nat} {e : Nat → Nat} {w : Nat → Int32} {d : Nat → Bool} {I M : Nat → Nat → Int32} (hv : VV v b f) (hbd : bd ≤ 150) (h1 : RCl I M f n e w d) (h2 : CS I b T L) (h3 : RT M T L) (h4 : I 27 7 = 0) (h5 : I 27 8 = -1) (h6 : M 75 8 = 0) (h7 : I 27 6 = nI t) (h8 : M 75 28 = nI t) (h9 : e n ≤ t) (h10 : t ≤ 2000) (hpos : pos < L) (hsk : sk T L pos = pos) (h12 : I 28 3 = nI pos) (m5 : M 75 5 = nI (en T L pos)) (m6 : M 75 6 = nI pos) (m7 : M 75 7 = nI (en T L pos)) (h30 : M 75 30 = nI bd) (hn : n < 300) (x : Bool) :
    RWD v v' J J' b T L f n (fX5_readRow 27 (nI bd) (st I v J)) (b2 x) (fX10_readRowOf 75 1 (st (up (opn M n (e n)) 88 (n + 1) (b2 x)) v' J')) I M := by
  have hz := zfu_big
  have hb := hv.2.2.2.1
  have hf := hv.2.2.2.2
  obtain ⟨f1, f2, f3⟩ := opn_F (I := M) (n := n) (g := e n) (x := b2 x)
  have fI : FCr I (up I 27 5 0) f := FCr_27 hf (by decide)
  obtain ⟨m, hm⟩ : ∃ m, zfu = m + 2 := ⟨zfu - 2, by omega⟩
  have eC : fX5_readRow 27 (nI bd) (st I v J) = fX5_readRow_7 zfu 27 (nI bd) 0 (st (up I 27 5 0) v J) := by
    unfold fX5_readRow
    simp only [bnd_x, gd_0, gd_1, gd_o0, gd_o1, ite_self, rf_1_0, rf_1_1, rf_1_5, rf_1_6, rf_1_7, rf_2_0, rf_4_0, rf_6_0, rf_6_1, rf_6_2, rf_7_0, rf_9_0, rf_11_0, rf_13_0, rf_13_1, rf_13_2, rf_14_0, rf_16_0, rf_18_0, rf_20_0, rf_20_1, rf_20_2, rf_21_0, rf_23_0, rf_25_0, rf_27_0, rf_29_0, rf_29_1, rf_29_2, rf_29_3, rf_29_4, rf_29_5, rf_30_0, rf_32_0, rf_34_0, rf_36_0, rf_38_0, rf_40_0, rf_42_0, rf_42_1, rf_42_2, rf_42_3, rf_43_0, rf_43_1, rf_43_2, rf_44_0, rf_46_0, rf_48_0, rf_50_0, rf_52_0, rf_52_1, rf_52_2, rf_52_3, rf_52_4, rf_52_5, rf_52_6, rf_52_7, rf_52_8, rf_52_9, rf_52_10, rf_52_11, rf_53_0, rf_55_0, rf_57_0, rf_59_0, rf_61_0, rf_63_0, rf_65_0, rf_67_0, rf_69_0, rf_71_0, rf_73_0, a_7, p_7, f_7, c_7, a_9, p_9, f_9, c_9, a_11, p_11, f_11, c_11, a_14, p_14, f_14, c_14, a_16, p_16, f_16, c_16, a_18, p_18, f_18, c_18, a_21, p_21, f_21, c_21, a_23, p_23, f_23, c_23, a_25, p_25, f_25, c_25, a_30, p_30, f_30, c_30, a_32, p_32, f_32, c_32, a_34, p_34, f_34, c_34, a_36, p_36, f_36, c_36, a_38, p_38, f_38, c_38, a_40, p_40, f_40, c_40, a_44, p_44, f_44, c_44, a_46, p_46, f_46, c_46, a_48, p_48, f_48, c_48, a_50, p_50, f_50, c_50, a_53, p_53, f_53, c_53, a_55, p_55, f_55, c_55, a_57, p_57, f_57, c_57, a_59, p_59, f_59, c_59, a_61, p_61, f_61, c_61, a_63, p_63, f_63, c_63, a_65, p_65, f_65, c_65, a_67, p_67, f_67, c_67, a_69, p_69, f_69, c_69, a_71, p_71, f_71, c_71, a_73, p_73, f_73, c_73, c_1, i_1, w_1, z0_1, z1_1, c_2, i_2, w_2, z0_2, z1_2, c_4, i_4, w_4, z0_4, z1_4, c_6, i_6, w_6, z0_6, z1_6, c_13, i_13, w_13, z0_13, z1_13, c_20, i_20, w_20, z0_20, z1_20, c_27, i_27, w_27, z0_27, z1_27, c_28, i_28, w_28, z0_28, z1_28, c_29, i_29, w_29, z0_29, z1_29, c_42, i_42, w_42, z0_42, z1_42, c_43, i_43, w_43, z0_43, z1_43, c_52, i_52, w_52, z0_52, z1_52, X1_size, X1_literal, X1_numberOfStep, X1_ofFormula, X1_inAll, X1_user, X9_codeOf, X1_firstUse, X1_endOfUses, X2_open, X2_at, X2_add, X2_drop, X2_clear, X4_fuelLeft, X4_isActive, X4_isMarked, X4_mark, X4_usedCount, X4_usedAt, X4_setActive, X4_forget, X4_truthOf]
  have eM : fX10_readRowOf 75 1 (st (up (opn M n (e n)) 88 (n + 1) (b2 x)) v' J') = fX10_readRowOf_27 (fX10_readRowOf_15 (m + 1)) 75 (st (up (opn M n (e n)) 88 (n + 1) (b2 x)) v' J') := by
    unfold fX10_readRowOf
    simp only [bnd_x, gd_0, gd_1, gd_o0, gd_o1, ite_self, rf_75_1, rf_75_3, rf_75_12, rf_75_13, rf_75_14, rf_75_15, rf_75_16, rf_75_17, rf_75_18, rf_75_22, rf_75_23, rf_75_24, rf_75_25, rf_75_31, rf_75_32, rf_75_41, rf_75_42, rf_75_43, rf_75_44, rf_75_45, rf_75_46, rf_75_47, rf_75_48, rf_75_53, rf_75_54, rf_75_55, rf_75_57, c_75, i_75, w_75, z0_75, z1_75, f3 8 (by decide) (by decide), h6, if_pos, fX10_readRowOf_14, hm]
    conv => lhs; unfold fX10_readRowOf_15
    rw [if_neg (by decide), if_neg (by decide)]
  rw [eC, eM]
  refine row_done (e := e) (d := dS d n x) hv h2 h3 ?_ (by rw [b2_if]; unfold dS; rw [if_pos rfl])
  have hs := tok_step (v := v) (v' := v') (J := J) (J' := J') (I' := M) (m := m) (m' := m) (pos := pos) hv (CS_fr hb hf h2 fI) (RT_F h3 f1) (RO_0 hf h1 hn h7 h8 h9 h10) (by rw [up_at, vup_n (by decide)]; exact h4) (by rw [up_at, vup_n (by decide)]; exact h5) hbd (by rw [f3 30 (by decide) (by decide)]; exact h30) (by rw [up_ne (by decide)]; exact h12) (by omega) f1 (by rw [f3 6 (by decide) (by decide), hsk]; exact m6) (by rw [f3 5 (by decide) (by decide), hsk]; exact m5) (by rw [f3 7 (by decide) (by decide), hsk]; exact m7) (Or.inl ⟨by rw [hsk]; exact hpos, by rw [f3 8 (by decide) (by decide)]; exact h6⟩)
  rw [nI_0, ← hm] at hs
  rcases hs with q | ⟨I1, I2, w', g', q1, q2, q3, q4, q5, q6, q7, q8, q9, q10, q11⟩
  · exact REND_t q fI (FMr_r _)
  · rw [q1, q2]
    rw [hsk] at q10 q11
    obtain ⟨m2, hm2⟩ : ∃ m2, m = m2 + 1 := ⟨m - 1, by omega⟩
    exact REND_t (row_loop (v := v) (v' := v') (J := J) (J' := J') hv hbd 39 1 m m (t + 1) I1 I2 w' g' _ (by omega) (by omega) (by omega) (CS_fr hb hf h2 (FCr_t fI q8)) (RT_F h3 q9) q3 q4 q5 q6 q7 q10 q11 (en_le (by omega))) (FCr_t fI q8) q9
end
