/-! Class and reference propagate alike. -/
section
variable {N : Nat} {sz : Nat → Nat} {lt : Nat → Nat → Int32}
def PE (I I' : Nat → Nat → Int32) (n : Nat) : Prop :=
  (∀ x, 1 ≤ x → x ≤ 150 → I' 96 x = I 64 x) ∧ I' 75 49 = nI n ∧ (∀ t, t < n → I' 97 t = I 68 t ∧ I' 98 t = I 70 t) ∧ I' 75 38 = I 52 17 ∧ I' 75 50 = I 52 16 ∧ ∃ f, f < 2 ^ 30 ∧ I 52 17 = nI f
def AM (I I' : Nat → Nat → Int32) (N : Nat) : Prop := ∀ k, 1 ≤ k → k ≤ N → I' 91 k = I 54 k ∧ I' 92 k = I 56 k ∧ (I 54 k = 0 ∨ I 54 k = 1) ∧ (I 56 k = 0 ∨ I 56 k = 1)
def RS (I : Nat → Nat → Int32) (n N : Nat) (sz : Nat → Nat) (lt : Nat → Nat → Int32) : Prop :=
  (∀ t, t < n → ∃ r, I 70 t = nI r ∧ (r = 0 ∨ (1 ≤ r ∧ r ≤ N ∧ hs sz lt r (I 68 t) = true))) ∧ (∀ t t', t < t' → t' < n → I 70 t = I 70 t' → I 70 t = 0)
def RN (I I' : Nat → Nat → Int32) (n N : Nat) (sz : Nat → Nat) (lt : Nat → Nat → Int32) : Prop :=
  DBC I N sz lt ∧ USC I N sz lt ∧ DBR I' N sz lt ∧ AM I I' N ∧ TI I n ∧ LI I N sz lt ∧ PE I I' n ∧ RS I n N sz lt
def Fr (I I1 : Nat → Nat → Int32) : Prop := (∀ a, a ≠ 52 → a ≠ 58 → a ≠ 62 → a ≠ 64 → a ≠ 68 → a ≠ 70 → I1 a = I a) ∧ (∀ j, j ≠ 14 → j ≠ 16 → j ≠ 17 → I1 52 j = I 52 j)
def FrM (I I1 : Nat → Nat → Int32) : Prop := (∀ a, a ≠ 75 → a ≠ 96 → a ≠ 97 → a ≠ 98 → I1 a = I a) ∧ (∀ j, j ≠ 38 → j ≠ 49 → j ≠ 50 → j ≠ 51 → j ≠ 52 → I1 75 j = I 75 j)
theorem Fr_r (I : Nat → Nat → Int32) : Fr I I := ⟨fun _ _ _ _ _ _ _ => rfl, fun _ _ _ _ => rfl⟩
theorem FrM_r (I : Nat → Nat → Int32) : FrM I I := ⟨fun _ _ _ _ _ => rfl, fun _ _ _ _ _ _ => rfl⟩
theorem Fr_t {I I1 I2 : Nat → Nat → Int32} (h : Fr I I1) (h' : Fr I1 I2) : Fr I I2 :=
  ⟨fun a a1 a2 a3 a4 a5 a6 => by rw [h'.1 a a1 a2 a3 a4 a5 a6, h.1 a a1 a2 a3 a4 a5 a6], fun j j1 j2 j3 => by rw [h'.2 j j1 j2 j3, h.2 j j1 j2 j3]⟩
theorem FrM_t {I I1 I2 : Nat → Nat → Int32} (h : FrM I I1) (h' : FrM I1 I2) : FrM I I2 :=
  ⟨fun a a1 a2 a3 a4 => by rw [h'.1 a a1 a2 a3 a4, h.1 a a1 a2 a3 a4], fun j j1 j2 j3 j4 j5 => by rw [h'.2 j j1 j2 j3 j4 j5, h.2 j j1 j2 j3 j4 j5]⟩
theorem Fr_DBC {I I1 : Nat → Nat → Int32} (f : Fr I I1) (h : DBC I N sz lt) : DBC I1 N sz lt := DBC_fr h (f.1 29 (by decide) (by decide) (by decide) (by decide) (by decide) (by decide)) (f.1 31 (by decide) (by decide) (by decide) (by decide) (by decide) (by decide)) (f.1 33 (by decide) (by decide) (by decide) (by decide) (by decide) (by decide))
theorem Fr_USC {I I1 : Nat → Nat → Int32} (f : Fr I I1) (h : USC I N sz lt) : USC I1 N sz lt := USC_fr h (f.1 37 (by decide) (by decide) (by decide) (by decide) (by decide) (by decide)) (f.1 39 (by decide) (by decide) (by decide) (by decide) (by decide) (by decide)) (f.1 41 (by decide) (by decide) (by decide) (by decide) (by decide) (by decide))
theorem FrM_DBR {I I1 : Nat → Nat → Int32} (f : FrM I I1) (h : DBR I N sz lt) : DBR I1 N sz lt := by
  have g : ∀ a, a ≠ 75 → a ≠ 96 → a ≠ 97 → a ≠ 98 → I1 a = I a := f.1
  exact DBR_fr h (f.2 33 (by decide) (by decide) (by decide) (by decide) (by decide)) (f.2 19 (by decide) (by decide) (by decide) (by decide) (by decide)) (g 78 (by decide) (by decide) (by decide) (by decide)) (g 79 (by decide) (by decide) (by decide) (by decide)) (g 80 (by decide) (by decide) (by decide) (by decide)) (g 81 (by decide) (by decide) (by decide) (by decide)) (g 82 (by decide) (by decide) (by decide) (by decide)) (g 83 (by decide) (by decide) (by decide) (by decide)) (g 89 (by decide) (by decide) (by decide) (by decide))
theorem Fr_AM {I I1 I' I2 : Nat → Nat → Int32} (f : Fr I I1) (g : FrM I' I2) (h : AM I I' N) : AM I1 I2 N := by
  intro k k1 k2
  rw [f.1 54 (by decide) (by decide) (by decide) (by decide) (by decide) (by decide), f.1 56 (by decide) (by decide) (by decide) (by decide) (by decide) (by decide), g.1 91 (by decide) (by decide) (by decide) (by decide), g.1 92 (by decide) (by decide) (by decide) (by decide)]
  exact h k k1 k2
theorem tv_c {V V' : Nat → Int32} (h : ∀ x, 1 ≤ x → x ≤ 150 → V' x = V x) {l : Int32} (hl : isL l) : tv V' l = tv V l := by
  have := L_av hl
  unfold tv
  rw [h _ (by omega) (by omega)]
theorem sat_c (hO : OKD N sz lt) {V V' : Nat → Int32} (h : ∀ x, 1 ≤ x → x ≤ 150 → V' x = V x) {k : Nat} (k1 : 1 ≤ k) (k2 : k ≤ N) : sat V' sz lt k ↔ sat V sz lt k := by
  have hl := (hO.2 k k1 k2).2.1
  constructor
  · rintro ⟨j, hj, e⟩; exact ⟨j, hj, by rw [← tv_c h (hl j hj)]; exact e⟩
  · rintro ⟨j, hj, e⟩; exact ⟨j, hj, by rw [tv_c h (hl j hj)]; exact e⟩
theorem lf_c (hO : OKD N sz lt) {V V' : Nat → Int32} (h : ∀ x, 1 ≤ x → x ≤ 150 → V' x = V x) {k : Nat} (k1 : 1 ≤ k) (k2 : k ≤ N) : lf V' sz lt k = lf V sz lt k := by
  have hl := (hO.2 k k1 k2).2.1
  unfold lf
  apply cn_congr
  intro i hi
  show (!(tv V' (lt k i) == -1)) = (!(tv V (lt k i) == -1))
  rw [tv_c h (hl i hi)]
theorem vv_c {V V' : Nat → Int32} (h : ∀ x, 1 ≤ x → x ≤ 150 → V' x = V x) (hv : vv V) : vv V' := by
  intro x x1 x2
  rw [h x x1 x2]; exact hv x x1 x2
theorem PP_c (hO : OKD N sz lt) {I I' : Nat → Nat → Int32} {n : Nat} (hP : PE I I' n) (hA : AM I I' N) {k : Nat} (k1 : 1 ≤ k) (k2 : k ≤ N) : PP I' sz lt k ↔ (I 54 k ≠ 0 ∧ ¬ sat (I 64) sz lt k ∧ lf (I 64) sz lt k ≤ 1) := by
  unfold PP
  rw [(hA k k1 k2).1, sat_c hO hP.1 k1 k2, lf_c hO hP.1 k1 k2]
theorem rk_c {I I' : Nat → Nat → Int32} (hA : AM I I' N) {k : Nat} (k1 : 1 ≤ k) (k2 : k ≤ N) : rk I' k = rank I k := by
  unfold rk rank
  rw [(hA k k1 k2).2.1]
/-- one literal becomes true in both -/
theorem step_ok {v v' : zV} {J J' : Nat → Nat → Int64} (hO : OKD N sz lt) {I I' : Nat → Nat → Int32} {n f r x : Nat} (h : RN I I' n N sz lt) (hR : RIx I N sz lt x) {l : Int32} (hx : x = 0 ∨ hs sz lt x l = true) (hl : isL l) (h0 : tv (I 64) l = 0) (hf : I 52 17 = nI (f + 1)) (hf2 : f < 2 ^ 30) (hr : r = 0 ∨ (1 ≤ r ∧ r ≤ N ∧ hs sz lt r l = true ∧ ¬ sat (I 64) sz lt r)) :
    ∃ I1, fX4_makeTrue 52 l (nI r) (st I v J) = some (1, st I1 v J) ∧ fX10_becomes 75 l (nI r) (st I' v' J') = some (st (mb I' n f l (nI r)) v' J') ∧ RN I1 (mb I' n f l (nI r)) (n + 1) N sz lt ∧ RI I1 N sz lt ∧ Fr I I1 ∧ FrM I' (mb I' n f l (nI r)) ∧ I1 52 16 = I 52 16 ∧ mb I' n f l (nI r) 75 51 = I' 75 51 ∧ mb I' n f l (nI r) 75 52 = I' 75 52 ∧ (∀ k, 1 ≤ k → k ≤ N → (rb I1 (rank I1 k) = true ∨ 2 ≤ lf (I1 64) sz lt k) → (rb I (rank I k) = true ∨ 2 ≤ lf (I 64) sz lt k)) := by
  obtain ⟨hD, hU, hB, hA, hT, hL, hP, hS⟩ := h
  obtain ⟨I1, m1, m2, m3, m4, m5, m6, m7, m8, m9⟩ := makeTrue_ok (v := v) (J := J) hO hU hT hL hR (r := nI r) hx hl h0 hf hf2
  have hn := TI_lt hT hl h0
  have hN := hO.1
  have fr : Fr I I1 := ⟨m9, fun j j1 j2 j3 => by rw [m5, vup_n j1, vup_n j3]⟩
  have e96 : mb I' n f l (nI r) 96 = vup (I' 96) (av l) (sg l) := by unfold mb; rw [up_ne (by decide), up_ne (by decide), up_ne (by decide), up_at, up_ne (by decide)]
  have e97 : mb I' n f l (nI r) 97 = vup (I' 97) n l := by unfold mb; rw [up_ne (by decide), up_ne (by decide), up_at, up_ne (by decide), up_ne (by decide)]
  have e98 : mb I' n f l (nI r) 98 = vup (I' 98) n (nI r) := by unfold mb; rw [up_ne (by decide), up_at, up_ne (by decide), up_ne (by decide), up_ne (by decide)]
  have e75 : mb I' n f l (nI r) 75 = vup (vup (I' 75) 38 (nI f)) 49 (nI (n + 1)) := by unfold mb; rw [up_at, up_ne (by decide), up_ne (by decide), up_ne (by decide), up_at]
  have frm : FrM I' (mb I' n f l (nI r)) := by
    refine ⟨fun a a1 a2 a3 a4 => by unfold mb; rw [up_ne a1, up_ne a4, up_ne a3, up_ne a2, up_ne a1], fun j j1 j2 j3 j4 j5 => ?_⟩
    rw [e75, vup_n j2, vup_n j1]
  refine ⟨I1, m1, becomes_ok hl (by rw [hP.2.2.2.1]; exact hf) hf2 hP.2.1 (by omega), ⟨Fr_DBC fr hD, Fr_USC fr hU, FrM_DBR frm hB, Fr_AM fr frm hA, TI_up hT hl h0 m2 m3 (by rw [m5, vup_s]), m6, ⟨?_, ?_, ?_, ?_, ?_, ?_⟩, ⟨?_, ?_⟩⟩, m7, fr, frm, ?_, ?_, ?_, m8⟩
  · intro x x1 x2
    rw [e96, m2]
    unfold vup
    split
    · rfl
    · exact hP.1 x x1 x2
  · rw [e75, vup_s]
  · intro t ht
    rw [e97, e98, m3, m4]
    by_cases q : t = n
    · subst q; simp only [vup_s, and_self]
    · simp only [vup_n q]; exact hP.2.2.1 t (by omega)
  · rw [e75, m5, vup_n (by decide), vup_s, vup_n (by decide), vup_s]
  · rw [e75, m5, vup_n (by decide), vup_n (by decide), vup_n (by decide), vup_n (by decide)]
    exact hP.2.2.2.2.1
  · exact ⟨f, hf2, by rw [m5, vup_n (by decide), vup_s]⟩
  · intro t ht
    rw [m3, m4]
    by_cases q : t = n
    · subst q; rw [vup_s, vup_s]
      refine ⟨r, rfl, ?_⟩
      rcases hr with h | ⟨h1, h2, h3, -⟩
      · exact Or.inl h
      · exact Or.inr ⟨h1, h2, h3⟩
    · rw [vup_n q, vup_n q]; exact hS.1 t (by omega)
  · intro t t' h1 h2
    rw [m4]
    by_cases q : t' = n
    · subst q
      rw [vup_s, vup_n (by omega)]
      intro e
      obtain ⟨s, s1, s2⟩ := hS.1 t h1
      rcases s2 with s2 | ⟨s2, s3, s4⟩
      · rw [s1, s2]; rfl
      · exfalso
        rcases hr with h | ⟨h1', h2', h3', h4'⟩
        · rw [s1, h] at e
          have := (nI_eq (by omega) (by omega)).mp e
          omega
        · rw [s1] at e
          have := (nI_eq (by omega) (by omega)).mp e
          subst this
          obtain ⟨j, hj, ej⟩ := hs_i.mp s4
          exact h4' ⟨j, hj, by rw [ej]; exact (hT.2.2.2.1 t h1).2⟩
    · rw [vup_n q, vup_n (by omega)]; exact hS.2 t t' h1 (by omega)
  · rw [m5, vup_n (by decide), vup_n (by decide)]
  · rw [e75, vup_n (by decide), vup_n (by decide)]
  · rw [e75, vup_n (by decide), vup_n (by decide)]
def pot (I : Nat → Nat → Int32) (N : Nat) (sz : Nat → Nat) (lt : Nat → Nat → Int32) : Nat := cn (fun i => rb I (rank I (i + 1)) || decide (2 ≤ lf (I 64) sz lt (i + 1))) N
def RES (I1 I2 : Nat → Nat → Int32) (N : Nat) (sz : Nat → Nat) (lt : Nat → Nat → Int32) (r : Nat) : Prop :=
  (r = 0 ∧ I2 75 51 = 0 ∧ I2 75 52 = 0 ∧ I1 52 16 = 0) ∨ (r = 1 ∧ I2 75 51 = 1 ∧ I2 75 52 = 0 ∧ ∃ c, I1 52 16 = nI c ∧ c ≤ N ∧ (c = 0 ∨ ¬ sat (I1 64) sz lt c)) ∨ (r = 2 ∧ I2 75 51 = 0 ∧ I2 75 52 = 1)
theorem rank_back (I : Nat → Nat → Int32) {k : Nat} (h : k ≤ 600) : (if rank I k < 608 then rank I k else rank I k - 608) = k := by
  unfold rank
  split
  · rw [if_neg (by omega)]; omega
  · rw [if_pos (by omega)]
theorem turn_ok {v v' : zV} {J J' : Nat → Nat → Int64} (hO : OKD N sz lt) {i n : Nat} (hi : i ≤ 600) {I I' : Nat → Nat → Int32} (h : RN I I' n N sz lt) (hR : RI I N sz lt) (h51 : I' 75 51 = 0) (h52 : I' 75 52 = 0) (h16 : I 52 16 = 0) :
    (∃ I1 I2 n1 r, (∀ m, fX4_run_54 (m + 1) 52 (nI i) (st I v J) = some (nI r, st I1 v J)) ∧ (∀ m, fX10_propagate_0 (m + 1 + 1) 75 (st I' v' J') = some (st I2 v' J')) ∧ RN I1 I2 n1 N sz lt ∧ Fr I I1 ∧ FrM I' I2 ∧ RES I1 I2 N sz lt r) ∨
    (∃ I1 I2 n1, (∀ m, fX4_run_54 (m + 1) 52 (nI i) (st I v J) = fX4_run_54 m 52 (nI (i + 1)) (st I1 v J)) ∧ (I2 = I' ∨ ∀ m, fX10_propagate_0 (m + 1) 75 (st I' v' J') = fX10_propagate_0 m 75 (st I2 v' J')) ∧ RN I1 I2 n1 N sz lt ∧ RI I1 N sz lt ∧ Fr I I1 ∧ FrM I' I2 ∧ I2 75 51 = 0 ∧ I2 75 52 = 0 ∧ I1 52 16 = 0 ∧ pot I1 N sz lt < pot I N sz lt) := by
  have hN := hO.1
  obtain ⟨hD, hU, hB, hA, hT, hL, hP, hS⟩ := h
  have hlt : ¬ (600 : Int32) < nI i := nI_nlt (a := 600) (b := i) hi (by decide)
  have hV' : vv (I' 96) := vv_c hP.1 hT.2.2.1
  obtain ⟨k0, q1, q2⟩ := first_ok (v := v') (J := J') hO hB hV' (fun k k1 k2 => by rw [(hA k k1 k2).2.1]; exact (hA k k1 k2).2.2.2)
  have hm0 : ∀ m, fX10_propagate_0 (m + 1) 75 (st I' v' J') = if nI k0 = 0 then some (st I' v' J') else bnd (fX10_unit 75 (nI k0) (st I' v' J')) fun q10 => if q10.1 = 0 then bnd (wZ q10.2 10 75 51 1) fun s16 => bnd (wI s16 10 75 50 (nI k0)) fun s19 => fX10_propagate_0 m 75 s19 else bnd (cl q10.2 10 75 (fX10_becomes 75 q10.1 (nI k0) q10.2)) fun q13 => fX10_propagate_0 m 75 q13 := by
    intro m
    conv => lhs; unfold fX10_propagate_0
    simp only [fX10_propagate_53, bnd_x, gd_0, gd_1, gd_o0, gd_o1, ite_self, rf_75_1, rf_75_3, rf_75_12, rf_75_13, rf_75_14, rf_75_15, rf_75_16, rf_75_17, rf_75_18, rf_75_22, rf_75_23, rf_75_24, rf_75_25, rf_75_31, rf_75_32, rf_75_41, rf_75_42, rf_75_43, rf_75_44, rf_75_45, rf_75_46, rf_75_47, rf_75_48, rf_75_53, rf_75_54, rf_75_55, rf_75_57, c_75, i_75, w_75, z0_75, z1_75, h51, h52, if_pos rfl, q1]
    rfl
  rcases takeFirst_ok (I := I) (v := v) (J := J) with ⟨z1, z2⟩ | ⟨r, I1, r1, r2, r3, r4, r5, r6⟩
  · left
    have hk0 : k0 = 0 := by
      rcases q2 with ⟨h, -⟩ | ⟨k1, k2, k3, -⟩
      · exact h
      · exfalso
        obtain ⟨p1, p2, p3⟩ := (PP_c hO hP hA k1 k2).mp k3
        have := hR.2 k0 k1 k2 (by omega) p1 p3 p2
        rw [z1 _ (rank_lt (by omega))] at this
        exact Bool.noConfusion this
    refine ⟨I, I', n, 0, ?_, ?_, ⟨hD, hU, hB, hA, hT, hL, hP, hS⟩, Fr_r I, FrM_r I', Or.inl ⟨rfl, h51, h52, h16⟩⟩
    · intro m
      unfold fX4_run_54
      simp only [if_neg hlt, z2, bnd_x, gd_0, gd_1, gd_o0, gd_o1, ite_self, rf_1_0, rf_1_1, rf_1_5, rf_1_6, rf_1_7, rf_2_0, rf_4_0, rf_6_0, rf_6_1, rf_6_2, rf_7_0, rf_9_0, rf_11_0, rf_13_0, rf_13_1, rf_13_2, rf_14_0, rf_16_0, rf_18_0, rf_20_0, rf_20_1, rf_20_2, rf_21_0, rf_23_0, rf_25_0, rf_27_0, rf_29_0, rf_29_1, rf_29_2, rf_29_3, rf_29_4, rf_29_5, rf_30_0, rf_32_0, rf_34_0, rf_36_0, rf_38_0, rf_40_0, rf_42_0, rf_42_1, rf_42_2, rf_42_3, rf_43_0, rf_43_1, rf_43_2, rf_44_0, rf_46_0, rf_48_0, rf_50_0, rf_52_0, rf_52_1, rf_52_2, rf_52_3, rf_52_4, rf_52_5, rf_52_6, rf_52_7, rf_52_8, rf_52_9, rf_52_10, rf_52_11, rf_53_0, rf_55_0, rf_57_0, rf_59_0, rf_61_0, rf_63_0, rf_65_0, rf_67_0, rf_69_0, rf_71_0, rf_73_0, a_7, p_7, f_7, c_7, a_9, p_9, f_9, c_9, a_11, p_11, f_11, c_11, a_14, p_14, f_14, c_14, a_16, p_16, f_16, c_16, a_18, p_18, f_18, c_18, a_21, p_21, f_21, c_21, a_23, p_23, f_23, c_23, a_25, p_25, f_25, c_25, a_30, p_30, f_30, c_30, a_32, p_32, f_32, c_32, a_34, p_34, f_34, c_34, a_36, p_36, f_36, c_36, a_38, p_38, f_38, c_38, a_40, p_40, f_40, c_40, a_44, p_44, f_44, c_44, a_46, p_46, f_46, c_46, a_48, p_48, f_48, c_48, a_50, p_50, f_50, c_50, a_53, p_53, f_53, c_53, a_55, p_55, f_55, c_55, a_57, p_57, f_57, c_57, a_59, p_59, f_59, c_59, a_61, p_61, f_61, c_61, a_63, p_63, f_63, c_63, a_65, p_65, f_65, c_65, a_67, p_67, f_67, c_67, a_69, p_69, f_69, c_69, a_71, p_71, f_71, c_71, a_73, p_73, f_73, c_73, c_1, i_1, w_1, z0_1, z1_1, c_2, i_2, w_2, z0_2, z1_2, c_4, i_4, w_4, z0_4, z1_4, c_6, i_6, w_6, z0_6, z1_6, c_13, i_13, w_13, z0_13, z1_13, c_20, i_20, w_20, z0_20, z1_20, c_27, i_27, w_27, z0_27, z1_27, c_28, i_28, w_28, z0_28, z1_28, c_29, i_29, w_29, z0_29, z1_29, c_42, i_42, w_42, z0_42, z1_42, c_43, i_43, w_43, z0_43, z1_43, c_52, i_52, w_52, z0_52, z1_52, X1_size, X1_literal, X1_numberOfStep, X1_ofFormula, X1_inAll, X1_user, X9_codeOf, X1_firstUse, X1_endOfUses, X2_open, X2_at, X2_add, X2_drop, X2_clear, X4_fuelLeft, X4_isActive, X4_isMarked, X4_mark, X4_usedCount, X4_usedAt, X4_setActive, X4_forget, X4_truthOf]
      rfl
    · intro m
      rw [hm0, hk0, nI_0, if_pos rfl]
  · obtain ⟨k, k1, k2, k3, k4, k5⟩ := hR.1 r r1 r2
    have hkv : (if r < 608 then r else r - 608) = k := by rw [k3]; exact rank_back I (by omega)
    rw [hkv] at r4
    have hk0' : ¬ nI k = 0 := nI_ne0 (by omega) (by omega)
    have e64 : I1 64 = I 64 := r6 64 (by decide)
    have hV : vv (I1 64) := by rw [e64]; exact hT.2.2.1
    have hD1 : DBC I1 N sz lt := DBC_fr hD (r6 29 (by decide)) (r6 31 (by decide)) (r6 33 (by decide))
    have hU1 : USC I1 N sz lt := USC_fr hU (r6 37 (by decide)) (r6 39 (by decide)) (r6 41 (by decide))
    have e52 : I1 52 = I 52 := r6 52 (by decide)
    have hT1 : TI I1 n := by
      unfold TI
      rw [e52, e64, r6 68 (by decide)]; exact hT
    have hL1 : LI I1 N sz lt := by
      intro q q1 q2
      rw [r6 58 (by decide), e64]; exact hL q q1 q2
    have hA1 : AM I1 I' N := by
      intro q q1 q2
      rw [r6 54 (by decide), r6 56 (by decide)]; exact hA q q1 q2
    have hP1 : PE I1 I' n := by
      unfold PE
      rw [e52, e64, r6 68 (by decide), r6 70 (by decide)]; exact hP
    have hS1 : RS I1 n N sz lt := by
      unfold RS
      rw [r6 68 (by decide), r6 70 (by decide)]; exact hS
    have hRN1 : RN I1 I' n N sz lt := ⟨hD1, hU1, hB, hA1, hT1, hL1, hP1, hS1⟩
    have hf1 : Fr I I1 := ⟨fun a a1 a2 a3 a4 a5 a6 => r6 a a3, fun j _ _ _ => by rw [e52]⟩
    have hrk : ∀ q, rank I1 q = rank I q := rank_fr (r6 56 (by decide))
    have hR1 : RIx I1 N sz lt k := by
      refine ⟨?_, ?_⟩
      · intro q q1 q2
        rw [r5 q q1] at q2
        obtain ⟨a, a1, a2, a3, a4, a5⟩ := hR.1 q q1 q2.1
        exact ⟨a, a1, a2, by rw [hrk]; exact a3, by rw [r6 54 (by decide)]; exact a4, by rw [e64]; exact a5⟩
      · intro q q1 q2 qk q3 q4 q5
        rw [r6 54 (by decide)] at q3
        rw [e64] at q4 q5
        rw [hrk, r5 _ (rank_lt (by omega))]
        refine ⟨hR.2 q q1 q2 (by omega) q3 q4 q5, ?_⟩
        rw [k3]
        intro c
        exact qk (rank_inj (by omega) (by omega) c)
    have hpot : pot I N sz lt = pot I1 N sz lt + 1 := by
      unfold pot
      apply cn_one (i0 := k - 1) (by omega)
      · show (rb I (rank I (k - 1 + 1)) || decide (2 ≤ lf (I 64) sz lt (k - 1 + 1))) = true
        rw [show k - 1 + 1 = k by omega, ← k3, r2]; rfl
      · show (rb I1 (rank I1 (k - 1 + 1)) || decide (2 ≤ lf (I1 64) sz lt (k - 1 + 1))) = false
        rw [show k - 1 + 1 = k by omega, hrk, ← k3, e64]
        have : rb I1 r = false := by
          cases hh : rb I1 r with
          | false => rfl
          | true => exact absurd rfl (((r5 r r1).mp hh).2)
        rw [this]
        have : ¬ 2 ≤ lf (I 64) sz lt k := by omega
        simp [this]
      · intro q q1 q2
        show (rb I (rank I (q + 1)) || decide (2 ≤ lf (I 64) sz lt (q + 1))) = (rb I1 (rank I1 (q + 1)) || decide (2 ≤ lf (I1 64) sz lt (q + 1)))
        rw [hrk, e64]
        have hne : rank I (q + 1) ≠ r := by
          rw [k3]
          intro c
          have := rank_inj (by omega) (by omega) c
          omega
        have : rb I1 (rank I (q + 1)) = rb I (rank I (q + 1)) := by
          have h5 := r5 (rank I (q + 1)) (rank_lt (by omega))
          cases hh : rb I (rank I (q + 1)) with
          | true => exact h5.mpr ⟨hh, hne⟩
          | false =>
            cases hh2 : rb I1 (rank I (q + 1)) with
            | false => rfl
            | true => rw [(h5.mp hh2).1] at hh; exact Bool.noConfusion hh
        rw [this]
    obtain ⟨s, s1, s2⟩ := sat_ok (v := v) (J := J) hO hD1 hV k1 k2
    rw [e64] at s2
    rcases s2 with ⟨s2, s3⟩ | ⟨s2, s3⟩
    · -- not satisfied
      have hk : k0 = k := by
        have hpp : PP I' sz lt k := (PP_c hO hP hA k1 k2).mpr ⟨k4, s3, k5⟩
        rcases q2 with ⟨-, h⟩ | ⟨b1, b2, b3, b4⟩
        · exact absurd hpp (h k k1 k2)
        · have h1 := b4 k k1 k2 hpp
          rw [rk_c hA b1 b2, rk_c hA k1 k2] at h1
          obtain ⟨p1, p2, p3⟩ := (PP_c hO hP hA b1 b2).mp b3
          have h2 := hR.2 k0 b1 b2 (by omega) p1 p3 p2
          have h3 : r ≤ rank I k0 := Classical.byContradiction fun c => by
            have := r3 (rank I k0) (by omega)
            rw [h2] at this
            exact Bool.noConfusion this
          exact rank_inj (by omega) (by omega) (by omega : rank I k0 = rank I k)
      subst hk
      obtain ⟨u, u1, u2⟩ := unit_ok (v := v') (J := J') hO hB hV' k1 k2
      obtain ⟨o, o1, o2⟩ := open_ok (v := v) (J := J) hO hD1 k1 k2
      rw [e64] at o2
      have hns' : ¬ sat (I' 96) sz lt k0 := by rw [sat_c hO hP.1 k1 k2]; exact s3
      have hlf' : lf (I' 96) sz lt k0 = lf (I 64) sz lt k0 := lf_c hO hP.1 k1 k2
      obtain ⟨h40, hlit, hnd⟩ := hO.2 k0 k1 k2
      have huo : u = o := by
        rcases o2 with ⟨o2, o3⟩ | ⟨j, j1, j2, j3⟩
        · have l0 : lf (I 64) sz lt k0 = 0 := by
            unfold lf
            apply cn_zero
            intro j hj
            show (!(tv (I 64) (lt k0 j) == -1)) = false
            rcases tv_v hT.2.2.1 (hlit j hj) with c | c | c
            · exact absurd c (o3 j hj)
            · exact absurd ⟨j, hj, c⟩ s3
            · rw [c]; rfl
          rcases u2 with ⟨-, c⟩ | ⟨-, -, c⟩ | ⟨-, c, -⟩
          · rcases c with c | c
            · exact absurd c hns'
            · omega
          · rw [c, o2]
          · omega
        · have l1 : 0 < lf (I 64) sz lt k0 := by
            unfold lf
            apply cn_pos j1
            show (!(tv (I 64) (lt k0 j) == -1)) = true
            rw [j3]; rfl
          rcases u2 with ⟨-, c⟩ | ⟨-, c, -⟩ | ⟨-, -, i2, c1, c2, c3⟩
          · rcases c with c | c
            · exact absurd c hns'
            · omega
          · omega
          · rw [c2, j2]
            rw [tv_c hP.1 (hlit i2 c1)] at c3
            have : ∀ a b, a < b → b < sz k0 → tv (I 64) (lt k0 a) = 0 → tv (I 64) (lt k0 b) = 0 → False := by
              intro a b hab hb ha0 hb0
              have : 2 ≤ lf (I 64) sz lt k0 := by
                unfold lf
                apply cn_two hab hb
                · show (!(tv (I 64) (lt k0 a) == -1)) = true
                  rw [ha0]; rfl
                · show (!(tv (I 64) (lt k0 b) == -1)) = true
                  rw [hb0]; rfl
              omega
            rcases Nat.lt_trichotomy i2 j with c | c | c
            · exact absurd (this i2 j c j1 c3 j3) (by simp)
            · rw [c]
            · exact absurd (this j i2 c c1 j3 c3) (by simp)
      subst huo
      have hrun : ∀ m, fX4_run_54 (m + 1) 52 (nI i) (st I v J) = if u = 0 then some (1, st (up I1 52 16 (nI k0)) v J) else bnd (fX4_makeTrue 52 u (nI k0) (st I1 v J)) fun q13 => if q13.1 = 0 then some (2, q13.2) else fX4_run_54 m 52 (nI (i + 1)) q13.2 := by
        intro m
        conv => lhs; unfold fX4_run_54
        simp only [if_neg hlt, r4, bnd_x, gd_0, gd_1, gd_o0, gd_o1, ite_self, rf_1_0, rf_1_1, rf_1_5, rf_1_6, rf_1_7, rf_2_0, rf_4_0, rf_6_0, rf_6_1, rf_6_2, rf_7_0, rf_9_0, rf_11_0, rf_13_0, rf_13_1, rf_13_2, rf_14_0, rf_16_0, rf_18_0, rf_20_0, rf_20_1, rf_20_2, rf_21_0, rf_23_0, rf_25_0, rf_27_0, rf_29_0, rf_29_1, rf_29_2, rf_29_3, rf_29_4, rf_29_5, rf_30_0, rf_32_0, rf_34_0, rf_36_0, rf_38_0, rf_40_0, rf_42_0, rf_42_1, rf_42_2, rf_42_3, rf_43_0, rf_43_1, rf_43_2, rf_44_0, rf_46_0, rf_48_0, rf_50_0, rf_52_0, rf_52_1, rf_52_2, rf_52_3, rf_52_4, rf_52_5, rf_52_6, rf_52_7, rf_52_8, rf_52_9, rf_52_10, rf_52_11, rf_53_0, rf_55_0, rf_57_0, rf_59_0, rf_61_0, rf_63_0, rf_65_0, rf_67_0, rf_69_0, rf_71_0, rf_73_0, a_7, p_7, f_7, c_7, a_9, p_9, f_9, c_9, a_11, p_11, f_11, c_11, a_14, p_14, f_14, c_14, a_16, p_16, f_16, c_16, a_18, p_18, f_18, c_18, a_21, p_21, f_21, c_21, a_23, p_23, f_23, c_23, a_25, p_25, f_25, c_25, a_30, p_30, f_30, c_30, a_32, p_32, f_32, c_32, a_34, p_34, f_34, c_34, a_36, p_36, f_36, c_36, a_38, p_38, f_38, c_38, a_40, p_40, f_40, c_40, a_44, p_44, f_44, c_44, a_46, p_46, f_46, c_46, a_48, p_48, f_48, c_48, a_50, p_50, f_50, c_50, a_53, p_53, f_53, c_53, a_55, p_55, f_55, c_55, a_57, p_57, f_57, c_57, a_59, p_59, f_59, c_59, a_61, p_61, f_61, c_61, a_63, p_63, f_63, c_63, a_65, p_65, f_65, c_65, a_67, p_67, f_67, c_67, a_69, p_69, f_69, c_69, a_71, p_71, f_71, c_71, a_73, p_73, f_73, c_73, c_1, i_1, w_1, z0_1, z1_1, c_2, i_2, w_2, z0_2, z1_2, c_4, i_4, w_4, z0_4, z1_4, c_6, i_6, w_6, z0_6, z1_6, c_13, i_13, w_13, z0_13, z1_13, c_20, i_20, w_20, z0_20, z1_20, c_27, i_27, w_27, z0_27, z1_27, c_28, i_28, w_28, z0_28, z1_28, c_29, i_29, w_29, z0_29, z1_29, c_42, i_42, w_42, z0_42, z1_42, c_43, i_43, w_43, z0_43, z1_43, c_52, i_52, w_52, z0_52, z1_52, X1_size, X1_literal, X1_numberOfStep, X1_ofFormula, X1_inAll, X1_user, X9_codeOf, X1_firstUse, X1_endOfUses, X2_open, X2_at, X2_add, X2_drop, X2_clear, X4_fuelLeft, X4_isActive, X4_isMarked, X4_mark, X4_usedCount, X4_usedAt, X4_setActive, X4_forget, X4_truthOf, fX4_run_108, if_neg hk0', s1, s2, if_pos, o1, nI_1]
      have hprop : ∀ m, fX10_propagate_0 (m + 1) 75 (st I' v' J') = if u = 0 then fX10_propagate_0 m 75 (st (up (up I' 75 51 1) 75 50 (nI k0)) v' J') else bnd (fX10_becomes 75 u (nI k0) (st I' v' J')) fun q13 => fX10_propagate_0 m 75 q13 := by
        intro m
        rw [hm0, if_neg hk0', u1]
        simp only [bnd_x, gd_0, gd_1, gd_o0, gd_o1, ite_self, rf_75_1, rf_75_3, rf_75_12, rf_75_13, rf_75_14, rf_75_15, rf_75_16, rf_75_17, rf_75_18, rf_75_22, rf_75_23, rf_75_24, rf_75_25, rf_75_31, rf_75_32, rf_75_41, rf_75_42, rf_75_43, rf_75_44, rf_75_45, rf_75_46, rf_75_47, rf_75_48, rf_75_53, rf_75_54, rf_75_55, rf_75_57, c_75, i_75, w_75, z0_75, z1_75]
      by_cases hu0 : u = 0
      · left
        refine ⟨up I1 52 16 (nI k0), up (up I' 75 51 1) 75 50 (nI k0), n, 1, ?_, ?_, ?_, ?_, ?_, ?_⟩
        · intro m; rw [hrun, if_pos hu0]; rfl
        · intro m
          rw [hprop, if_pos hu0]
          unfold fX10_propagate_0
          simp only [bnd_x, gd_0, gd_1, gd_o0, gd_o1, ite_self, rf_75_1, rf_75_3, rf_75_12, rf_75_13, rf_75_14, rf_75_15, rf_75_16, rf_75_17, rf_75_18, rf_75_22, rf_75_23, rf_75_24, rf_75_25, rf_75_31, rf_75_32, rf_75_41, rf_75_42, rf_75_43, rf_75_44, rf_75_45, rf_75_46, rf_75_47, rf_75_48, rf_75_53, rf_75_54, rf_75_55, rf_75_57, c_75, i_75, w_75, z0_75, z1_75]
          rw [show up (up I' 75 51 1) 75 50 (nI k0) 75 52 = I' 75 52 by simp [up], h52, if_pos rfl, show up (up I' 75 51 1) 75 50 (nI k0) 75 51 = 1 by simp [up], if_neg (by decide)]
        · have g1 : Fr I1 (up I1 52 16 (nI k0)) := ⟨fun a a1 _ _ _ _ _ => up_ne a1, fun j _ j2 _ => by rw [up_at, vup_n j2]⟩
          have g2 : FrM I' (up (up I' 75 51 1) 75 50 (nI k0)) := ⟨fun a a1 _ _ _ => by rw [up_ne a1, up_ne a1], fun j _ _ j3 j4 _ => by rw [up_at, vup_n j3, up_at, vup_n j4]⟩
          refine ⟨Fr_DBC g1 hD1, Fr_USC g1 hU1, FrM_DBR g2 hB, Fr_AM g1 g2 hA1, ?_, ?_, ?_, ?_⟩
          · unfold TI
            rw [show up I1 52 16 (nI k0) 52 14 = I1 52 14 by simp [up], up_ne (show (64 : Nat) ≠ 52 by decide), up_ne (show (68 : Nat) ≠ 52 by decide)]
            exact hT1
          · intro q q1 q2
            rw [up_ne (show (58 : Nat) ≠ 52 by decide), up_ne (show (64 : Nat) ≠ 52 by decide)]
            exact hL1 q q1 q2
          · refine ⟨?_, ?_, ?_, ?_, ?_, ?_⟩
            · rw [up_ne (show (96 : Nat) ≠ 75 by decide), up_ne (show (96 : Nat) ≠ 75 by decide), up_ne (show (64 : Nat) ≠ 52 by decide)]
              exact hP1.1
            · rw [show up (up I' 75 51 1) 75 50 (nI k0) 75 49 = I' 75 49 by simp [up]]; exact hP1.2.1
            · rw [up_ne (show (97 : Nat) ≠ 75 by decide), up_ne (show (97 : Nat) ≠ 75 by decide), up_ne (show (98 : Nat) ≠ 75 by decide), up_ne (show (98 : Nat) ≠ 75 by decide), up_ne (show (68 : Nat) ≠ 52 by decide), up_ne (show (70 : Nat) ≠ 52 by decide)]
              exact hP1.2.2.1
            · rw [show up (up I' 75 51 1) 75 50 (nI k0) 75 38 = I' 75 38 by simp [up], show up I1 52 16 (nI k0) 52 17 = I1 52 17 by simp [up]]; exact hP1.2.2.2.1
            · rw [up_self, up_self]
            · rw [show up I1 52 16 (nI k0) 52 17 = I1 52 17 by simp [up]]; exact hP1.2.2.2.2.2
          · unfold RS
            rw [up_ne (show (68 : Nat) ≠ 52 by decide), up_ne (show (70 : Nat) ≠ 52 by decide)]; exact hS1
        · exact Fr_t hf1 ⟨fun a a1 _ _ _ _ _ => up_ne a1, fun j _ j2 _ => by rw [up_at, vup_n j2]⟩
        · exact ⟨fun a a1 _ _ _ => by rw [up_ne a1, up_ne a1], fun j _ _ j3 j4 _ => by rw [up_at, vup_n j3, up_at, vup_n j4]⟩
        · refine Or.inr (Or.inl ⟨rfl, by simp [up], by rw [← h52]; simp [up], k0, up_self .., k2, Or.inr ?_⟩)
          rw [up_ne (show (64 : Nat) ≠ 52 by decide), e64]; exact s3
      · obtain ⟨j, j1, j2, j3⟩ : ∃ j, j < sz k0 ∧ u = lt k0 j ∧ tv (I 64) (lt k0 j) = 0 := by
          rcases o2 with ⟨o2, -⟩ | h
          · exact absurd o2 hu0
          · exact h
        have hul : isL u := by rw [j2]; exact hlit j j1
        have hut : tv (I1 64) u = 0 := by rw [e64, j2]; exact j3
        have hhs : hs sz lt k0 u = true := hs_i.mpr ⟨j, j1, j2.symm⟩
        obtain ⟨f, ff1, ff2⟩ := hP1.2.2.2.2.2
        cases f with
        | zero =>
          left
          refine ⟨I1, up I' 75 52 1, n, 2, ?_, ?_, ?_, hf1, ?_, ?_⟩
          · intro m
            rw [hrun, if_neg hu0, makeTrue_out ff2]
            simp only [bnd_x]
            rfl
          · intro m
            rw [hprop, if_neg hu0, becomes_out (by rw [hP1.2.2.2.1]; exact ff2)]
            simp only [bnd_x]
            unfold fX10_propagate_0
            simp only [bnd_x, gd_0, gd_1, gd_o0, gd_o1, ite_self, rf_75_1, rf_75_3, rf_75_12, rf_75_13, rf_75_14, rf_75_15, rf_75_16, rf_75_17, rf_75_18, rf_75_22, rf_75_23, rf_75_24, rf_75_25, rf_75_31, rf_75_32, rf_75_41, rf_75_42, rf_75_43, rf_75_44, rf_75_45, rf_75_46, rf_75_47, rf_75_48, rf_75_53, rf_75_54, rf_75_55, rf_75_57, c_75, i_75, w_75, z0_75, z1_75]
            rw [up_self, if_neg (by decide)]
          · have g2 : FrM I' (up I' 75 52 1) := ⟨fun a a1 _ _ _ => up_ne a1, fun j _ _ _ _ j5 => by rw [up_at, vup_n j5]⟩
            refine ⟨hD1, hU1, FrM_DBR g2 hB, Fr_AM (Fr_r I1) g2 hA1, hT1, hL1, ⟨?_, ?_, ?_, ?_, ?_, ?_⟩, hS1⟩
            · rw [up_ne (show (96 : Nat) ≠ 75 by decide)]; exact hP1.1
            · rw [show up I' 75 52 1 75 49 = I' 75 49 by simp [up]]; exact hP1.2.1
            · rw [up_ne (show (97 : Nat) ≠ 75 by decide), up_ne (show (98 : Nat) ≠ 75 by decide)]; exact hP1.2.2.1
            · rw [show up I' 75 52 1 75 38 = I' 75 38 by simp [up]]; exact hP1.2.2.2.1
            · rw [show up I' 75 52 1 75 50 = I' 75 50 by simp [up]]; exact hP1.2.2.2.2.1
            · exact hP1.2.2.2.2.2
          · exact ⟨fun a a1 _ _ _ => up_ne a1, fun j _ _ _ _ j5 => by rw [up_at, vup_n j5]⟩
          · exact Or.inr (Or.inr ⟨rfl, by rw [← h51]; simp [up], up_self ..⟩)
        | succ f =>
          right
          obtain ⟨I3, t1, t2, t3, t4, t5, t6, t7, t8, t9, t10⟩ := step_ok (v := v) (v' := v') (J := J) (J' := J') hO hRN1 hR1 (r := k0) (Or.inr hhs) hul hut ff2 (by omega) (Or.inr ⟨k1, k2, hhs, by rw [e64]; exact s3⟩)
          refine ⟨I3, _, n + 1, ?_, Or.inr ?_, t3, t4, Fr_t hf1 t5, t6, by rw [t8]; exact h51, by rw [t9]; exact h52, by rw [t7, e52]; exact h16, ?_⟩
          · intro m
            rw [hrun, if_neg hu0, t1]
            simp only [bnd_x]
            rfl
          · intro m
            rw [hprop, if_neg hu0, t2]
            simp only [bnd_x]
          · have : pot I3 N sz lt ≤ pot I1 N sz lt := by
              unfold pot
              apply cn_mono
              intro q hq hh
              have h1 : rb I3 (rank I3 (q + 1)) = true ∨ 2 ≤ lf (I3 64) sz lt (q + 1) := by simpa using hh
              have h2 := t10 (q + 1) (by omega) (by omega) h1
              show (rb I1 (rank I1 (q + 1)) || decide (2 ≤ lf (I1 64) sz lt (q + 1))) = true
              simpa using h2
            omega
    · -- satisfied: only the bit goes
      right
      refine ⟨I1, I', n, ?_, Or.inl rfl, hRN1, ⟨hR1.1, ?_⟩, hf1, FrM_r I', h51, h52, by rw [e52]; exact h16, by omega⟩
      · intro m
        conv => lhs; unfold fX4_run_54
        simp only [if_neg hlt, r4, bnd_x, gd_0, gd_1, gd_o0, gd_o1, ite_self, rf_1_0, rf_1_1, rf_1_5, rf_1_6, rf_1_7, rf_2_0, rf_4_0, rf_6_0, rf_6_1, rf_6_2, rf_7_0, rf_9_0, rf_11_0, rf_13_0, rf_13_1, rf_13_2, rf_14_0, rf_16_0, rf_18_0, rf_20_0, rf_20_1, rf_20_2, rf_21_0, rf_23_0, rf_25_0, rf_27_0, rf_29_0, rf_29_1, rf_29_2, rf_29_3, rf_29_4, rf_29_5, rf_30_0, rf_32_0, rf_34_0, rf_36_0, rf_38_0, rf_40_0, rf_42_0, rf_42_1, rf_42_2, rf_42_3, rf_43_0, rf_43_1, rf_43_2, rf_44_0, rf_46_0, rf_48_0, rf_50_0, rf_52_0, rf_52_1, rf_52_2, rf_52_3, rf_52_4, rf_52_5, rf_52_6, rf_52_7, rf_52_8, rf_52_9, rf_52_10, rf_52_11, rf_53_0, rf_55_0, rf_57_0, rf_59_0, rf_61_0, rf_63_0, rf_65_0, rf_67_0, rf_69_0, rf_71_0, rf_73_0, a_7, p_7, f_7, c_7, a_9, p_9, f_9, c_9, a_11, p_11, f_11, c_11, a_14, p_14, f_14, c_14, a_16, p_16, f_16, c_16, a_18, p_18, f_18, c_18, a_21, p_21, f_21, c_21, a_23, p_23, f_23, c_23, a_25, p_25, f_25, c_25, a_30, p_30, f_30, c_30, a_32, p_32, f_32, c_32, a_34, p_34, f_34, c_34, a_36, p_36, f_36, c_36, a_38, p_38, f_38, c_38, a_40, p_40, f_40, c_40, a_44, p_44, f_44, c_44, a_46, p_46, f_46, c_46, a_48, p_48, f_48, c_48, a_50, p_50, f_50, c_50, a_53, p_53, f_53, c_53, a_55, p_55, f_55, c_55, a_57, p_57, f_57, c_57, a_59, p_59, f_59, c_59, a_61, p_61, f_61, c_61, a_63, p_63, f_63, c_63, a_65, p_65, f_65, c_65, a_67, p_67, f_67, c_67, a_69, p_69, f_69, c_69, a_71, p_71, f_71, c_71, a_73, p_73, f_73, c_73, c_1, i_1, w_1, z0_1, z1_1, c_2, i_2, w_2, z0_2, z1_2, c_4, i_4, w_4, z0_4, z1_4, c_6, i_6, w_6, z0_6, z1_6, c_13, i_13, w_13, z0_13, z1_13, c_20, i_20, w_20, z0_20, z1_20, c_27, i_27, w_27, z0_27, z1_27, c_28, i_28, w_28, z0_28, z1_28, c_29, i_29, w_29, z0_29, z1_29, c_42, i_42, w_42, z0_42, z1_42, c_43, i_43, w_43, z0_43, z1_43, c_52, i_52, w_52, z0_52, z1_52, X1_size, X1_literal, X1_numberOfStep, X1_ofFormula, X1_inAll, X1_user, X9_codeOf, X1_firstUse, X1_endOfUses, X2_open, X2_at, X2_add, X2_drop, X2_clear, X4_fuelLeft, X4_isActive, X4_isMarked, X4_mark, X4_usedCount, X4_usedAt, X4_setActive, X4_forget, X4_truthOf, fX4_run_108, if_neg hk0', s1, s2, nI_1]
        rfl
      · intro q q1 q2 _ q3 q4 q5
        by_cases e : q = k
        · subst e
          rw [e64] at q5
          exact absurd s3 q5
        · exact hR1.2 q q1 q2 e q3 q4 q5
theorem run_lock (hO : OKD N sz lt) : ∀ (d i m m' n : Nat) (I I' : Nat → Nat → Int32) (v v' : zV) (J J' : Nat → Nat → Int64), RN I I' n N sz lt → RI I N sz lt → I' 75 51 = 0 → I' 75 52 = 0 → I 52 16 = 0 → pot I N sz lt ≤ d → i + d ≤ 600 → d < m → d + 2 ≤ m' →
    ∃ I1 I2 n1 r, fX4_run_54 m 52 (nI i) (st I v J) = some (nI r, st I1 v J) ∧ fX10_propagate_0 m' 75 (st I' v' J') = some (st I2 v' J') ∧ RN I1 I2 n1 N sz lt ∧ Fr I I1 ∧ FrM I' I2 ∧ RES I1 I2 N sz lt r := by
  intro d
  induction d with
  | zero =>
    intro i m m' n I I' v v' J J' hRN hRI h51 h52 h16 hp hi hm hm'
    obtain ⟨m, rfl⟩ : ∃ q, m = q + 1 := ⟨m - 1, by omega⟩
    obtain ⟨m', rfl⟩ : ∃ q, m' = q + 1 + 1 := ⟨m' - 2, by omega⟩
    rcases turn_ok (v := v) (v' := v') (J := J) (J' := J') hO (show i ≤ 600 by omega) hRN hRI h51 h52 h16 with ⟨I1, I2, n1, r, a, b, c⟩ | ⟨I1, I2, n1, -, -, -, -, -, -, -, -, -, c⟩
    · exact ⟨I1, I2, n1, r, a m, b m', c⟩
    · omega
  | succ d ih =>
    intro i m m' n I I' v v' J J' hRN hRI h51 h52 h16 hp hi hm hm'
    obtain ⟨m, rfl⟩ : ∃ q, m = q + 1 := ⟨m - 1, by omega⟩
    obtain ⟨m', rfl⟩ : ∃ q, m' = q + 1 + 1 := ⟨m' - 2, by omega⟩
    rcases turn_ok (v := v) (v' := v') (J := J) (J' := J') hO (show i ≤ 600 by omega) hRN hRI h51 h52 h16 with ⟨I1, I2, n1, r, a, b, c⟩ | ⟨I1, I2, n1, a, b, c1, c2, c3, c4, c5, c6, c7, c8⟩
    · exact ⟨I1, I2, n1, r, a m, b m', c⟩
    · rcases b with b | b
      · obtain ⟨I3, I4, n2, r, g1, g2, g3, g4, g5, g6⟩ := ih (i + 1) m (m' + 1 + 1) n1 I1 I2 v v' J J' c1 c2 c5 c6 c7 (by omega) (by omega) (by omega) (by omega)
        exact ⟨I3, I4, n2, r, by rw [a, g1], by rw [← b]; exact g2, g3, Fr_t c3 g4, FrM_t c4 g5, g6⟩
      · obtain ⟨I3, I4, n2, r, g1, g2, g3, g4, g5, g6⟩ := ih (i + 1) m (m' + 1) n1 I1 I2 v v' J J' c1 c2 c5 c6 c7 (by omega) (by omega) (by omega) (by omega)
        exact ⟨I3, I4, n2, r, by rw [a, g1], by rw [b, g2], g3, Fr_t c3 g4, FrM_t c4 g5, g6⟩
end
