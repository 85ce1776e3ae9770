/-! The reference's unit, first. -/
def UR (V : Nat → Int32) (sz : Nat → Nat) (lt : Nat → Nat → Int32) (k : Nat) (r : Int32) : Prop :=
  (r = -1000 ∧ (sat V sz lt k ∨ 2 ≤ lf V sz lt k)) ∨ (¬ sat V sz lt k ∧ lf V sz lt k = 0 ∧ r = 0) ∨ (¬ sat V sz lt k ∧ lf V sz lt k = 1 ∧ ∃ j, j < sz k ∧ r = lt k j ∧ tv V (lt k j) = 0)
section
variable {v : zV} {J : Nat → Nat → Int64} {N : Nat} {sz : Nat → Nat} {lt : Nat → Nat → Int32} {I : Nat → Nat → Int32}
theorem unit_loop (hO : OKD N sz lt) (hR : DBR I N sz lt) (hV : vv (I 96)) {k : Nat} (k1 : 1 ≤ k) (k2 : k ≤ N) : ∀ (d j n : Nat) (l : Int32), j + d = sz k → d < n → (∀ i, i < j → tv (I 96) (lt k i) ≠ 1) →
    ((cn (fun i => tv (I 96) (lt k i) == 0) j = 0 ∧ l = 0) ∨ ∃ i, i < j ∧ l = lt k i ∧ tv (I 96) (lt k i) = 0) →
    ∃ r, fX10_unit_7 n 75 (nI k) (nI (cn (fun i => tv (I 96) (lt k i) == 0) j)) l (nI j) (st I v J) = some (r, st I v J) ∧ UR (I 96) sz lt k r := by
  obtain ⟨h40, hlit, -⟩ := hO.2 k k1 k2
  intro d
  induction d with
  | zero =>
    intro j n l hj hn hx hl
    obtain ⟨n, rfl⟩ : ∃ m, n = m + 1 := ⟨n - 1, by omega⟩
    have ej : j = sz k := by omega
    subst ej
    have hns : ¬ sat (I 96) sz lt k := by
      rintro ⟨i, hi, e⟩
      exact hx i (by omega) e
    have hlf : lf (I 96) sz lt k = cn (fun i => tv (I 96) (lt k i) == 0) (sz k) := by
      unfold lf
      apply cn_congr
      intro i hi
      show (!(tv (I 96) (lt k i) == -1)) = (tv (I 96) (lt k i) == 0)
      rcases tv_v hV (hlit i hi) with q | q | q
      · rw [q]; rfl
      · exact absurd q (hx i hi)
      · rw [q]; rfl
    have hle : lf (I 96) sz lt k ≤ sz k := lf_le
    unfold fX10_unit_7
    simp only [long_ok hO.1 hR k1 k2, bnd_x, gd_0, gd_1, gd_o0, gd_o1, ite_self, rf_75_1, rf_75_3, rf_75_12, rf_75_13, rf_75_14, rf_75_15, rf_75_16, rf_75_17, rf_75_18, rf_75_22, rf_75_23, rf_75_24, rf_75_25, rf_75_31, rf_75_32, rf_75_41, rf_75_42, rf_75_43, rf_75_44, rf_75_45, rf_75_46, rf_75_47, rf_75_48, rf_75_53, rf_75_54, rf_75_55, rf_75_57, c_75, i_75, w_75, z0_75, z1_75, if_pos (nI_le (Nat.le_refl (sz k)) (show sz k < 2 ^ 31 by omega))]
    rw [← hlf] at hl ⊢
    by_cases q : lf (I 96) sz lt k ≤ 1
    · have c1 : nI (lf (I 96) sz lt k) ≤ 1 := nI_le (b := 1) q (by decide)
      rw [if_pos c1]
      refine ⟨l, rfl, ?_⟩
      rcases hl with ⟨h1, h2⟩ | ⟨i, hi, e1, e2⟩
      · exact Or.inr (Or.inl ⟨hns, h1, h2⟩)
      · refine Or.inr (Or.inr ⟨hns, ?_, i, hi, e1, e2⟩)
        have : 0 < cn (fun i => tv (I 96) (lt k i) == 0) (sz k) := cn_pos hi (by simpa using e2)
        omega
    · have c1 : ¬ nI (lf (I 96) sz lt k) ≤ 1 := nI_ge (a := 1) (b := lf (I 96) sz lt k) (by omega) (by omega)
      rw [if_neg c1]
      exact ⟨-1000, rfl, Or.inl ⟨rfl, Or.inr (by omega)⟩⟩
  | succ d ih =>
    intro j n l hj hn hx hl
    obtain ⟨n, rfl⟩ : ∃ m, n = m + 1 := ⟨n - 1, by omega⟩
    have hlj := hlit j (by omega)
    unfold fX10_unit_7
    simp only [long_ok hO.1 hR k1 k2, bnd_x, gd_0, gd_1, gd_o0, gd_o1, ite_self, rf_75_1, rf_75_3, rf_75_12, rf_75_13, rf_75_14, rf_75_15, rf_75_16, rf_75_17, rf_75_18, rf_75_22, rf_75_23, rf_75_24, rf_75_25, rf_75_31, rf_75_32, rf_75_41, rf_75_42, rf_75_43, rf_75_44, rf_75_45, rf_75_46, rf_75_47, rf_75_48, rf_75_53, rf_75_54, rf_75_55, rf_75_57, c_75, i_75, w_75, z0_75, z1_75, if_neg (nI_ge (show j < sz k by omega) (show sz k < 2 ^ 31 by omega)), lit_ok hO.1 hR k1 k2 (show j < sz k by omega), value_ok hlj, fX10_unit_56]
    by_cases e : tv (I 96) (lt k j) = 1
    · rw [if_pos e]
      exact ⟨-1000, rfl, Or.inl ⟨rfl, Or.inl ⟨j, by omega, e⟩⟩⟩
    · rw [if_neg e]
      have hx' : ∀ i, i < j + 1 → tv (I 96) (lt k i) ≠ 1 := fun i hi => by
        by_cases q : i = j
        · rw [q]; exact e
        · exact hx i (by omega)
      by_cases e0 : tv (I 96) (lt k j) = 0
      · have hc : cn (fun i => tv (I 96) (lt k i) == 0) (j + 1) = cn (fun i => tv (I 96) (lt k i) == 0) j + 1 := by
          conv => lhs; unfold cn
          rw [if_pos (by simpa using e0)]
        rw [if_pos e0, nI_1, nI_1, ← hc]
        exact ih (j + 1) n (lt k j) (by omega) (by omega) hx' (Or.inr ⟨j, by omega, rfl, e0⟩)
      · have hc : cn (fun i => tv (I 96) (lt k i) == 0) (j + 1) = cn (fun i => tv (I 96) (lt k i) == 0) j := by
          conv => lhs; unfold cn
          rw [if_neg (by simpa using e0)]; rfl
        rw [if_neg e0, nI_1, ← hc]
        refine ih (j + 1) n l (by omega) (by omega) hx' ?_
        rw [hc]
        rcases hl with h | ⟨i, hi, h⟩
        · exact Or.inl h
        · exact Or.inr ⟨i, by omega, h⟩
theorem unit_ok (hO : OKD N sz lt) (hR : DBR I N sz lt) (hV : vv (I 96)) {k : Nat} (k1 : 1 ≤ k) (k2 : k ≤ N) :
    ∃ r, fX10_unit 75 (nI k) (st I v J) = some (r, st I v J) ∧ UR (I 96) sz lt k r := by
  have h40 := (hO.2 k k1 k2).1
  have hz := zfu_big
  have q := unit_loop (v := v) (J := J) hO hR hV k1 k2 (sz k) 0 zfu 0 (by omega) (by omega) (fun i hi => by omega) (Or.inl ⟨rfl, rfl⟩)
  rw [show cn (fun i => tv (I 96) (lt k i) == 0) 0 = 0 from rfl, nI_0] at q
  unfold fX10_unit
  exact q
/-- ready to propagate, as the reference sees it -/
def PP (I : Nat → Nat → Int32) (sz : Nat → Nat) (lt : Nat → Nat → Int32) (k : Nat) : Prop := I 91 k ≠ 0 ∧ ¬ sat (I 96) sz lt k ∧ lf (I 96) sz lt k ≤ 1
theorem UR_PP {r : Int32} {k : Nat} (hO : OKD N sz lt) (k1 : 1 ≤ k) (k2 : k ≤ N) (h : UR (I 96) sz lt k r) : r = -1000 ↔ ¬ (¬ sat (I 96) sz lt k ∧ lf (I 96) sz lt k ≤ 1) := by
  rcases h with ⟨h1, h2⟩ | ⟨h1, h2, h3⟩ | ⟨h1, h2, j, h3, h4, h5⟩
  · constructor
    · rintro - ⟨a, b⟩
      rcases h2 with q | q
      · exact a q
      · omega
    · exact fun _ => h1
  · constructor
    · intro q; rw [h3] at q; exact absurd q (by decide)
    · intro q; exact absurd ⟨h1, by omega⟩ q
  · constructor
    · intro q; rw [h4] at q; exact absurd q (L_1000 ((hO.2 k k1 k2).2.1 j h3))
    · intro q; exact absurd ⟨h1, by omega⟩ q
theorem first_loop (hO : OKD N sz lt) (hR : DBR I N sz lt) (hV : vv (I 96)) (K : Nat → Int32 → zS → Option (Int32 × zS)) (p b : Int32) (hp : (p = 0 ∧ b = 1) ∨ (p ≠ 0 ∧ b = 0)) : ∀ (d k n : Nat), 1 ≤ k → k + d = N + 1 → d < n → (∀ q, 1 ≤ q → q < k → ¬ (I 92 q = b ∧ PP I sz lt q)) →

    (∃ k0, 1 ≤ k0 ∧ k0 ≤ N ∧ I 92 k0 = b ∧ PP I sz lt k0 ∧ (∀ q, 1 ≤ q → q < k0 → ¬ (I 92 q = b ∧ PP I sz lt q)) ∧ fX10_first_9 K n 75 p (nI k) (st I v J) = some (nI k0, st I v J)) ∨
    ((∀ q, 1 ≤ q → q ≤ N → ¬ (I 92 q = b ∧ PP I sz lt q)) ∧ fX10_first_9 K n 75 p (nI k) (st I v J) = K 75 (p + 1) (st I v J)) := by
  have hN := hO.1
  intro d
  induction d with
  | zero =>
    intro k n hk1 hk hn hx
    obtain ⟨n, rfl⟩ : ∃ m, n = m + 1 := ⟨n - 1, by omega⟩
    refine Or.inr ⟨fun q q1 q2 => hx q q1 (by omega), ?_⟩
    unfold fX10_first_9
    simp only [bnd_x, gd_0, gd_1, gd_o0, gd_o1, ite_self, rf_75_1, rf_75_3, rf_75_12, rf_75_13, rf_75_14, rf_75_15, rf_75_16, rf_75_17, rf_75_18, rf_75_22, rf_75_23, rf_75_24, rf_75_25, rf_75_31, rf_75_32, rf_75_41, rf_75_42, rf_75_43, rf_75_44, rf_75_45, rf_75_46, rf_75_47, rf_75_48, rf_75_53, rf_75_54, rf_75_55, rf_75_57, c_75, i_75, w_75, z0_75, z1_75]
    rw [hR.1, if_pos (nI_lt (by omega) (by omega))]
  | succ d ih =>
    intro k n hk1 hk hn hx
    obtain ⟨n, rfl⟩ : ∃ m, n = m + 1 := ⟨n - 1, by omega⟩
    have k2 : k ≤ N := by omega
    obtain ⟨r, r1, r2⟩ := unit_ok (v := v) (J := J) hO hR hV hk1 k2
    have next : ¬ (I 92 k = b ∧ PP I sz lt k) → fX10_first_9 K (n + 1) 75 p (nI k) (st I v J) = fX10_first_9 K n 75 p (nI (k + 1)) (st I v J) → ((∃ k0, 1 ≤ k0 ∧ k0 ≤ N ∧ I 92 k0 = b ∧ PP I sz lt k0 ∧ (∀ q, 1 ≤ q → q < k0 → ¬ (I 92 q = b ∧ PP I sz lt q)) ∧ fX10_first_9 K (n + 1) 75 p (nI k) (st I v J) = some (nI k0, st I v J)) ∨ ((∀ q, 1 ≤ q → q ≤ N → ¬ (I 92 q = b ∧ PP I sz lt q)) ∧ fX10_first_9 K (n + 1) 75 p (nI k) (st I v J) = K 75 (p + 1) (st I v J))) := by
      intro h1 h2
      rw [h2]
      refine ih (k + 1) n (by omega) (by omega) (by omega) ?_
      intro q q1 q2
      by_cases e : q = k
      · rw [e]; exact h1
      · exact hx q q1 (by omega)
    have hstep : fX10_first_9 K (n + 1) 75 p (nI k) (st I v J) = if I 91 k = 0 then fX10_first_9 K n 75 p (nI (k + 1)) (st I v J) else if I 92 k = b then (if r = -1000 then fX10_first_9 K n 75 p (nI (k + 1)) (st I v J) else some (nI k, st I v J)) else fX10_first_9 K n 75 p (nI (k + 1)) (st I v J) := by
      conv => lhs; unfold fX10_first_9
      simp only [bnd_x, gd_0, gd_1, gd_o0, gd_o1, ite_self, rf_75_1, rf_75_3, rf_75_12, rf_75_13, rf_75_14, rf_75_15, rf_75_16, rf_75_17, rf_75_18, rf_75_22, rf_75_23, rf_75_24, rf_75_25, rf_75_31, rf_75_32, rf_75_41, rf_75_42, rf_75_43, rf_75_44, rf_75_45, rf_75_46, rf_75_47, rf_75_48, rf_75_53, rf_75_54, rf_75_55, rf_75_57, c_75, i_75, w_75, z0_75, z1_75, fX10_first_57, fX10_first_41, r1]
      rw [hR.1, if_neg (nI_nlt k2 (by omega)), qa_91 (by omega), bnd_x, qa_92 (by omega), bnd_x, nI_1]
      rcases hp with ⟨p0, b0⟩ | ⟨p0, b0⟩
      · rw [if_pos p0, b0]
      · rw [if_neg p0, b0]
    by_cases ha : I 91 k = 0
    · apply next
      · rintro ⟨-, q, -⟩; exact q ha
      · rw [hstep, if_pos ha]
    · by_cases hm : I 92 k = b
      · by_cases hr : r = -1000
        · apply next
          · rintro ⟨-, -, q⟩; exact (UR_PP hO hk1 k2 r2).mp hr q
          · rw [hstep, if_neg ha, if_pos hm, if_pos hr]
        · left
          have : ¬ sat (I 96) sz lt k ∧ lf (I 96) sz lt k ≤ 1 := Classical.byContradiction fun q => hr ((UR_PP hO hk1 k2 r2).mpr q)
          exact ⟨k, hk1, k2, hm, ⟨ha, this⟩, hx, by rw [hstep, if_neg ha, if_pos hm, if_neg hr]⟩
      · apply next
        · rintro ⟨q, -⟩; exact hm q
        · rw [hstep, if_neg ha, if_neg hm]
def rk (I : Nat → Nat → Int32) (k : Nat) : Nat := if I 92 k = 0 then 608 + k else k
theorem first_ok (hO : OKD N sz lt) (hR : DBR I N sz lt) (hV : vv (I 96)) (hM : ∀ k, 1 ≤ k → k ≤ N → I 92 k = 0 ∨ I 92 k = 1) :
    ∃ k, fX10_first 75 (st I v J) = some (nI k, st I v J) ∧ ((k = 0 ∧ ∀ q, 1 ≤ q → q ≤ N → ¬ PP I sz lt q) ∨ (1 ≤ k ∧ k ≤ N ∧ PP I sz lt k ∧ ∀ q, 1 ≤ q → q ≤ N → PP I sz lt q → rk I k ≤ rk I q)) := by
  have hN := hO.1
  have hz := zfu_big
  obtain ⟨f, hf⟩ : ∃ f, zfu = f + 1 + 1 + 1 := ⟨zfu - 3, by omega⟩
  have e0 : fX10_first 75 (st I v J) = fX10_first_9 (fX10_first_2 (f + 1 + 1)) zfu 75 0 (nI 1) (st I v J) := by
    unfold fX10_first
    conv => lhs; rw [hf]; unfold fX10_first_2
    rw [if_neg (by decide)]
    rfl
  rcases first_loop (v := v) (J := J) hO hR hV (fX10_first_2 (f + 1 + 1)) 0 1 (Or.inl ⟨rfl, rfl⟩) N 1 zfu (by omega) (by omega) (by omega) (fun q q1 q2 => by omega) with ⟨k, k1, k2, k3, k4, k5, k6⟩ | ⟨h1, h2⟩
  · refine ⟨k, by rw [e0, k6], Or.inr ⟨k1, k2, k4, ?_⟩⟩
    intro q q1 q2 q3
    unfold rk
    rw [if_neg (by rw [k3]; decide)]
    rcases hM q q1 q2 with m | m
    · rw [if_pos m]; omega
    · rw [if_neg (by rw [m]; decide)]
      exact Classical.byContradiction fun c => k5 q q1 (by omega) ⟨m, q3⟩
  · have e1 : fX10_first 75 (st I v J) = fX10_first_9 (fX10_first_2 (f + 1)) zfu 75 (0 + 1) (nI 1) (st I v J) := by
      rw [e0, h2]
      conv => lhs; unfold fX10_first_2
      rw [if_neg (by decide)]
      rfl
    rcases first_loop (v := v) (J := J) hO hR hV (fX10_first_2 (f + 1)) (0 + 1) 0 (Or.inr ⟨by decide, rfl⟩) N 1 zfu (by omega) (by omega) (by omega) (fun q q1 q2 => by omega) with ⟨k, k1, k2, k3, k4, k5, k6⟩ | ⟨h3, h4⟩
    · refine ⟨k, by rw [e1, k6], Or.inr ⟨k1, k2, k4, ?_⟩⟩
      intro q q1 q2 q3
      unfold rk
      rw [if_pos k3]
      rcases hM q q1 q2 with m | m
      · rw [if_pos m]
        have := Classical.byContradiction fun (c : ¬ k ≤ q) => k5 q q1 (by omega) ⟨m, q3⟩
        omega
      · exact absurd ⟨m, q3⟩ (h1 q q1 q2)
    · refine ⟨0, ?_, Or.inl ⟨rfl, ?_⟩⟩
      · rw [e1, h4]
        unfold fX10_first_2
        rw [if_pos (by decide)]
        rfl
      · intro q q1 q2 q3
        rcases hM q q1 q2 with m | m
        · exact h3 q q1 q2 ⟨m, q3⟩
        · exact h1 q q1 q2 ⟨m, q3⟩
end
