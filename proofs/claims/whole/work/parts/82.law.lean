/-! All calls, one behind the other. -/
section
theorem RR_inj {v w : zV} (h : RR v = RR w) : v = w := by
  obtain ⟨a1, a2, a3, a4, a5, a6, a7⟩ := v
  obtain ⟨b1, b2, b3, b4, b5, b6, b7⟩ := w
  have h1 : a1 = b1 := congrFun (congrFun h 1) 2
  have h2 : a2 = b2 := congrFun (congrFun h 1) 3
  have h3 : a3 = b3 := congrFun (congrFun h 1) 4
  have h4 : a4 = b4 := congrFun (congrFun h 27) 1
  have h5 : a5 = b5 := congrFun (congrFun h 27) 2
  have h6 : a6 = b6 := congrFun (congrFun h 28) 0
  have h7 : a7 = b7 := congrFun (congrFun h 29) 6
  rw [h1, h2, h3, h4, h5, h6, h7]
theorem st_inj {I I1 : Nat → Nat → Int32} {v v1 : zV} {J J1 : Nat → Nat → Int64} (h : st I v J = st I1 v1 J1) : I = I1 ∧ v = v1 := by
  unfold st at h
  have h1 := (Prod.mk.inj (Prod.mk.inj (Prod.mk.inj h).2).2)
  exact ⟨h1.1, RR_inj (Prod.mk.inj h1.2).1⟩
theorem GR_r {I I' Y : Nat → Nat → Int32} {v : zV} (h : GR I I' v) (b : ∀ a, 74 < a → Y a = I' a) : GR I Y v := by
  obtain ⟨nf, ef, wf, df, np, ep, wp, dp, N, sz, lt, h1, h2, h3, h4, h5, h6, h7, h8, h9⟩ := h
  have m : MFr I' Y := ⟨fun a a1 a2 a3 => b a (by omega), fun j hj => by rw [b 75 (by omega)]⟩
  exact ⟨nf, ef, wf, df, np, ep, wp, dp, N, sz, lt, h1, h2, FSh_G h3 (fun _ _ _ => rfl) m, PSh_G h4 (fun _ _ _ => rfl) m, DBS_G h5 ⟨fun _ _ _ => rfl, fun _ _ _ => rfl⟩ m, TP_G h6 rfl rfl (by rw [b 75 (by omega)]) (b 76 (by omega)), SW_G h7 rfl rfl (by rw [b 75 (by omega)]) (b 102 (by omega)), by rw [b 75 (by omega)]; exact h8, by rw [b 75 (by omega)]; exact h9⟩
theorem GR_c {I I' X : Nat → Nat → Int32} {v : zV} (h : GR I I' v) (a : ∀ q, q < 75 → X q = I q) : GR X I' v := by
  obtain ⟨nf, ef, wf, df, np, ep, wp, dp, N, sz, lt, h1, h2, h3, h4, h5, h6, h7, h8, h9⟩ := h
  have h1' := h1
  obtain ⟨p1, p2, p3, p4, p5, p6, p7⟩ := h1
  have hf1 : v.1 + 6 < 27 := by rcases isSh_i p1 with q | q | q <;> omega
  have hf2 : v.2.1 + 6 < 27 := by rcases isSh_i p2 with q | q | q <;> omega
  have hf3 : v.2.2.1 + 6 < 27 := by rcases isSh_i p3 with q | q | q <;> omega
  have m : MFr I' I' := ⟨fun _ _ _ _ => rfl, fun _ _ => rfl⟩
  exact ⟨nf, ef, wf, df, np, ep, wp, dp, N, sz, lt, h1', by rw [a _ (by omega)]; exact h2, FSh_G h3 (fun r r1 r2 => a r (by omega)) m, PSh_G h4 (fun r r1 r2 => a r (by omega)) m, DBS_G h5 ⟨fun q q1 q2 => a q q2, fun q q1 q2 => a q (by omega)⟩ m, TP_G h6 (a 2 (by omega)) (a 3 (by omega)) rfl rfl, SW_G h7 (a 4 (by omega)) (a 5 (by omega)) rfl rfl, by rw [a 1 (by omega)]; exact h8, by rw [a 1 (by omega)]; exact h9⟩
theorem call_step {C : zS → Option (Option Int32 × zS)} {R : zS → Option (Int32 × zS)} (h : CALL C R) {I : Nat → Nat → Int32} {v : zV} (hG : GR I I v) (J : Nat → Nat → Int64) :
    ∃ I1 v1 r, C (st I v J) = some (r, st I1 v1 J) ∧ ∀ J', ∃ y I2, R (st I1 v1 J') = some (y, st I2 v1 J') ∧ AG r y (I2 75 0) ∧ GR I2 I2 v1 := by
  obtain ⟨I1, v1, r, y0, I20, a1, a2, a3, a4, a5, a6⟩ := h I I v v J J hG
  refine ⟨I1, v1, r, a1, fun J' => ?_⟩
  obtain ⟨I1', v1', r', y, I2, b1, b2, b3, b4, b5, b6⟩ := h I I1 v v1 J J' (GR_r hG a5)
  rw [a1] at b1
  have e := Prod.mk.inj (Option.some.inj b1)
  obtain ⟨e1, e2⟩ := st_inj e.2
  rw [← e.1] at b3
  rw [← e1, ← e2] at b4
  exact ⟨y, I2, b2, b3, GR_c b4 b6⟩
theorem call_step0 {C : zS → Option (Int32 × zS)} {R : zS → Option (Int32 × zS)} (h : CALL0 C R) {I : Nat → Nat → Int32} {v : zV} (hG : GR I I v) (J : Nat → Nat → Int64) :
    ∃ I1 v1 y I2, C (st I v J) = some (y, st I1 v1 J) ∧ R (st I1 v1 J) = some (y, st I2 v1 J) ∧ GR I2 I2 v1 := by
  obtain ⟨I1, v1, y0, I20, a1, a2, a4, a5, a6⟩ := h I I v v J J hG
  obtain ⟨I1', v1', y, I2, b1, b2, b4, b5, b6⟩ := h I I1 v v1 J J (GR_r hG a5)
  rw [a1] at b1
  have e := Prod.mk.inj (Option.some.inj b1)
  obtain ⟨e1, e2⟩ := st_inj e.2
  rw [← e1, ← e2] at b4
  rw [← e.1] at b2
  exact ⟨I1, v1, y0, I2, a1, b2, GR_c b4 b6⟩
theorem cmp_self (x : Int64) : lg_cmp x x = 0 := by
  unfold lg_cmp
  rw [if_neg (Int64.lt_irrefl), if_pos rfl]
theorem thrown_ok {v : zV} {J : Nat → Nat → Int64} {I : Nat → Nat → Int32} : fX10_thrown 75 (st I v J) = some (I 75 0, st I v J) := by
  unfold fX10_thrown
  simp only [bnd_x, gd_0, gd_1, gd_o0, gd_o1, ite_self, rf_75_1, rf_75_3, rf_75_12, rf_75_13, rf_75_14, rf_75_15, rf_75_16, rf_75_17, rf_75_18, rf_75_22, rf_75_23, rf_75_24, rf_75_25, rf_75_31, rf_75_32, rf_75_41, rf_75_42, rf_75_43, rf_75_44, rf_75_45, rf_75_46, rf_75_47, rf_75_48, rf_75_53, rf_75_54, rf_75_55, rf_75_57, c_75, i_75, w_75, z0_75, z1_75]
theorem hq_ok {v v1 : zV} {J : Nat → Nat → Int64} {I I1 : Nat → Nat → Int32} (r : Option Int32) : hq (st I v J) 1 103 (some (r, st I1 v1 J)) = some (zres 103 (r, st I1 v1 J)) := by
  unfold hq
  rw [if_pos (show (zK (st I v J) 1).1 = 9 ∧ 0 < 1 ∧ 1 ≤ zn (st I v J) from ⟨rfl, by decide, Nat.le_of_ble_eq_true rfl⟩), bnd_x]
  exact if_pos ⟨⟨rfl, Nat.lt_of_sub_eq_succ rfl, Nat.le_of_ble_eq_true rfl⟩, Nat.lt_of_sub_eq_succ rfl⟩
theorem qJ_ok {v : zV} {J : Nat → Nat → Int64} {I : Nat → Nat → Int32} : qJ (st I v J) 103 0 = some (J 103 0) := if_pos ⟨⟨rfl, Nat.lt_of_sub_eq_succ rfl, Nat.le_of_ble_eq_true rfl⟩, by
  rintro (q | q)
  · exact absurd q (by decide)
  · exact absurd (show (1 : Nat) ≤ 0 from q) (by decide)⟩
/-- a call that can throw -/
theorem law_thr {C : zS → Option (Option Int32 × zS)} {R : zS → Option (Int32 × zS)} (h : CALL C R) {I : Nat → Nat → Int32} {v : zV} (hG : GR I I v) (J : Nat → Nat → Int64) (K : zS → Option (Int32 × zS)) (hK : ∀ I2 v1 J2, GR I2 I2 v1 → ∃ q, K (st I2 v1 J2) = some q ∧ q.1 = 1) :
    ∃ q, (bnd (hq (st I v J) 1 103 (C (st I v J))) fun q43 => bnd (cl q43.2 10 75 (R q43.2)) fun q52 => bnd (cl q52.2 10 75 (fX10_thrown 75 q52.2)) fun q55 => if q55.1 = q43.1 then if q43.1 = 0 then bnd (qJ q55.2 103 0) fun x58 => if (lg_cmp x58 (Int32.toInt64 q52.1)) = 0 then K q55.2 else some (0, q55.2) else K q55.2 else some (0, q55.2)) = some q ∧ q.1 = 1 := by
  obtain ⟨I1, v1, r, c1, c2⟩ := call_step h hG J
  rw [c1, hq_ok, bnd_x]
  cases r with
  | none =>
    obtain ⟨y, I2, d1, d2, d3⟩ := c2 J
    show ∃ q, (bnd (cl (st I1 v1 J) 10 75 (R (st I1 v1 J))) fun q52 => bnd (cl q52.2 10 75 (fX10_thrown 75 q52.2)) fun q55 => if q55.1 = (1 : Int32) then if (1 : Int32) = 0 then bnd (qJ q55.2 103 0) fun x58 => if (lg_cmp x58 (Int32.toInt64 q52.1)) = 0 then K q55.2 else some (0, q55.2) else K q55.2 else some (0, q55.2)) = some q ∧ q.1 = 1
    rcases d2 with ⟨-, e⟩ | ⟨e, -⟩
    · rw [c_75, d1, bnd_x]
      simp only [c_75, thrown_ok, bnd_x, e, if_neg (show ¬ (1 : Int32) = 0 by decide)]
      rw [if_pos trivial]
      exact hK I2 v1 J d3
    · exact absurd e (by simp)
  | some x =>
    obtain ⟨y, I2, d1, d2, d3⟩ := c2 (fun a j => if a = 103 ∧ j = 0 then x.toInt64 else J a j)
    show ∃ q, (bnd (cl (st I1 v1 (fun a j => if a = 103 ∧ j = 0 then x.toInt64 else J a j)) 10 75 (R (st I1 v1 (fun a j => if a = 103 ∧ j = 0 then x.toInt64 else J a j)))) fun q52 => bnd (cl q52.2 10 75 (fX10_thrown 75 q52.2)) fun q55 => if q55.1 = (0 : Int32) then if (0 : Int32) = 0 then bnd (qJ q55.2 103 0) fun x58 => if (lg_cmp x58 (Int32.toInt64 q52.1)) = 0 then K q55.2 else some (0, q55.2) else K q55.2 else some (0, q55.2)) = some q ∧ q.1 = 1
    rcases d2 with ⟨e, -⟩ | ⟨e, e0⟩
    · exact absurd e (by simp)
    · have exy : x = y := Option.some.inj e
      rw [c_75, d1, bnd_x]
      have ej : (fun a j => if a = 103 ∧ j = 0 then x.toInt64 else J a j : Nat → Nat → Int64) 103 0 = y.toInt64 := by rw [exy]; rfl
      simp only [c_75, thrown_ok, bnd_x, e0, qJ_ok, exy]
      rw [if_pos trivial, if_pos trivial]
      have : lg_cmp (if (103 : Nat) = 103 ∧ (0 : Nat) = 0 then y.toInt64 else J 103 0) y.toInt64 = 0 := by
        rw [if_pos ⟨rfl, rfl⟩]; exact cmp_self _
      rw [exy] at d1
      first
        | (rw [if_pos this]; exact hK I2 v1 _ d3)
        | (simp only [cmp_self, if_true, and_self]; exact hK I2 v1 _ d3)
/-- a call that answers -/
theorem law_ans {C R : zS → Option (Int32 × zS)} (h : CALL0 C R) {I : Nat → Nat → Int32} {v : zV} (hG : GR I I v) (J : Nat → Nat → Int64) (K : zS → Option (Int32 × zS)) (hK : ∀ I2 v1 J2, GR I2 I2 v1 → ∃ q, K (st I2 v1 J2) = some q ∧ q.1 = 1) :
    ∃ q, (bnd (cl (st I v J) 9 1 (C (st I v J))) fun q19 => bnd (cl q19.2 10 75 (R q19.2)) fun q37 => if q19.1 = q37.1 then K q37.2 else some (0, q37.2)) = some q ∧ q.1 = 1 := by
  obtain ⟨I1, v1, y, I2, c1, c2, c3⟩ := call_step0 h hG J
  rw [c_1, c1, bnd_x]
  show ∃ q, (bnd (cl (st I1 v1 J) 10 75 (R (st I1 v1 J))) fun q37 => if y = q37.1 then K q37.2 else some (0, q37.2)) = some q ∧ q.1 = 1
  rw [c_75, c2, bnd_x, if_pos rfl]
  exact hK I2 v1 J c3
theorem znz_01 (x : Int32) : znz x = 0 ∨ znz x = 1 := by
  unfold znz; split
  · exact Or.inl rfl
  · exact Or.inr rfl
theorem neg6 : ∀ L, L < 6 → nI L - 6 < 0 := by decide
theorem law_loop {L : Nat} (hL : L ≤ 3072) (xs : Nat → Int32) : ∀ (n i : Nat) (I : Nat → Nat → Int32) (v : zV) (J : Nat → Nat → Int64), GR I I v → 6 * i ≤ L + 6 → L + 6 < 6 * (i + n) → ∃ q, fL_law_23 L xs n 1 75 103 (nI (6 * i)) (st I v J) = some q ∧ q.1 = 1 := by
  intro n
  induction n with
  | zero => intro i I v J hG h1 h2; omega
  | succ n ih =>
    intro i I v J hG h1 h2
    unfold fL_law_23
    by_cases hend : L < 6 * i + 6
    · have : nI L - 6 < nI (6 * i) := by
        by_cases c : L < 6
        · exact Int32.lt_of_lt_of_le (neg6 L c) (nI_le (a := 0) (by omega) (by omega))
        · rw [show nI L - 6 = nI (L - 6) from nI_sub (b := 6) (by omega)]
          exact nI_lt (by omega) (by omega)
      rw [if_pos this]
      exact ⟨_, rfl, rfl⟩
    · have : ¬ nI L - 6 < nI (6 * i) := by
        rw [show nI L - 6 = nI (L - 6) from nI_sub (b := 6) (by omega)]
        exact nI_nlt (by omega) (by omega)
      rw [if_neg this]
      have qs : ∀ k, k < L → qS L xs (nI k) = some (xs k) := fun k hk => by
        unfold qS
        rw [nI_clamp (by omega)]
        exact if_pos (by rintro (q | q); exact nI_pos (by omega) q; omega)
      have q0 := qs (6 * i) (by omega)
      have q1 : qS L xs (nI (6 * i) + 1) = some (xs (6 * i + 1)) := by rw [nI_1]; exact qs _ (by omega)
      have q2 : qS L xs (nI (6 * i) + 2) = some (xs (6 * i + 2)) := by rw [show nI (6 * i) + 2 = nI (6 * i + 2) from nI_add _ 2]; exact qs _ (by omega)
      have q3 : qS L xs (nI (6 * i) + 3) = some (xs (6 * i + 3)) := by rw [show nI (6 * i) + 3 = nI (6 * i + 3) from nI_add _ 3]; exact qs _ (by omega)
      have q4 : qS L xs (nI (6 * i) + 4) = some (xs (6 * i + 4)) := by rw [show nI (6 * i) + 4 = nI (6 * i + 4) from nI_add _ 4]; exact qs _ (by omega)
      have q5 : qS L xs (nI (6 * i) + 5) = some (xs (6 * i + 5)) := by rw [show nI (6 * i) + 5 = nI (6 * i + 5) from nI_add _ 5]; exact qs _ (by omega)
      have e6 : nI (6 * i) + 6 = nI (6 * (i + 1)) := by rw [show nI (6 * i) + 6 = nI (6 * i + 6) from nI_add _ 6]; congr 1
      have hK : ∀ I2 v1 J2, GR I2 I2 v1 → ∃ q, fL_law_23 L xs n 1 75 103 (nI (6 * (i + 1))) (st I2 v1 J2) = some q ∧ q.1 = 1 := fun I2 v1 J2 g => ih (i + 1) I2 v1 J2 g (by omega) (by omega)
      simp only [q0, q1, q2, q3, q4, q5, bnd_x, e6]
      generalize xs (6 * i) &&& 15 = w
      by_cases c0 : w = 0
      · rw [if_pos c0]
        exact law_ans (feed_call _ _ _ _ _) hG J _ hK
      rw [if_neg c0]
      by_cases c1 : w = 1
      · rw [if_pos c1]
        exact law_thr (formula_call _) hG J _ hK
      rw [if_neg c1]
      by_cases c2 : w = 2
      · rw [if_pos c2]
        exact law_thr (proof_call _ _) hG J _ hK
      rw [if_neg c2]
      by_cases c3 : w = 3
      · rw [if_pos c3]
        exact law_thr (fault_call _) hG J _ hK
      rw [if_neg c3]
      by_cases c4 : w = 4
      · rw [if_pos c4]
        exact law_thr (weigh_call _ _ _ (znz_01 _) (znz_01 _) (znz_01 _) _) hG J _ hK
      rw [if_neg c4]
      by_cases c5 : w = 5
      · rw [if_pos c5]
        exact law_thr (count_call _) hG J _ hK
      rw [if_neg c5]
      by_cases c6 : w = 6
      · rw [if_pos c6]
        exact law_thr (clause_call _ _) hG J _ hK
      rw [if_neg c6]
      by_cases c7 : w = 7
      · rw [if_pos c7]
        exact law_thr (step_call _ _) hG J _ hK
      rw [if_neg c7]
      by_cases c8 : w = 8
      · rw [if_pos c8]
        exact law_thr (hint_call _ _) hG J _ hK
      rw [if_neg c8]
      by_cases c9 : w = 9
      · rw [if_pos c9]
        exact law_ans shorter_call hG J _ hK
      rw [if_neg c9]
      by_cases c10 : w = 10
      · rw [if_pos c10]
        exact law_thr (out_call _) hG J _ hK
      rw [if_neg c10]
      by_cases c11 : w = 11
      · rw [if_pos c11]
        exact law_ans take_call hG J _ hK
      rw [if_neg c11]
      exact hK I v J hG
theorem GR_start : GR I0 I0 v0 := by
  have z : ∀ r k, (r ≠ 1 ∧ r ≠ 27 ∧ r ≠ 42 ∧ r ≠ 75) → I0 r k = 0 := fun r k h => by unfold I0; rw [if_neg (by omega)]
  have z75 : ∀ k, k ≠ 11 → I0 75 k = 0 := fun k h => by unfold I0; rw [if_neg (by omega)]
  have z1 : I0 1 8 = 0 := by unfold I0; rw [if_neg (by omega)]
  have rz : ∀ (r : Nat) (p : Int32), (r + 1 ≠ 1 ∧ r + 1 ≠ 27 ∧ r + 1 ≠ 42 ∧ r + 1 ≠ 75) → rd I0 r p = 0 := fun r p h => by
    unfold rd; split
    · rfl
    · exact z _ _ h
  have o0 : OKS 0 (fun _ => 0) (fun _ => 0) := ⟨by omega, rfl, Nat.zero_le _, fun i i1 i2 => by omega⟩
  have nw : NW I0 := ⟨by unfold I0; rw [if_pos (by omega)], by unfold I0; rw [if_pos (by omega)], by unfold I0; rw [if_pos (by omega)], by unfold I0; rw [if_neg (by omega)], by unfold I0; rw [if_neg (by omega)], z 52 17 (by omega), z 43 3 (by omega), fun j _ => ⟨z 56 j (by omega), z 47 j (by omega), z 49 j (by omega)⟩, fun j _ => z 51 j (by omega)⟩
  refine ⟨0, fun _ => 0, fun _ => 0, fun _ => false, 0, fun _ => 0, fun _ => 0, fun _ => false, 0, fun _ => 0, fun _ _ => 0, ⟨rfl, rfl, rfl, by decide, by decide, by decide, rfl⟩, z 24 0 (by omega), ⟨o0, ⟨z 6 3 (by omega), z 6 4 (by omega), fun i hi => z 10 i (by omega), fun p hp => by simp at hp, fun i i1 i2 => by omega⟩, ⟨fun i i1 i2 => by omega, fun p hp => by simp at hp⟩, z75 19 (by omega), ?_⟩, ⟨o0, ⟨z 13 3 (by omega), z 13 4 (by omega), fun i hi => z 17 i (by omega), fun p hp => by simp at hp, fun i i1 i2 => by omega⟩, ⟨fun i i1 i2 => by omega, fun p hp => by simp at hp⟩, z75 20 (by omega), fun q q1 q2 => by omega⟩, ⟨⟨⟨by omega, fun k k1 k2 => by omega⟩, ⟨z 29 9 (by omega), fun k k1 k2 => by omega, fun k j k1 k2 => by omega⟩, ?_, ⟨z75 33 (by omega), 0, z75 19 (by omega), by omega, fun k k1 k2 => by omega⟩, ⟨rfl, ⟨fun _ => 0, fun k k1 k2 => by omega⟩, by omega, z 13 3 (by omega), z75 20 (by omega), fun i i1 i2 => by omega⟩, ?_⟩, by omega, z 29 8 (by omega), z 33 0 (by omega), Or.inr ⟨z75 34 (by omega), nw⟩, Or.inl nw.2.2.1⟩, ⟨0, by omega, z 2 1 (by omega), z75 2 (by omega), fun p hp => by omega⟩, ⟨0, by omega, z 4 1 (by omega), z75 58 (by omega), fun p hp => by omega⟩, ?_, ?_⟩
  · show I0 75 21 = I0 6 5
    rw [z75 21 (by omega), z 6 5 (by omega)]
  · intro l hl
    refine ⟨0, rz 38 _ (by omega), rz 40 _ (by omega), Nat.zero_le _, fun i hi => ?_⟩
    exact absurd hi (by simp [ul])
  · rw [z75 19 (by omega), z 29 8 (by omega)]
  · rw [z75 10 (by omega), z1]
  · unfold I0; rw [if_pos (by omega), if_pos (by omega)]
theorem pure_ok : zPure := by
  intro L xs hL
  have h := law_loop hL xs 600 0 I0 v0 (fun _ _ => 0) GR_start (by omega) (by omega)
  rw [Nat.mul_zero, nI_0] at h
  exact h
end
