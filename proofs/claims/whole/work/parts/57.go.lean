/-! At rest; a run from rest. -/
section
variable {N : Nat} {sz : Nat → Nat} {lt : Nat → Nat → Int32}
def RJ (I I' : Nat → Nat → Int32) (N : Nat) (sz : Nat → Nat) (lt : Nat → Nat → Int32) : Prop :=
  DBC I N sz lt ∧ USC I N sz lt ∧ DBR I' N sz lt ∧ AM I I' N ∧ (∃ n, TI I n) ∧ LI I N sz lt ∧ SO I N sz ∧ (I' 75 38 = I 52 17 ∧ ∃ f, f < 2 ^ 30 ∧ I 52 17 = nI f) ∧ HR I I' N
theorem SO_fr {I I1 : Nat → Nat → Int32} (h : SO I N sz) (a : I1 52 12 = I 52 12) (b : I1 60 = I 60) : SO I1 N sz := by
  unfold SO
  rw [a, b]; exact h
theorem RN_RJ {I I' : Nat → Nat → Int32} {n : Nat} (h : RN I I' n N sz lt) (hS : SO I N sz) (hH : HR I I' N) : RJ I I' N sz lt :=
  ⟨h.1, h.2.1, h.2.2.1, h.2.2.2.1, ⟨n, h.2.2.2.2.1⟩, h.2.2.2.2.2.1, hS, ⟨h.2.2.2.2.2.2.1.2.2.2.1, h.2.2.2.2.2.2.1.2.2.2.2.2⟩, hH⟩
def mbeg (I : Nat → Nat → Int32) : Nat → Nat → Int32 := up (up (up (fillN I 96 151 0) 75 49 0) 75 51 0) 75 50 0
theorem begin_loop {v : zV} {J : Nat → Nat → Int64} {I : Nat → Nat → Int32} : ∀ (d k n : Nat), k + d = 151 → d < n → fX10_begin_2 n 75 (nI k) (st (fillN I 96 k 0) v J) = some (st (mbeg I) v J) := by
  intro d
  induction d with
  | zero =>
    intro k n hk hn
    obtain ⟨n, rfl⟩ : ∃ m, n = m + 1 := ⟨n - 1, by omega⟩
    have : k = 151 := by omega
    subst this
    unfold fX10_begin_2
    rw [if_pos (by decide)]
    simp only [bnd_x, gd_0, gd_1, gd_o0, gd_o1, ite_self, rf_75_1, rf_75_3, rf_75_12, rf_75_13, rf_75_14, rf_75_15, rf_75_16, rf_75_17, rf_75_18, rf_75_22, rf_75_23, rf_75_24, rf_75_25, rf_75_31, rf_75_32, rf_75_41, rf_75_42, rf_75_43, rf_75_44, rf_75_45, rf_75_46, rf_75_47, rf_75_48, rf_75_53, rf_75_54, rf_75_55, rf_75_57, c_75, i_75, w_75, z0_75, z1_75]
    rfl
  | succ d ih =>
    intro k n hk hn
    obtain ⟨n, rfl⟩ : ∃ m, n = m + 1 := ⟨n - 1, by omega⟩
    have hlt : ¬ (150 : Int32) < nI k := nI_nlt (a := 150) (b := k) (by omega) (by decide)
    unfold fX10_begin_2
    rw [if_neg hlt]
    simp only [bnd_x, gd_0, gd_1, gd_o0, gd_o1, ite_self, rf_75_1, rf_75_3, rf_75_12, rf_75_13, rf_75_14, rf_75_15, rf_75_16, rf_75_17, rf_75_18, rf_75_22, rf_75_23, rf_75_24, rf_75_25, rf_75_31, rf_75_32, rf_75_41, rf_75_42, rf_75_43, rf_75_44, rf_75_45, rf_75_46, rf_75_47, rf_75_48, rf_75_53, rf_75_54, rf_75_55, rf_75_57, c_75, i_75, w_75, z0_75, z1_75, ua_96 (show k < 151 by omega)]
    have e : up (fillN I 96 k 0) 96 k 0 = fillN I 96 (k + 1) 0 := by
      funext b j
      unfold up fillN
      by_cases hb : b = 96
      · by_cases hj : j = k
        · subst hb; subst hj; simp
        · have : (j < k + 1) ↔ (j < k) := by omega
          simp [hb, hj, this]
      · simp [hb]
    rw [e, nI_1]
    exact ih (k + 1) n (by omega) (by omega)
theorem begin_ok {v : zV} {J : Nat → Nat → Int64} {I : Nat → Nat → Int32} : fX10_begin 75 (st I v J) = some (st (mbeg I) v J) := by
  have hz := zfu_big
  have q := begin_loop (v := v) (J := J) (I := I) 151 0 zfu (by omega) (by omega)
  have e : fillN I 96 0 0 = I := by
    funext b j
    unfold fillN
    rw [if_neg (by omega)]
  rw [e, nI_0] at q
  unfold fX10_begin
  exact q
theorem mbeg_FrM (I : Nat → Nat → Int32) : FrM I (mbeg I) := by
  refine ⟨fun a a1 a2 a3 a4 => ?_, fun j j1 j2 j3 j4 j5 => ?_⟩
  · unfold mbeg
    rw [up_ne a1, up_ne a1, up_ne a1]
    funext j
    unfold fillN
    rw [if_neg (fun q => a2 q.1)]
  · unfold mbeg
    rw [up_at, vup_n j3, up_at, vup_n j4, up_at, vup_n j2]
    unfold fillN
    rw [if_neg (fun q => absurd q.1 (by decide))]
theorem mbeg_52 (I : Nat → Nat → Int32) : mbeg I 75 52 = I 75 52 := by
  unfold mbeg
  rw [up_at, vup_n (by decide), up_at, vup_n (by decide), up_at, vup_n (by decide)]
  unfold fillN
  rw [if_neg (fun q => absurd q.1 (by decide))]
theorem restart_lock {v : zV} {J : Nat → Nat → Int64} (hO : OKD N sz lt) {I I' : Nat → Nat → Int32} (h : RJ I I' N sz lt) :
    ∃ I1, fX4_restart 52 (st I v J) = some (st I1 v J) ∧ RN I1 (mbeg I') 0 N sz lt ∧ RI I1 N sz lt ∧ SO I1 N sz ∧ HR I1 (mbeg I') N ∧ AS I1 [] ∧ I1 52 16 = 0 ∧ mbeg I' 75 51 = 0 ∧ (∀ j, j ≠ 13 → j ≠ 14 → j ≠ 16 → I1 52 j = I 52 j) ∧ (∀ a, a ≠ 52 → a ≠ 58 → a ≠ 62 → a ≠ 64 → I1 a = I a) := by
  obtain ⟨hD, hU, hB, hA, ⟨n, hT⟩, hL, hS, ⟨hf1, hf2⟩, hH⟩ := h
  obtain ⟨I1, r1, r2, r3, r4, r5, r6, r7⟩ := restart_ok (v := v) (J := J) hO hT hU hL hS
  have g := mbeg_FrM I'
  have h52 : ∀ j, j ≠ 13 → j ≠ 14 → j ≠ 16 → I1 52 j = I 52 j := fun j j1 j2 j3 => by rw [r6, vup_n j3, vup_n j1, vup_n j2]
  have e38 : mbeg I' 75 38 = I' 75 38 := by
    unfold mbeg
    rw [up_at, vup_n (by decide), up_at, vup_n (by decide), up_at, vup_n (by decide)]
    unfold fillN
    rw [if_neg (fun q => absurd q.1 (by decide))]
  refine ⟨I1, r1, ⟨?_, ?_, ?_, ?_, r2, r3, ⟨?_, ?_, ?_, ?_, ?_, ?_⟩, ⟨?_, ?_⟩⟩, r4, ?_, ?_, ?_, ?_, ?_, h52, r7⟩
  · exact DBC_fr hD (r7 29 (by decide) (by decide) (by decide) (by decide)) (r7 31 (by decide) (by decide) (by decide) (by decide)) (r7 33 (by decide) (by decide) (by decide) (by decide))
  · exact USC_fr hU (r7 37 (by decide) (by decide) (by decide) (by decide)) (r7 39 (by decide) (by decide) (by decide) (by decide)) (r7 41 (by decide) (by decide) (by decide) (by decide))
  · exact FrM_DBR g hB
  · intro k k1 k2
    rw [r7 54 (by decide) (by decide) (by decide) (by decide), r7 56 (by decide) (by decide) (by decide) (by decide), g.1 91 (by decide) (by decide) (by decide) (by decide), g.1 92 (by decide) (by decide) (by decide) (by decide)]
    exact hA k k1 k2
  · intro x x1 x2
    rw [r5 x x1 x2]
    unfold mbeg
    rw [up_ne (by decide), up_ne (by decide), up_ne (by decide)]
    unfold fillN
    rw [if_pos ⟨rfl, by omega⟩]
  · unfold mbeg
    rw [up_at, vup_n (by decide), up_at, vup_n (by decide), up_self]; rfl
  · intro t ht; omega
  · rw [e38, hf1, h52 17 (by decide) (by decide) (by decide)]
  · rw [r6, vup_s]
    unfold mbeg
    rw [up_self]
  · rw [h52 17 (by decide) (by decide) (by decide)]; exact hf2
  · intro t ht; omega
  · intro t t' a b; omega
  · exact SO_fr hS (h52 12 (by decide) (by decide) (by decide)) (r7 60 (by decide) (by decide) (by decide) (by decide))
  · exact HR_fr hH (by rw [r7 43 (by decide) (by decide) (by decide) (by decide)]) (r7 45 (by decide) (by decide) (by decide) (by decide)) (r7 47 (by decide) (by decide) (by decide) (by decide)) (r7 49 (by decide) (by decide) (by decide) (by decide)) (g.2 56 (by decide) (by decide) (by decide) (by decide) (by decide)) (g.1 99 (by decide) (by decide) (by decide) (by decide)) (g.1 100 (by decide) (by decide) (by decide) (by decide)) (g.1 101 (by decide) (by decide) (by decide) (by decide))
  · refine ⟨by rw [r6, vup_n (by decide), vup_s]; rfl, by simp, by intro i hi; simp at hi⟩
  · rw [r6, vup_s]
  · unfold mbeg
    rw [up_at, vup_n (by decide), up_self]
/-- assumptions keep all that a run needs -/
theorem assume_lock {v : zV} {J : Nat → Nat → Int64} (hO : OKD N sz lt) {I I' : Nat → Nat → Int32} {k : Nat} (k1 : 1 ≤ k) (k2 : k ≤ N) (sp : Int32) {A : List Int32} (hA : AS I A) (hlen : A.length ≤ 40) (h : RN I I' 0 N sz lt) (hR : RI I N sz lt) (hS : SO I N sz) (hH : HR I I' N) (h16 : I 52 16 = 0) :
    ∃ I1, fX4_assumeOpposites 52 (nI k) sp (st I v J) = some (st I1 v J) ∧ AS I1 (A ++ ops lt k sp (sz k) 0) ∧ RN I1 I' 0 N sz lt ∧ RI I1 N sz lt ∧ SO I1 N sz ∧ HR I1 I' N ∧ I1 52 16 = 0 ∧ (∀ q, q ≠ 13 → I1 52 q = I 52 q) ∧ (∀ a, a ≠ 52 → a ≠ 66 → I1 a = I a) := by
  obtain ⟨hD, hU, hB, hAM, hT, hL, hP, hRS⟩ := h
  obtain ⟨I1, a1, a2, a3, a4⟩ := assume_ok (v := v) (J := J) hO k1 k2 sp A hD hA hlen
  refine ⟨I1, a1, a2, ⟨?_, ?_, hB, ?_, ?_, ?_, ?_, ?_⟩, ?_, ?_, ?_, ?_, a3, a4⟩
  · exact DBC_fr hD (a4 29 (by decide) (by decide)) (a4 31 (by decide) (by decide)) (a4 33 (by decide) (by decide))
  · exact USC_fr hU (a4 37 (by decide) (by decide)) (a4 39 (by decide) (by decide)) (a4 41 (by decide) (by decide))
  · intro q q1 q2
    rw [a4 54 (by decide) (by decide), a4 56 (by decide) (by decide)]; exact hAM q q1 q2
  · unfold TI
    rw [a3 14 (by decide), a4 64 (by decide) (by decide), a4 68 (by decide) (by decide)]; exact hT
  · intro q q1 q2
    rw [a4 58 (by decide) (by decide), a4 64 (by decide) (by decide)]; exact hL q q1 q2
  · unfold PE
    rw [a3 16 (by decide), a3 17 (by decide), a4 64 (by decide) (by decide), a4 68 (by decide) (by decide), a4 70 (by decide) (by decide)]; exact hP
  · unfold RS
    rw [a4 68 (by decide) (by decide), a4 70 (by decide) (by decide)]; exact hRS
  · unfold RI RIx
    rw [a4 54 (by decide) (by decide), a4 64 (by decide) (by decide)]
    constructor
    · intro r hr hb
      rw [rb_fr (a4 62 (by decide) (by decide))] at hb
      obtain ⟨k, x1, x2, x3, x4⟩ := hR.1 r hr hb
      exact ⟨k, x1, x2, by rw [rank_fr (a4 56 (by decide) (by decide))]; exact x3, x4⟩
    · intro k x1 x2 x3 x4 x5 x6
      rw [rb_fr (a4 62 (by decide) (by decide)), rank_fr (a4 56 (by decide) (by decide))]
      exact hR.2 k x1 x2 x3 x4 x5 x6
  · exact SO_fr hS (a3 12 (by decide)) (a4 60 (by decide) (by decide))
  · exact HR_fr hH (by rw [a4 43 (by decide) (by decide)]) (a4 45 (by decide) (by decide)) (a4 47 (by decide) (by decide)) (a4 49 (by decide) (by decide)) rfl rfl rfl rfl
  · rw [a3 16 (by decide)]; exact h16
theorem go_lock {v v' : zV} {J J' : Nat → Nat → Int64} (hO : OKD N sz lt) {I I' : Nat → Nat → Int32} {A : List Int32} (hA : AS I A) (hAl : ∀ l ∈ A, isL l) (h : RN I I' 0 N sz lt) (hR : RI I N sz lt) (hS : SO I N sz) (hH : HR I I' N) (h16 : I 52 16 = 0) (h51 : I' 75 51 = 0) (h52 : I' 75 52 = 0) :
    ∃ I1 I2 n r, fX4_run 52 (st I v J) = some (nI r, st I1 v J) ∧ fX10_propagate 75 (st (mas I' A) v' J') = some (st I2 v' J') ∧ RN I1 I2 n N sz lt ∧ SO I1 N sz ∧ HR I1 I2 N ∧ Fr I I1 ∧ FrM I' I2 ∧ RES I1 I2 N sz lt r := by
  have hz := zfu_big
  obtain ⟨I1, I2, n, r, g1, g2, g3, g4, g5, g6⟩ := runs_lock (v := v) (v' := v') (J := J) (J' := J') hO A 0 zfu 0 I I' hA (by omega) rfl hAl h hR h51 h52 h16 (by have := hA.2.1; omega)
  rw [nI_0] at g1
  refine ⟨I1, I2, n, r, g1, g2, g3, ?_, ?_, g4, g5, g6⟩
  · exact SO_fr hS (g4.2 12 (by decide) (by decide) (by decide)) (g4.1 60 (by decide) (by decide) (by decide) (by decide) (by decide) (by decide))
  · exact HR_fr hH (by rw [g4.1 43 (by decide) (by decide) (by decide) (by decide) (by decide) (by decide)]) (g4.1 45 (by decide) (by decide) (by decide) (by decide) (by decide) (by decide)) (g4.1 47 (by decide) (by decide) (by decide) (by decide) (by decide) (by decide)) (g4.1 49 (by decide) (by decide) (by decide) (by decide) (by decide) (by decide)) (g5.2 56 (by decide) (by decide) (by decide) (by decide) (by decide)) (g5.1 99 (by decide) (by decide) (by decide) (by decide)) (g5.1 100 (by decide) (by decide) (by decide) (by decide)) (g5.1 101 (by decide) (by decide) (by decide) (by decide))
/-! the reference's loops of assumptions -/
theorem w29_loop {v : zV} {J : Nat → Nat → Int64} (hO : OKD N sz lt) {k : Nat} (k1 : 1 ≤ k) (k2 : k ≤ N) (rat was : Int32) : ∀ (d j m : Nat) (I : Nat → Nat → Int32), j + d = sz k → d < m → DBR I N sz lt → MI I →
    ∃ m', fX10_weighed_29 m 75 (nI k) rat was (nI j) (st I v J) = fX10_weighed_29 (m' + 1) 75 (nI k) rat was (nI (sz k)) (st (mas I (ops lt k 0 d j)) v J) := by
  obtain ⟨h40, hlit, -⟩ := hO.2 k k1 k2
  intro d
  induction d with
  | zero =>
    intro j m I hj hm hB hM
    obtain ⟨m, rfl⟩ : ∃ q, m = q + 1 := ⟨m - 1, by omega⟩
    exact ⟨m, by rw [show j = sz k by omega]; rfl⟩
  | succ d ih =>
    intro j m I hj hm hB hM
    obtain ⟨m, rfl⟩ : ∃ q, m = q + 1 := ⟨m - 1, by omega⟩
    have hl := hlit j (by omega)
    obtain ⟨a1, a2⟩ := ma_ok (v := v) (J := J) hM (L_neg hl)
    obtain ⟨m', f1⟩ := ih (j + 1) m (ma I (-lt k j)) (by omega) (by omega) (FrM_DBR (ma_FrM I _) hB) a2
    refine ⟨m', ?_⟩
    conv => lhs; unfold fX10_weighed_29
    simp only [long_ok hO.1 hB k1 k2, bnd_x, gd_0, gd_1, gd_o0, gd_o1, ite_self, rf_75_1, rf_75_3, rf_75_12, rf_75_13, rf_75_14, rf_75_15, rf_75_16, rf_75_17, rf_75_18, rf_75_22, rf_75_23, rf_75_24, rf_75_25, rf_75_31, rf_75_32, rf_75_41, rf_75_42, rf_75_43, rf_75_44, rf_75_45, rf_75_46, rf_75_47, rf_75_48, rf_75_53, rf_75_54, rf_75_55, rf_75_57, c_75, i_75, w_75, z0_75, z1_75, if_neg (nI_ge (show j < sz k by omega) (show sz k < 2 ^ 31 by omega)), lit_ok hO.1 hB k1 k2 (show j < sz k by omega), a1, nI_1]
    rw [f1]
    have : ops lt k 0 (d + 1) j = (-lt k j) :: ops lt k 0 d (j + 1) := by
      conv => lhs; unfold ops
      rw [if_neg hl.1]
    rw [this]
    rfl
theorem w160_loop {v : zV} {J : Nat → Nat → Int64} (hO : OKD N sz lt) {k : Nat} (k1 : 1 ≤ k) (k2 : k ≤ N) (K : Nat → Int32 → Int32 → Int32 → Int32 → zS → Option (Int32 × zS)) (was p d0 : Int32) : ∀ (d j m : Nat) (I : Nat → Nat → Int32), j + d = sz k → d < m → DBR I N sz lt → MI I →
    fX10_weighed_160 K m 75 (nI k) was p d0 (nI j) (st I v J) = fX10_weighed_191 K zfu 75 (nI k) was p d0 0 (st (mas I (ops lt k 0 d j)) v J) := by
  obtain ⟨h40, hlit, -⟩ := hO.2 k k1 k2
  intro d
  induction d with
  | zero =>
    intro j m I hj hm hB hM
    obtain ⟨m, rfl⟩ : ∃ q, m = q + 1 := ⟨m - 1, by omega⟩
    conv => lhs; unfold fX10_weighed_160
    simp only [long_ok hO.1 hB k1 k2, bnd_x, gd_0, gd_1, gd_o0, gd_o1, ite_self, rf_75_1, rf_75_3, rf_75_12, rf_75_13, rf_75_14, rf_75_15, rf_75_16, rf_75_17, rf_75_18, rf_75_22, rf_75_23, rf_75_24, rf_75_25, rf_75_31, rf_75_32, rf_75_41, rf_75_42, rf_75_43, rf_75_44, rf_75_45, rf_75_46, rf_75_47, rf_75_48, rf_75_53, rf_75_54, rf_75_55, rf_75_57, c_75, i_75, w_75, z0_75, z1_75, if_pos (nI_le (show sz k ≤ j by omega) (show j < 2 ^ 31 by omega))]
    rfl
  | succ d ih =>
    intro j m I hj hm hB hM
    obtain ⟨m, rfl⟩ : ∃ q, m = q + 1 := ⟨m - 1, by omega⟩
    have hl := hlit j (by omega)
    obtain ⟨a1, a2⟩ := ma_ok (v := v) (J := J) hM (L_neg hl)
    have f1 := ih (j + 1) m (ma I (-lt k j)) (by omega) (by omega) (FrM_DBR (ma_FrM I _) hB) a2
    conv => lhs; unfold fX10_weighed_160
    simp only [long_ok hO.1 hB k1 k2, bnd_x, gd_0, gd_1, gd_o0, gd_o1, ite_self, rf_75_1, rf_75_3, rf_75_12, rf_75_13, rf_75_14, rf_75_15, rf_75_16, rf_75_17, rf_75_18, rf_75_22, rf_75_23, rf_75_24, rf_75_25, rf_75_31, rf_75_32, rf_75_41, rf_75_42, rf_75_43, rf_75_44, rf_75_45, rf_75_46, rf_75_47, rf_75_48, rf_75_53, rf_75_54, rf_75_55, rf_75_57, c_75, i_75, w_75, z0_75, z1_75, if_neg (nI_ge (show j < sz k by omega) (show sz k < 2 ^ 31 by omega)), lit_ok hO.1 hB k1 k2 (show j < sz k by omega), a1, nI_1]
    rw [f1]
    have : ops lt k 0 (d + 1) j = (-lt k j) :: ops lt k 0 d (j + 1) := by
      conv => lhs; unfold ops
      rw [if_neg hl.1]
    rw [this]
    rfl
theorem w191_loop {v : zV} {J : Nat → Nat → Int64} (hO : OKD N sz lt) {k : Nat} (k1 : 1 ≤ k) (k2 : k ≤ N) (K : Nat → Int32 → Int32 → Int32 → Int32 → zS → Option (Int32 × zS)) (k0 was p : Int32) : ∀ (d j m : Nat) (I : Nat → Nat → Int32), j + d = sz k → d < m → DBR I N sz lt → MI I →
    ∃ m', fX10_weighed_191 K m 75 k0 was p (nI k) (nI j) (st I v J) = fX10_weighed_191 K (m' + 1) 75 k0 was p (nI k) (nI (sz k)) (st (mas I (ops lt k (-p) d j)) v J) := by
  obtain ⟨h40, hlit, -⟩ := hO.2 k k1 k2
  intro d
  induction d with
  | zero =>
    intro j m I hj hm hB hM
    obtain ⟨m, rfl⟩ : ∃ q, m = q + 1 := ⟨m - 1, by omega⟩
    exact ⟨m, by rw [show j = sz k by omega]; rfl⟩
  | succ d ih =>
    intro j m I hj hm hB hM
    obtain ⟨m, rfl⟩ : ∃ q, m = q + 1 := ⟨m - 1, by omega⟩
    have hl := hlit j (by omega)
    obtain ⟨a1, a2⟩ := ma_ok (v := v) (J := J) hM (L_neg hl)
    have hstep : fX10_weighed_191 K (m + 1) 75 k0 was p (nI k) (nI j) (st I v J) = if lt k j = -p then fX10_weighed_191 K m 75 k0 was p (nI k) (nI (j + 1)) (st I v J) else fX10_weighed_191 K m 75 k0 was p (nI k) (nI (j + 1)) (st (ma I (-lt k j)) v J) := by
      conv => lhs; unfold fX10_weighed_191
      simp only [long_ok hO.1 hB k1 k2, bnd_x, gd_0, gd_1, gd_o0, gd_o1, ite_self, rf_75_1, rf_75_3, rf_75_12, rf_75_13, rf_75_14, rf_75_15, rf_75_16, rf_75_17, rf_75_18, rf_75_22, rf_75_23, rf_75_24, rf_75_25, rf_75_31, rf_75_32, rf_75_41, rf_75_42, rf_75_43, rf_75_44, rf_75_45, rf_75_46, rf_75_47, rf_75_48, rf_75_53, rf_75_54, rf_75_55, rf_75_57, c_75, i_75, w_75, z0_75, z1_75, if_neg (nI_ge (show j < sz k by omega) (show sz k < 2 ^ 31 by omega)), lit_ok hO.1 hB k1 k2 (show j < sz k by omega), a1, nI_1, fX10_weighed_229]
    rw [hstep]
    unfold ops
    by_cases e : lt k j = -p
    · rw [if_pos e, if_pos e]
      exact ih (j + 1) m I (by omega) (by omega) hB hM
    · rw [if_neg e, if_neg e]
      obtain ⟨m', f1⟩ := ih (j + 1) m (ma I (-lt k j)) (by omega) (by omega) (FrM_DBR (ma_FrM I _) hB) a2
      exact ⟨m', by rw [f1]; rfl⟩
end
