/-! Tries: nothing assumed, a clause, a clause and its partner. -/
section
variable {N : Nat} {sz : Nat → Nat} {lt : Nat → Nat → Int32}
def FrT (I I1 : Nat → Nat → Int32) : Prop := ∀ a, a ≠ 52 → a ≠ 58 → a ≠ 62 → a ≠ 64 → a ≠ 66 → a ≠ 68 → a ≠ 70 → I1 a = I a
/-- what a try leaves -/
def TRY (I I' I1 I2 : Nat → Nat → Int32) (N : Nat) (sz : Nat → Nat) (lt : Nat → Nat → Int32) (r : Nat) : Prop :=
  (∃ n, RN I1 I2 n N sz lt) ∧ SO I1 N sz ∧ HR I1 I2 N ∧ FrT I I1 ∧ FrM I' I2 ∧ RES I1 I2 N sz lt r
theorem try0 {v v' : zV} {J J' : Nat → Nat → Int64} (hO : OKD N sz lt) {I I' : Nat → Nat → Int32} (h : RJ I I' N sz lt) (h52 : I' 75 52 = 0) :
    ∃ Ia I1 I2 r, fX4_restart 52 (st I v J) = some (st Ia v J) ∧ fX4_run 52 (st Ia v J) = some (nI r, st I1 v J) ∧ fX10_propagate 75 (st (mbeg I') v' J') = some (st I2 v' J') ∧ TRY I I' I1 I2 N sz lt r := by
  obtain ⟨Ia, a1, a2, a3, a4, a5, a6, a7, a8, a9, a10⟩ := restart_lock (v := v) (J := J) hO h
  obtain ⟨I1, I2, n, r, g1, g2, g3, g4, g5, g6, g7, g8⟩ := go_lock (v := v) (v' := v') (J := J) (J' := J') hO a6 (by simp) a2 a3 a4 a5 a7 a8 (by rw [mbeg_52]; exact h52)
  exact ⟨Ia, I1, I2, r, a1, g1, g2, ⟨n, g3⟩, g4, g5, fun a b1 b2 b3 b4 b5 b6 b7 => by rw [g6.1 a b1 b2 b3 b4 b6 b7, a10 a b1 b2 b3 b4], FrM_t (mbeg_FrM I') g7, g8⟩
theorem try1 {v v' : zV} {J J' : Nat → Nat → Int64} (hO : OKD N sz lt) {I I' : Nat → Nat → Int32} (h : RJ I I' N sz lt) (h52 : I' 75 52 = 0) {k : Nat} (k1 : 1 ≤ k) (k2 : k ≤ N) :
    ∃ Ia Ib I1 I2 r, fX4_restart 52 (st I v J) = some (st Ia v J) ∧ fX4_assumeOpposites 52 (nI k) 0 (st Ia v J) = some (st Ib v J) ∧ fX4_run 52 (st Ib v J) = some (nI r, st I1 v J) ∧ fX10_propagate 75 (st (mas (mbeg I') (ops lt k 0 (sz k) 0)) v' J') = some (st I2 v' J') ∧ TRY I I' I1 I2 N sz lt r := by
  obtain ⟨Ia, a1, a2, a3, a4, a5, a6, a7, a8, a9, a10⟩ := restart_lock (v := v) (J := J) hO h
  obtain ⟨Ib, b1, b2, b3, b4, b5, b6, b7, b8, b9⟩ := assume_lock (v := v) (J := J) hO k1 k2 0 a6 (by simp) a2 a3 a4 a5 a7
  rw [List.nil_append] at b2
  have hlit := (hO.2 k k1 k2).2.1
  obtain ⟨I1, I2, n, r, g1, g2, g3, g4, g5, g6, g7, g8⟩ := go_lock (v := v) (v' := v') (J := J) (J' := J') hO b2 (ops_L hlit (sz k) 0 (by omega)) b3 b4 b5 b6 b7 a8 (by rw [mbeg_52]; exact h52)
  exact ⟨Ia, Ib, I1, I2, r, a1, b1, g1, g2, ⟨n, g3⟩, g4, g5, fun a c1 c2 c3 c4 c5 c6 c7 => by rw [g6.1 a c1 c2 c3 c4 c6 c7, b9 a c1 c5, a10 a c1 c2 c3 c4], FrM_t (mbeg_FrM I') g7, g8⟩
theorem try2 {v v' : zV} {J J' : Nat → Nat → Int64} (hO : OKD N sz lt) {I I' : Nat → Nat → Int32} (h : RJ I I' N sz lt) (h52 : I' 75 52 = 0) {k d : Nat} (k1 : 1 ≤ k) (k2 : k ≤ N) (d1 : 1 ≤ d) (d2 : d ≤ N) (sp : Int32) :
    ∃ Ia Ib Ic I1 I2 r, fX4_restart 52 (st I v J) = some (st Ia v J) ∧ fX4_assumeOpposites 52 (nI k) 0 (st Ia v J) = some (st Ib v J) ∧ fX4_assumeOpposites 52 (nI d) sp (st Ib v J) = some (st Ic v J) ∧ fX4_run 52 (st Ic v J) = some (nI r, st I1 v J) ∧ fX10_propagate 75 (st (mas (mas (mbeg I') (ops lt k 0 (sz k) 0)) (ops lt d sp (sz d) 0)) v' J') = some (st I2 v' J') ∧ TRY I I' I1 I2 N sz lt r := by
  obtain ⟨Ia, a1, a2, a3, a4, a5, a6, a7, a8, a9, a10⟩ := restart_lock (v := v) (J := J) hO h
  obtain ⟨Ib, b1, b2, b3, b4, b5, b6, b7, b8, b9⟩ := assume_lock (v := v) (J := J) hO k1 k2 0 a6 (by simp) a2 a3 a4 a5 a7
  rw [List.nil_append] at b2
  obtain ⟨h40, hlit, -⟩ := hO.2 k k1 k2
  have hlit2 := (hO.2 d d1 d2).2.1
  obtain ⟨Ic, c1, c2, c3, c4, c5, c6, c7, c8, c9⟩ := assume_lock (v := v) (J := J) hO d1 d2 sp b2 (Nat.le_trans (ops_len _ _) h40) b3 b4 b5 b6 b7
  obtain ⟨I1, I2, n, r, g1, g2, g3, g4, g5, g6, g7, g8⟩ := go_lock (v := v) (v' := v') (J := J) (J' := J') hO c2 (by
    intro l hl
    rcases List.mem_append.mp hl with q | q
    · exact ops_L hlit (sz k) 0 (by omega) l q
    · exact ops_L hlit2 (sz d) 0 (by omega) l q) c3 c4 c5 c6 c7 a8 (by rw [mbeg_52]; exact h52)
  have e : mas (mbeg I') (ops lt k 0 (sz k) 0 ++ ops lt d sp (sz d) 0) = mas (mas (mbeg I') (ops lt k 0 (sz k) 0)) (ops lt d sp (sz d) 0) := by
    unfold mas; rw [List.foldl_append]
  rw [e] at g2
  exact ⟨Ia, Ib, Ic, I1, I2, r, a1, b1, c1, g1, g2, ⟨n, g3⟩, g4, g5, fun a x1 x2 x3 x4 x5 x6 x7 => by rw [g6.1 a x1 x2 x3 x4 x6 x7, c9 a x1 x5, b9 a x1 x5, a10 a x1 x2 x3 x4], FrM_t (mbeg_FrM I') g7, g8⟩
/-- the relations at rest, carried over -/
theorem RJ_fr {I I' I1 I2 : Nat → Nat → Int32} (h : RJ I I' N sz lt) (hc : ∀ a, a ∈ [29, 31, 33, 37, 39, 41, 54, 56, 58, 60, 64, 68] → I1 a = I a) (h52 : ∀ j, j ∈ [12, 14, 17] → I1 52 j = I 52 j) (hm : ∀ a, a ∈ [78, 79, 80, 81, 82, 83, 89, 91, 92] → I2 a = I' a) (h75 : ∀ j, j ∈ [19, 33, 38] → I2 75 j = I' 75 j) (hH : HR I1 I2 N) : RJ I1 I2 N sz lt := by
  obtain ⟨hD, hU, hB, hA, ⟨n, hT⟩, hL, hS, ⟨hf1, hf2⟩, -⟩ := h
  refine ⟨DBC_fr hD (hc 29 (by decide)) (hc 31 (by decide)) (hc 33 (by decide)), USC_fr hU (hc 37 (by decide)) (hc 39 (by decide)) (hc 41 (by decide)), DBR_fr hB (h75 33 (by decide)) (h75 19 (by decide)) (hm 78 (by decide)) (hm 79 (by decide)) (hm 80 (by decide)) (hm 81 (by decide)) (hm 82 (by decide)) (hm 83 (by decide)) (hm 89 (by decide)), ?_, ⟨n, ?_⟩, ?_, SO_fr hS (h52 12 (by decide)) (hc 60 (by decide)), ⟨?_, ?_⟩, hH⟩
  · intro k k1 k2
    rw [hc 54 (by decide), hc 56 (by decide), hm 91 (by decide), hm 92 (by decide)]
    exact hA k k1 k2
  · unfold TI
    rw [h52 14 (by decide), hc 64 (by decide), hc 68 (by decide)]; exact hT
  · intro k k1 k2
    rw [hc 58 (by decide), hc 64 (by decide)]; exact hL k k1 k2
  · rw [h75 38 (by decide), h52 17 (by decide)]; exact hf1
  · rw [h52 17 (by decide)]; exact hf2
/-- marks and actives may change together -/
theorem RJ_am {I I' I1 I2 : Nat → Nat → Int32} (h : RJ I I' N sz lt) (hc : ∀ a, a ∈ [29, 31, 33, 37, 39, 41, 58, 60, 64, 68] → I1 a = I a) (h52 : ∀ j, j ∈ [12, 14, 17] → I1 52 j = I 52 j) (hm : ∀ a, a ∈ [78, 79, 80, 81, 82, 83, 89] → I2 a = I' a) (h75 : ∀ j, j ∈ [19, 33, 38] → I2 75 j = I' 75 j) (hA : AM I1 I2 N) (hH : HR I1 I2 N) : RJ I1 I2 N sz lt := by
  obtain ⟨hD, hU, hB, -, ⟨n, hT⟩, hL, hS, ⟨hf1, hf2⟩, -⟩ := h
  refine ⟨DBC_fr hD (hc 29 (by decide)) (hc 31 (by decide)) (hc 33 (by decide)), USC_fr hU (hc 37 (by decide)) (hc 39 (by decide)) (hc 41 (by decide)), DBR_fr hB (h75 33 (by decide)) (h75 19 (by decide)) (hm 78 (by decide)) (hm 79 (by decide)) (hm 80 (by decide)) (hm 81 (by decide)) (hm 82 (by decide)) (hm 83 (by decide)) (hm 89 (by decide)), hA, ⟨n, ?_⟩, ?_, SO_fr hS (h52 12 (by decide)) (hc 60 (by decide)), ⟨?_, ?_⟩, hH⟩
  · unfold TI
    rw [h52 14 (by decide), hc 64 (by decide), hc 68 (by decide)]; exact hT
  · intro k k1 k2
    rw [hc 58 (by decide), hc 64 (by decide)]; exact hL k k1 k2
  · rw [h75 38 (by decide), h52 17 (by decide)]; exact hf1
  · rw [h52 17 (by decide)]; exact hf2
/-- others' hints end where k's begin -/
def OB (I : Nat → Nat → Int32) (N k a : Nat) : Prop := I 47 k = nI a ∧ a ≤ 4000 ∧ ∀ q, q ≤ N → q ≠ k → ∃ b m, I 47 q = nI b ∧ I 49 q = nI (b + m) ∧ b + m ≤ a
theorem OB_fr {I I1 : Nat → Nat → Int32} {k a : Nat} (h : OB I N k a) (h47 : I1 47 = I 47) (h49 : ∀ q, q ≠ k → I1 49 q = I 49 q) : OB I1 N k a := by
  obtain ⟨h1, h2, h3⟩ := h
  refine ⟨by rw [h47]; exact h1, h2, fun q q1 q2 => ?_⟩
  rw [h47, h49 q q2]
  exact h3 q q1 q2
def cdrop (k : Nat) (I : Nat → Nat → Int32) : Nat → Nat → Int32 := wr (up I 43 3 (rd I 46 (nI k))) 48 (nI k) (rd I 46 (nI k))
theorem cdrop_e {k a : Nat} {I : Nat → Nat → Int32} (hk : k < 601) (h : I 47 k = nI a) : cdrop k I = up (up I 43 3 (nI a)) 49 k (nI a) := by
  unfold cdrop
  rw [rd_46 hk, h, wr_48 hk]
theorem drop_HR (hN : N ≤ 600) {I I' : Nat → Nat → Int32} {k a : Nat} (hk : k ≤ N) (h : HR I I' N) (hB : OB I N k a) (hO : OP I I' k) : HR (cdrop k I) (up (up I' 75 56 (nI a)) 101 k 0) N := by
  obtain ⟨h, h1, h2, h3, h4, h5⟩ := h
  obtain ⟨b1, b2, b3⟩ := hB
  obtain ⟨a', m, o1, o2, o3, o4, o5, o6⟩ := hO
  have hah : a ≤ h := by
    obtain ⟨x, y, x1, x2, x3, x4, x5⟩ := h5 k hk
    have : x = a := (nI_eq (by omega) (by omega)).mp (by rw [← x1, b1])
    omega
  rw [cdrop_e (by omega) b1]
  refine ⟨a, b2, ?_, ?_, ?_, ?_⟩
  · rw [up_ne (by decide), up_self]
  · rw [up_ne (by decide), up_self]
  · intro i hi
    rw [up_ne (by decide), up_ne (by decide), up_ne (by decide), up_ne (by decide)]
    exact h4 i (by omega)
  · intro q hq
    rw [up_ne (show (47 : Nat) ≠ 49 by decide), up_ne (show (47 : Nat) ≠ 43 by decide), up_at, up_ne (show (49 : Nat) ≠ 43 by decide), up_at, up_ne (show (101 : Nat) ≠ 75 by decide), up_ne (show (100 : Nat) ≠ 101 by decide), up_ne (show (100 : Nat) ≠ 75 by decide)]
    by_cases e : q = k
    · subst e
      exact ⟨a, 0, b1, by rw [vup_s]; rfl, by omega, by rw [vup_s]; rfl, fun c => absurd rfl c⟩
    · obtain ⟨x, y, x1, x2, x3⟩ := b3 q hq e
      obtain ⟨x', y', z1, z2, z3, z4, z5⟩ := h5 q hq
      have e1 : x' = x := (nI_eq (by omega) (by omega)).mp (by rw [← z1, x1])
      have e2 : x' + y' = x + y := (nI_eq (by omega) (by omega)).mp (by rw [← z2, x2])
      exact ⟨x, y, x1, by rw [vup_n e]; exact x2, x3, by rw [vup_n e, z4]; congr 1; omega, fun c => by rw [← e1]; exact z5 (by omega)⟩
end
