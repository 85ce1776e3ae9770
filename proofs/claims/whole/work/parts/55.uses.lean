/-! The reference's has, standsInUsed, uses. -/
section
variable {v : zV} {J : Nat → Nat → Int64} {N : Nat} {sz : Nat → Nat} {lt : Nat → Nat → Int32}
def b2 (b : Bool) : Int32 := if b = true then 1 else 0
theorem b2_01 (b : Bool) : b2 b = 0 ∨ b2 b = 1 := by cases b <;> simp [b2]
theorem has_loop (hO : OKD N sz lt) {I : Nat → Nat → Int32} (hR : DBR I N sz lt) {k : Nat} (k1 : 1 ≤ k) (k2 : k ≤ N) (l : Int32) : ∀ (d j n : Nat) (b : Bool), j + d = sz k → d < n →
    fX10_has_5 n 75 (nI k) l (b2 b) (nI j) (st I v J) = some (b2 (b || (List.range' j d).any (fun i => lt k i == l)), st I v J) := by
  have h40 := (hO.2 k k1 k2).1
  intro d
  induction d with
  | zero =>
    intro j n b hj hn
    obtain ⟨n, rfl⟩ : ∃ m, n = m + 1 := ⟨n - 1, by omega⟩
    unfold fX10_has_5
    simp only [long_ok hO.1 hR k1 k2, bnd_x, gd_0, gd_1, gd_o0, gd_o1, ite_self, rf_75_1, rf_75_3, rf_75_12, rf_75_13, rf_75_14, rf_75_15, rf_75_16, rf_75_17, rf_75_18, rf_75_22, rf_75_23, rf_75_24, rf_75_25, rf_75_31, rf_75_32, rf_75_41, rf_75_42, rf_75_43, rf_75_44, rf_75_45, rf_75_46, rf_75_47, rf_75_48, rf_75_53, rf_75_54, rf_75_55, rf_75_57, c_75, i_75, w_75, z0_75, z1_75, if_pos (nI_le (show sz k ≤ j by omega) (show j < 2 ^ 31 by omega)), gd_p (b2_01 b)]
    simp
  | succ d ih =>
    intro j n b hj hn
    obtain ⟨n, rfl⟩ : ∃ m, n = m + 1 := ⟨n - 1, by omega⟩
    unfold fX10_has_5
    simp only [long_ok hO.1 hR k1 k2, bnd_x, gd_0, gd_1, gd_o0, gd_o1, ite_self, rf_75_1, rf_75_3, rf_75_12, rf_75_13, rf_75_14, rf_75_15, rf_75_16, rf_75_17, rf_75_18, rf_75_22, rf_75_23, rf_75_24, rf_75_25, rf_75_31, rf_75_32, rf_75_41, rf_75_42, rf_75_43, rf_75_44, rf_75_45, rf_75_46, rf_75_47, rf_75_48, rf_75_53, rf_75_54, rf_75_55, rf_75_57, c_75, i_75, w_75, z0_75, z1_75, if_neg (nI_ge (show j < sz k by omega) (show sz k < 2 ^ 31 by omega)), lit_ok hO.1 hR k1 k2 (show j < sz k by omega), fX10_has_30, fX10_has_35, nI_1]
    have hr : List.range' j (d + 1) = j :: List.range' (j + 1) d := by simp [List.range'_succ]
    rw [hr, List.any_cons]
    have i1 := ih (j + 1) n true (by omega) (by omega)
    have i0 := ih (j + 1) n false (by omega) (by omega)
    rw [show b2 true = 1 from rfl] at i1
    rw [show b2 false = 0 from rfl] at i0
    cases b with
    | true =>
      rw [show b2 true = 1 from rfl, if_neg (by decide), i1]
      simp
    | false =>
      rw [show b2 false = 0 from rfl, if_pos rfl]
      by_cases e : lt k j = l
      · rw [if_pos e, i1]; simp [e]
      · rw [if_neg e, i0, show (lt k j == l) = false from by simpa using e]
        simp only [Bool.false_or]
theorem has_ok (hO : OKD N sz lt) {I : Nat → Nat → Int32} (hR : DBR I N sz lt) {k : Nat} (k1 : 1 ≤ k) (k2 : k ≤ N) (l : Int32) : fX10_has 75 (nI k) l (st I v J) = some (b2 (hs sz lt k l), st I v J) := by
  have h40 := (hO.2 k k1 k2).1
  have hz := zfu_big
  have q := has_loop (v := v) (J := J) hO hR k1 k2 l (sz k) 0 zfu false (by omega) (by omega)
  rw [nI_0, show b2 false = 0 from rfl] at q
  unfold fX10_has hs
  rw [List.range_eq_range', q]
  simp
/-- the used ones -/
def UA (I : Nat → Nat → Int32) (N : Nat) (U : List Nat) : Prop := ∀ k, k ≤ N → I 93 k = b2 (decide (k ∈ U))
theorem stands_loop (hO : OKD N sz lt) {I : Nat → Nat → Int32} (hR : DBR I N sz lt) {U : List Nat} (hU : UA I N U) (l : Int32) : ∀ (d k n : Nat), 1 ≤ k → k + d = N + 1 → d < n →
    fX10_standsInUsed_4 n 75 l 0 (nI k) (st I v J) = some (b2 ((List.range' k d).any (fun q => decide (q ∈ U) && hs sz lt q l)), st I v J) := by
  have hN := hO.1
  intro d
  induction d with
  | zero =>
    intro k n k1 hk hn
    obtain ⟨n, rfl⟩ : ∃ m, n = m + 1 := ⟨n - 1, by omega⟩
    unfold fX10_standsInUsed_4
    simp only [bnd_x, gd_0, gd_1, gd_o0, gd_o1, ite_self, rf_75_1, rf_75_3, rf_75_12, rf_75_13, rf_75_14, rf_75_15, rf_75_16, rf_75_17, rf_75_18, rf_75_22, rf_75_23, rf_75_24, rf_75_25, rf_75_31, rf_75_32, rf_75_41, rf_75_42, rf_75_43, rf_75_44, rf_75_45, rf_75_46, rf_75_47, rf_75_48, rf_75_53, rf_75_54, rf_75_55, rf_75_57, c_75, i_75, w_75, z0_75, z1_75, hR.1, if_pos (nI_lt (show N < k by omega) (show k < 2 ^ 31 by omega))]
    rfl
  | succ d ih =>
    intro k n k1 hk hn
    obtain ⟨n, rfl⟩ : ∃ m, n = m + 1 := ⟨n - 1, by omega⟩
    have k2 : k ≤ N := by omega
    have hr : List.range' k (d + 1) = k :: List.range' (k + 1) d := by simp [List.range'_succ]
    rw [hr, List.any_cons]
    have i0 := ih (k + 1) n (by omega) (by omega) (by omega)
    have hstop : fX10_standsInUsed_4 n 75 l 1 (nI (k + 1)) (st I v J) = some (1, st I v J) := by
      cases n with
      | zero => omega
      | succ n =>
        unfold fX10_standsInUsed_4
        simp only [bnd_x, gd_0, gd_1, gd_o0, gd_o1, ite_self, rf_75_1, rf_75_3, rf_75_12, rf_75_13, rf_75_14, rf_75_15, rf_75_16, rf_75_17, rf_75_18, rf_75_22, rf_75_23, rf_75_24, rf_75_25, rf_75_31, rf_75_32, rf_75_41, rf_75_42, rf_75_43, rf_75_44, rf_75_45, rf_75_46, rf_75_47, rf_75_48, rf_75_53, rf_75_54, rf_75_55, rf_75_57, c_75, i_75, w_75, z0_75, z1_75, if_neg (show ¬ (1 : Int32) = 0 by decide)]
    unfold fX10_standsInUsed_4
    simp only [bnd_x, gd_0, gd_1, gd_o0, gd_o1, ite_self, rf_75_1, rf_75_3, rf_75_12, rf_75_13, rf_75_14, rf_75_15, rf_75_16, rf_75_17, rf_75_18, rf_75_22, rf_75_23, rf_75_24, rf_75_25, rf_75_31, rf_75_32, rf_75_41, rf_75_42, rf_75_43, rf_75_44, rf_75_45, rf_75_46, rf_75_47, rf_75_48, rf_75_53, rf_75_54, rf_75_55, rf_75_57, c_75, i_75, w_75, z0_75, z1_75, hR.1, if_neg (nI_nlt k2 (show N < 2 ^ 31 by omega)), qa_93 (show k < 601 by omega), has_ok hO hR k1 k2, fX10_standsInUsed_38, fX10_standsInUsed_39, nI_1, hU k k2, if_true]
    by_cases m : k ∈ U
    · rw [if_neg (by simp [b2, m])]
      cases hh : hs sz lt k l with
      | true => simp [b2, m, hstop]
      | false => rw [show b2 false = 0 from rfl, if_pos rfl, i0]; simp only [Bool.and_false, Bool.false_or]
    · rw [if_pos (by simp [b2, m]), i0]; simp [m]
theorem stands_ok (hO : OKD N sz lt) {I : Nat → Nat → Int32} (hR : DBR I N sz lt) {U : List Nat} (hU : UA I N U) (hUN : ∀ k ∈ U, 1 ≤ k ∧ k ≤ N) (l : Int32) :
    fX10_standsInUsed 75 l (st I v J) = some (b2 (U.any (fun k => hs sz lt k l)), st I v J) := by
  have hN := hO.1
  have hz := zfu_big
  have q := stands_loop (v := v) (J := J) hO hR hU l N 1 zfu (by omega) (by omega) (by omega)
  unfold fX10_standsInUsed
  rw [show (1 : Int32) = nI 1 from rfl, q]
  congr 3
  rw [Bool.eq_iff_iff, List.any_eq_true, List.any_eq_true]
  constructor
  · rintro ⟨k, k1, k2⟩
    simp only [Bool.and_eq_true, decide_eq_true_eq] at k2
    exact ⟨k, k2.1, k2.2⟩
  · rintro ⟨k, k1, k2⟩
    have := hUN k k1
    exact ⟨k, List.mem_range'_1.mpr ⟨by omega, by omega⟩, by simp [k1, k2]⟩
/-- a hint is kept -/
def radd (k : Nat) (I : Nat → Nat → Int32) (x : Int32) : Nat → Nat → Int32 :=
  if I 75 56 = 4000 then I else up (up (up I 99 (I 75 56).toNatClampNeg x) 75 56 (I 75 56 + 1)) 101 k (I 101 k + 1)
def hb (I : Nat → Nat → Int32) : Prop := ∃ h, h ≤ 4000 ∧ I 75 56 = nI h
theorem radd_ok {I : Nat → Nat → Int32} {k : Nat} (hk : k < 601) (h : hb I) (x : Int32) : fX10_keepHint 75 x (nI k) (st I v J) = some (st (radd k I x) v J) ∧ hb (radd k I x) := by
  obtain ⟨h, h1, h2⟩ := h
  unfold radd
  simp only [fX10_keepHint, bnd_x, gd_0, gd_1, gd_o0, gd_o1, ite_self, rf_75_1, rf_75_3, rf_75_12, rf_75_13, rf_75_14, rf_75_15, rf_75_16, rf_75_17, rf_75_18, rf_75_22, rf_75_23, rf_75_24, rf_75_25, rf_75_31, rf_75_32, rf_75_41, rf_75_42, rf_75_43, rf_75_44, rf_75_45, rf_75_46, rf_75_47, rf_75_48, rf_75_53, rf_75_54, rf_75_55, rf_75_57, c_75, i_75, w_75, z0_75, z1_75]
  by_cases e : I 75 56 = 4000
  · rw [if_pos e, if_pos e]; exact ⟨rfl, h, h1, h2⟩
  · rw [if_neg e, if_neg e, h2]
    have hlt : h < 4000 := by
      rcases Nat.lt_or_ge h 4000 with q | q
      · exact q
      · exact absurd (by rw [h2, show h = 4000 by omega]; rfl) e
    rw [ua_99 hlt]
    simp only [bnd_x, gd_0, gd_1, gd_o0, gd_o1, ite_self, rf_75_1, rf_75_3, rf_75_12, rf_75_13, rf_75_14, rf_75_15, rf_75_16, rf_75_17, rf_75_18, rf_75_22, rf_75_23, rf_75_24, rf_75_25, rf_75_31, rf_75_32, rf_75_41, rf_75_42, rf_75_43, rf_75_44, rf_75_45, rf_75_46, rf_75_47, rf_75_48, rf_75_53, rf_75_54, rf_75_55, rf_75_57, c_75, i_75, w_75, z0_75, z1_75, up_ne (show (75 : Nat) ≠ 99 by decide), h2, nI_clamp (show h < 2 ^ 31 by omega)]
    rw [qa_101 hk]
    simp only [bnd_x, gd_0, gd_1, gd_o0, gd_o1, ite_self, rf_75_1, rf_75_3, rf_75_12, rf_75_13, rf_75_14, rf_75_15, rf_75_16, rf_75_17, rf_75_18, rf_75_22, rf_75_23, rf_75_24, rf_75_25, rf_75_31, rf_75_32, rf_75_41, rf_75_42, rf_75_43, rf_75_44, rf_75_45, rf_75_46, rf_75_47, rf_75_48, rf_75_53, rf_75_54, rf_75_55, rf_75_57, c_75, i_75, w_75, z0_75, z1_75]
    rw [ua_101 hk]
    simp only [up_ne (show (101 : Nat) ≠ 75 by decide), up_ne (show (101 : Nat) ≠ 99 by decide)]
    exact ⟨rfl, h + 1, by omega, by rw [up_ne (by decide), up_self, nI_1]⟩
def radds (k : Nat) (I : Nat → Nat → Int32) (L : List Int32) : Nat → Nat → Int32 := L.foldl (radd k) I
theorem radd_fr {I : Nat → Nat → Int32} {k : Nat} {x : Int32} : (∀ a, a ≠ 75 → a ≠ 99 → a ≠ 101 → radd k I x a = I a) ∧ (∀ j, j ≠ 56 → radd k I x 75 j = I 75 j) := by
  unfold radd
  split
  · exact ⟨fun _ _ _ _ => rfl, fun _ _ => rfl⟩
  · exact ⟨fun a a1 a2 a3 => by rw [up_ne a3, up_ne a1, up_ne a2], fun j hj => by rw [up_ne (by decide), up_at, vup_n hj, up_ne (by decide)]⟩
theorem radds_fr {k : Nat} : ∀ (L : List Int32) (I : Nat → Nat → Int32), (∀ a, a ≠ 75 → a ≠ 99 → a ≠ 101 → radds k I L a = I a) ∧ (∀ j, j ≠ 56 → radds k I L 75 j = I 75 j)
  | [], I => ⟨fun _ _ _ _ => rfl, fun _ _ => rfl⟩
  | x :: L, I => by
    obtain ⟨h1, h2⟩ := radds_fr L (radd k I x)
    obtain ⟨g1, g2⟩ := radd_fr (I := I) (k := k) (x := x)
    exact ⟨fun a a1 a2 a3 => (h1 a a1 a2 a3).trans (g1 a a1 a2 a3), fun j hj => (h2 j hj).trans (g2 j hj)⟩
theorem radd_c {I I' : Nat → Nat → Int32} {k : Nat} {x : Int32} (h1 : I' 75 56 = I 75 56) (h2 : I' 99 = I 99) (h3 : I' 101 = I 101) : radd k I' x 75 56 = radd k I x 75 56 ∧ radd k I' x 99 = radd k I x 99 ∧ radd k I' x 101 = radd k I x 101 := by
  unfold radd
  rw [h1]
  split
  · exact ⟨h1, h2, h3⟩
  · refine ⟨?_, ?_, ?_⟩
    · rw [up_ne (by decide), up_self, up_ne (by decide), up_self]
    · rw [up_ne (by decide), up_ne (by decide), up_at, up_ne (by decide), up_ne (by decide), up_at, h2]
    · rw [up_at, up_ne (by decide), up_ne (by decide), up_at, up_ne (by decide), up_ne (by decide), h3]
theorem radds_c {k : Nat} : ∀ (L : List Int32) {I I' : Nat → Nat → Int32}, I' 75 56 = I 75 56 → I' 99 = I 99 → I' 101 = I 101 → radds k I' L 75 56 = radds k I L 75 56 ∧ radds k I' L 99 = radds k I L 99 ∧ radds k I' L 101 = radds k I L 101
  | [], _, _, h1, h2, h3 => ⟨h1, h2, h3⟩
  | x :: L, I, I', h1, h2, h3 => by
    obtain ⟨g1, g2, g3⟩ := radd_c (k := k) (x := x) h1 h2 h3
    exact radds_c L g1 g2 g3
/-- the loops of uses -/
theorem clear_loop {N : Nat} (hN : N ≤ 600) (k : Int32) : ∀ (d q n : Nat) (I : Nat → Nat → Int32), q + d = N + 1 → d < n → I 75 33 = nI N →
    ∃ I' n', fX10_uses_10 n 75 k (nI q) (st I v J) = fX10_uses_10 (n' + 1) 75 k (nI (N + 1)) (st I' v J) ∧ (∀ i, q ≤ i → i ≤ N → I' 93 i = 0) ∧ (∀ i, i < q → I' 93 i = I 93 i) ∧ (∀ a, a ≠ 93 → I' a = I a) := by
  intro d
  induction d with
  | zero =>
    intro q n I hq hn h33
    obtain ⟨n, rfl⟩ : ∃ m, n = m + 1 := ⟨n - 1, by omega⟩
    exact ⟨I, n, by rw [show q = N + 1 by omega], fun i i1 i2 => by omega, fun _ _ => rfl, fun _ _ => rfl⟩
  | succ d ih =>
    intro q n I hq hn h33
    obtain ⟨n, rfl⟩ : ∃ m, n = m + 1 := ⟨n - 1, by omega⟩
    obtain ⟨I', n', f1, f2, f3, f4⟩ := ih (q + 1) n (up I 93 q 0) (by omega) (by omega) (by rw [up_ne (by decide)]; exact h33)
    refine ⟨I', n', ?_, ?_, ?_, ?_⟩
    · conv => lhs; unfold fX10_uses_10
      simp only [bnd_x, gd_0, gd_1, gd_o0, gd_o1, ite_self, rf_75_1, rf_75_3, rf_75_12, rf_75_13, rf_75_14, rf_75_15, rf_75_16, rf_75_17, rf_75_18, rf_75_22, rf_75_23, rf_75_24, rf_75_25, rf_75_31, rf_75_32, rf_75_41, rf_75_42, rf_75_43, rf_75_44, rf_75_45, rf_75_46, rf_75_47, rf_75_48, rf_75_53, rf_75_54, rf_75_55, rf_75_57, c_75, i_75, w_75, z0_75, z1_75, h33, if_neg (nI_nlt (show q ≤ N by omega) (show N < 2 ^ 31 by omega)), uz_93 (show q < 601 by omega) (Or.inl rfl)]
      rw [nI_1, f1]
    · intro i i1 i2
      by_cases e : i = q
      · rw [f3 i (by omega), up_at, e, vup_s]
      · exact f2 i (by omega) i2
    · intro i hi
      rw [f3 i (by omega), up_at, vup_n (by omega)]
    · intro a ha
      rw [f4 a ha, up_ne ha]
theorem mark_loop {N : Nat} (hN : N ≤ 600) {U : List Nat} : ∀ (d q n : Nat) (I : Nat → Nat → Int32), 1 ≤ q → q + d = N + 1 → d < n → I 75 33 = nI N → UA I N U →
    ∃ I', fX10_uses_154 n 75 (nI q) (st I v J) = some (st I' v J) ∧ (∀ i, q ≤ i → i ≤ N → I' 92 i = if i ∈ U then 1 else if I 92 i = 0 then 0 else 1) ∧ (∀ i, i < q → I' 92 i = I 92 i) ∧ (∀ a, a ≠ 92 → I' a = I a) := by
  intro d
  induction d with
  | zero =>
    intro q n I q1 hq hn h33 hU
    obtain ⟨n, rfl⟩ : ∃ m, n = m + 1 := ⟨n - 1, by omega⟩
    refine ⟨I, ?_, fun i i1 i2 => by omega, fun _ _ => rfl, fun _ _ => rfl⟩
    unfold fX10_uses_154
    simp only [bnd_x, gd_0, gd_1, gd_o0, gd_o1, ite_self, rf_75_1, rf_75_3, rf_75_12, rf_75_13, rf_75_14, rf_75_15, rf_75_16, rf_75_17, rf_75_18, rf_75_22, rf_75_23, rf_75_24, rf_75_25, rf_75_31, rf_75_32, rf_75_41, rf_75_42, rf_75_43, rf_75_44, rf_75_45, rf_75_46, rf_75_47, rf_75_48, rf_75_53, rf_75_54, rf_75_55, rf_75_57, c_75, i_75, w_75, z0_75, z1_75, h33, if_pos (nI_lt (show N < q by omega) (show q < 2 ^ 31 by omega))]
  | succ d ih =>
    intro q n I q1 hq hn h33 hU
    obtain ⟨n, rfl⟩ : ∃ m, n = m + 1 := ⟨n - 1, by omega⟩
    have hx : ∃ x, (x = 0 ∨ x = 1) ∧ x = (if q ∈ U then (1 : Int32) else if I 92 q = 0 then 0 else 1) ∧ fX10_uses_154 (n + 1) 75 (nI q) (st I v J) = fX10_uses_154 n 75 (nI (q + 1)) (st (up I 92 q x) v J) := by
      have e1 : ∀ y : Int32, (y = 0 ∨ y = 1) → fX10_uses_190 (fX10_uses_154 n) 75 (nI q) y (nI q) 92 (st I v J) = fX10_uses_154 n 75 (nI (q + 1)) (st (up I 92 q y) v J) := by
        intro y hy
        unfold fX10_uses_190
        rw [uz_92 (show q < 601 by omega) hy, bnd_x, nI_1]
      have e2 : fX10_uses_154 (n + 1) 75 (nI q) (st I v J) = if I 92 q = 0 then (if I 93 q = 0 then fX10_uses_190 (fX10_uses_154 n) 75 (nI q) 0 (nI q) 92 (st I v J) else fX10_uses_190 (fX10_uses_154 n) 75 (nI q) 1 (nI q) 92 (st I v J)) else fX10_uses_190 (fX10_uses_154 n) 75 (nI q) 1 (nI q) 92 (st I v J) := by
        conv => lhs; unfold fX10_uses_154
        simp only [bnd_x, gd_0, gd_1, gd_o0, gd_o1, ite_self, rf_75_1, rf_75_3, rf_75_12, rf_75_13, rf_75_14, rf_75_15, rf_75_16, rf_75_17, rf_75_18, rf_75_22, rf_75_23, rf_75_24, rf_75_25, rf_75_31, rf_75_32, rf_75_41, rf_75_42, rf_75_43, rf_75_44, rf_75_45, rf_75_46, rf_75_47, rf_75_48, rf_75_53, rf_75_54, rf_75_55, rf_75_57, c_75, i_75, w_75, z0_75, z1_75, h33, if_neg (nI_nlt (show q ≤ N by omega) (show N < 2 ^ 31 by omega)), qa_92 (show q < 601 by omega), qa_93 (show q < 601 by omega), fX10_uses_185]
      rw [e2, hU q (by omega)]
      by_cases m : q ∈ U
      · refine ⟨1, Or.inr rfl, by rw [if_pos m], ?_⟩
        rw [e1 1 (Or.inr rfl)]
        split
        · rw [if_neg (by simp [b2, m])]
        · rfl
      · by_cases z : I 92 q = 0
        · exact ⟨0, Or.inl rfl, by rw [if_neg m, if_pos z], by rw [if_pos z, if_pos (by simp [b2, m]), e1 0 (Or.inl rfl)]⟩
        · exact ⟨1, Or.inr rfl, by rw [if_neg m, if_neg z], by rw [if_neg z, e1 1 (Or.inr rfl)]⟩
    obtain ⟨x, x1, x2, x3⟩ := hx
    obtain ⟨I', f1, f2, f3, f4⟩ := ih (q + 1) n (up I 92 q x) (by omega) (by omega) (by omega) (by rw [up_ne (by decide)]; exact h33) (by intro k hk; rw [up_ne (by decide)]; exact hU k hk)
    refine ⟨I', by rw [x3, f1], ?_, ?_, ?_⟩
    · intro i i1 i2
      by_cases e : i = q
      · rw [f3 i (by omega), up_at, e, vup_s, x2]
      · rw [f2 i (by omega) i2, up_at, vup_n e]
    · intro i hi
      rw [f3 i (by omega), up_at, vup_n (by omega)]
    · intro a ha
      rw [f4 a ha, up_ne ha]
theorem back_loop (hO : OKD N sz lt) {n : Nat} (hn : n ≤ 150) (rs : Nat → Nat) (tl : Nat → Int32) (hrs : ∀ t, t < n → rs t ≤ N) (k : Int32) : ∀ (t f : Nat) (I : Nat → Nat → Int32) (U : List Nat), t ≤ n → t < f → DBR I N sz lt → UA I N U → (∀ q ∈ U, 1 ≤ q ∧ q ≤ N) → (∀ q, q < n → I 98 q = nI (rs q) ∧ I 97 q = tl q) →
    ∃ I', fX10_uses_48 f 75 k (nI t - 1) (st I v J) = fX10_uses_95 zfu 75 k 0 (st I' v J) ∧ UA I' N (gs rs tl sz lt t U) ∧ (∀ a, a ≠ 93 → I' a = I a) := by
  have hN := hO.1
  intro t
  induction t with
  | zero =>
    intro f I U ht hf hR hU hUN hq
    obtain ⟨f, rfl⟩ : ∃ m, f = m + 1 := ⟨f - 1, by omega⟩
    refine ⟨I, ?_, hU, fun _ _ => rfl⟩
    conv => lhs; unfold fX10_uses_48
    rw [if_pos (by rw [nI_0]; decide)]
  | succ t ih =>
    intro f I U ht hf hR hU hUN hq
    obtain ⟨f, rfl⟩ : ∃ m, f = m + 1 := ⟨f - 1, by omega⟩
    have hrt := hrs t (by omega)
    obtain ⟨e98, e97⟩ := hq t (by omega)
    have hpos : ¬ nI t < 0 := nI_pos (by omega)
    have hm1 : nI t + (-1) = nI t - 1 := by rw [Int32.sub_eq_add_neg]
    have hstep : fX10_uses_48 (f + 1) 75 k (nI (t + 1) - 1) (st I v J) = if nI (rs t) ≤ 0 then fX10_uses_48 f 75 k (nI t - 1) (st I v J) else if U.any (fun q => hs sz lt q (- tl t)) = true then fX10_uses_48 f 75 k (nI t - 1) (st (up I 93 (rs t) 1) v J) else fX10_uses_48 f 75 k (nI t - 1) (st I v J) := by
      conv => lhs; unfold fX10_uses_48
      rw [nI_pred, if_neg hpos]
      simp only [bnd_x, gd_0, gd_1, gd_o0, gd_o1, ite_self, rf_75_1, rf_75_3, rf_75_12, rf_75_13, rf_75_14, rf_75_15, rf_75_16, rf_75_17, rf_75_18, rf_75_22, rf_75_23, rf_75_24, rf_75_25, rf_75_31, rf_75_32, rf_75_41, rf_75_42, rf_75_43, rf_75_44, rf_75_45, rf_75_46, rf_75_47, rf_75_48, rf_75_53, rf_75_54, rf_75_55, rf_75_57, c_75, i_75, w_75, z0_75, z1_75, fX10_uses_87, qa_98 (show t < 151 by omega), qa_97 (show t < 151 by omega), e98, e97, hm1, stands_ok hO hR hU hUN, uz_93 (show rs t < 601 by omega) (Or.inr rfl)]
      cases hh : U.any (fun q => hs sz lt q (- tl t)) with
      | true => simp [b2]
      | false => simp [b2]
    by_cases r0 : rs t = 0
    · obtain ⟨I', f1, f2, f3⟩ := ih f I U (by omega) (by omega) hR hU hUN hq
      refine ⟨I', by rw [hstep, r0, if_pos (by decide), f1], ?_, f3⟩
      have : gs rs tl sz lt (t + 1) U = gs rs tl sz lt t U := by
        conv => lhs; unfold gs
        rw [if_neg (by simp [r0])]
      rw [this]; exact f2
    · have hr0 : ¬ nI (rs t) ≤ 0 := nI_nle (by omega) (by omega)
      by_cases w0 : U.any (fun q => hs sz lt q (- tl t)) = true
      · obtain ⟨I', f1, f2, f3⟩ := ih f (up I 93 (rs t) 1) (rs t :: U) (by omega) (by omega) (DBR_fr hR (by rw [up_ne (by decide)]) (by rw [up_ne (by decide)]) (up_ne (by decide)) (up_ne (by decide)) (up_ne (by decide)) (up_ne (by decide)) (up_ne (by decide)) (up_ne (by decide)) (up_ne (by decide))) (by
          intro q hq
          rw [up_at]
          by_cases e : q = rs t
          · rw [e, vup_s]; simp [b2]
          · rw [vup_n e, hU q hq]; simp [b2, e]) (by
          intro q hq
          rcases List.mem_cons.mp hq with e | e
          · rw [e]; omega
          · exact hUN q e) (by rw [up_ne (by decide), up_ne (by decide)]; exact hq)
        refine ⟨I', by rw [hstep, if_neg hr0, if_pos w0, f1], ?_, fun a ha => by rw [f3 a ha, up_ne ha]⟩
        have : gs rs tl sz lt (t + 1) U = gs rs tl sz lt t (rs t :: U) := by
          conv => lhs; unfold gs
          rw [if_pos ⟨r0, w0⟩]
        rw [this]; exact f2
      · obtain ⟨I', f1, f2, f3⟩ := ih f I U (by omega) (by omega) hR hU hUN hq
        refine ⟨I', by rw [hstep, if_neg hr0, if_neg w0, f1], ?_, f3⟩
        have : gs rs tl sz lt (t + 1) U = gs rs tl sz lt t U := by
          conv => lhs; unfold gs
          rw [if_neg (fun q => w0 q.2)]
        rw [this]; exact f2
theorem hint_loop {n : Nat} (hn : n ≤ 150) (hN : N ≤ 600) (rs : Nat → Nat) (hrs : ∀ t, t < n → rs t ≤ N) {k : Nat} (hk : k < 601) {U : List Nat} : ∀ (d t f : Nat) (I : Nat → Nat → Int32), t + d = n → d < f → hb I → I 75 49 = nI n → UA I N U → (∀ q, q < n → I 98 q = nI (rs q)) →
    ∃ f', fX10_uses_95 f 75 (nI k) (nI t) (st I v J) = fX10_uses_95 (f' + 1) 75 (nI k) (nI n) (st (radds k I ((((List.range' t d).filter (fun q => decide (rs q ≠ 0 ∧ rs q ∈ U))).map rs).map nI)) v J) ∧ hb (radds k I ((((List.range' t d).filter (fun q => decide (rs q ≠ 0 ∧ rs q ∈ U))).map rs).map nI)) := by
  intro d
  induction d with
  | zero =>
    intro t f I ht hf hh h49 hU hq
    obtain ⟨f, rfl⟩ : ∃ m, f = m + 1 := ⟨f - 1, by omega⟩
    exact ⟨f, by rw [show t = n by omega]; rfl, hh⟩
  | succ d ih =>
    intro t f I ht hf hh h49 hU hq
    obtain ⟨f, rfl⟩ : ∃ m, f = m + 1 := ⟨f - 1, by omega⟩
    have hr : List.range' t (d + 1) = t :: List.range' (t + 1) d := by simp [List.range'_succ]
    have hrt := hrs t (by omega)
    have e98 := hq t (by omega)
    obtain ⟨a1, a2⟩ := radd_ok (v := v) (J := J) hk hh (nI (rs t))
    have hstep : fX10_uses_95 (f + 1) 75 (nI k) (nI t) (st I v J) = if nI (rs t) ≤ 0 then fX10_uses_95 f 75 (nI k) (nI (t + 1)) (st I v J) else if rs t ∈ U then fX10_uses_95 f 75 (nI k) (nI (t + 1)) (st (radd k I (nI (rs t))) v J) else fX10_uses_95 f 75 (nI k) (nI (t + 1)) (st I v J) := by
      conv => lhs; unfold fX10_uses_95
      simp only [bnd_x, gd_0, gd_1, gd_o0, gd_o1, ite_self, rf_75_1, rf_75_3, rf_75_12, rf_75_13, rf_75_14, rf_75_15, rf_75_16, rf_75_17, rf_75_18, rf_75_22, rf_75_23, rf_75_24, rf_75_25, rf_75_31, rf_75_32, rf_75_41, rf_75_42, rf_75_43, rf_75_44, rf_75_45, rf_75_46, rf_75_47, rf_75_48, rf_75_53, rf_75_54, rf_75_55, rf_75_57, c_75, i_75, w_75, z0_75, z1_75, h49, if_neg (nI_ge (show t < n by omega) (show n < 2 ^ 31 by omega)), fX10_uses_137, qa_98 (show t < 151 by omega), e98, qa_93 (show rs t < 601 by omega), hU (rs t) hrt, a1, nI_1]
      by_cases m : rs t ∈ U
      · simp [b2, m]
      · simp [b2, m]
    rw [hr, List.filter_cons]
    by_cases c : rs t ≠ 0 ∧ rs t ∈ U
    · obtain ⟨f', g1, g2⟩ := ih (t + 1) f (radd k I (nI (rs t))) (by omega) (by omega) a2 (by rw [radd_fr.2 49 (by decide)]; exact h49) (by intro q hq; rw [radd_fr.1 93 (by decide) (by decide) (by decide)]; exact hU q hq) (by rw [radd_fr.1 98 (by decide) (by decide) (by decide)]; exact hq)
      rw [if_pos (by simpa using c)]
      refine ⟨f', ?_, g2⟩
      rw [hstep, if_neg (nI_nle (by omega) (by omega)), if_pos c.2, g1]
      rfl
    · obtain ⟨f', g1, g2⟩ := ih (t + 1) f I (by omega) (by omega) hh h49 hU hq
      rw [if_neg (by simpa using c)]
      refine ⟨f', ?_, g2⟩
      rw [hstep]
      by_cases z : rs t = 0
      · rw [z, if_pos (by decide), g1]
      · rw [if_neg (nI_nle (by omega) (by omega)), if_neg (fun q => c ⟨z, q⟩), g1]
theorem uses_ok (hO : OKD N sz lt) {I : Nat → Nat → Int32} {n c : Nat} (hn : n ≤ 150) (rs : Nat → Nat) (hrs : ∀ t, t < n → rs t ≤ N ∧ I 98 t = nI (rs t)) (hRD : RD rs n c) (hR : DBR I N sz lt) (h49 : I 75 49 = nI n) (h50 : I 75 50 = nI c) (c1 : 1 ≤ c) (c2 : c ≤ N) (hh : hb I) {k : Nat} (hk : k < 601) :
    ∃ I', fX10_uses 75 (nI k) (st I v J) = some (st I' v J) ∧ I' 75 = radds k I ((gs rs (I 97) sz lt n [c]).map nI) 75 ∧ I' 99 = radds k I ((gs rs (I 97) sz lt n [c]).map nI) 99 ∧ I' 101 = radds k I ((gs rs (I 97) sz lt n [c]).map nI) 101 ∧ (∀ q, 1 ≤ q → q ≤ N → I' 92 q = if q ∈ gs rs (I 97) sz lt n [c] then 1 else if I 92 q = 0 then 0 else 1) ∧ (∀ a, a ≠ 75 → a ≠ 92 → a ≠ 93 → a ≠ 99 → a ≠ 101 → I' a = I a) := by
  have hN := hO.1
  have hz := zfu_big
  obtain ⟨I1, n1, a1, a2, a3, a4⟩ := clear_loop (v := v) (J := J) hN (nI k) (N + 1) 0 zfu I (by omega) (by omega) hR.1
  have hI2 : ∀ a, a ≠ 93 → up I1 93 c 1 a = I a := fun a ha => by rw [up_ne ha, a4 a ha]
  have hUA : UA (up I1 93 c 1) N [c] := by
    intro q hq
    rw [up_at]
    by_cases e : q = c
    · rw [e, vup_s]; simp [b2]
    · rw [vup_n e, a2 q (by omega) hq]; simp [b2, e]
  have hR2 : DBR (up I1 93 c 1) N sz lt := DBR_fr hR (by rw [hI2 75 (by decide)]) (by rw [hI2 75 (by decide)]) (hI2 _ (by decide)) (hI2 _ (by decide)) (hI2 _ (by decide)) (hI2 _ (by decide)) (hI2 _ (by decide)) (hI2 _ (by decide)) (hI2 _ (by decide))
  obtain ⟨I3, b1, b2', b3⟩ := back_loop (v := v) (J := J) hO hn rs (I 97) (fun t ht => (hrs t ht).1) (nI k) n zfu (up I1 93 c 1) [c] (Nat.le_refl _) (by omega) hR2 hUA (by simp; omega) (by
    intro q hq
    rw [hI2 98 (by decide), hI2 97 (by decide)]
    exact ⟨(hrs q hq).2, rfl⟩)
  have hI3 : ∀ a, a ≠ 93 → I3 a = I a := fun a ha => by rw [b3 a ha, hI2 a ha]
  obtain ⟨f', g1, g2⟩ := hint_loop (v := v) (J := J) hn hN rs (fun t ht => (hrs t ht).1) hk (U := gs rs (I 97) sz lt n [c]) n 0 zfu I3 (by omega) (by omega) (by obtain ⟨h, h1, h2⟩ := hh; exact ⟨h, h1, by rw [hI3 75 (by decide)]; exact h2⟩) (by rw [hI3 75 (by decide)]; exact h49) b2' (by
    intro q hq
    rw [hI3 98 (by decide)]; exact (hrs q hq).2)
  rw [← List.range_eq_range'] at g1 g2
  generalize hG : ((List.range n).filter (fun q => decide (rs q ≠ 0 ∧ rs q ∈ gs rs (I 97) sz lt n [c]))).map rs = G at g1 g2
  have hUG : gs rs (I 97) sz lt n [c] = G ++ [c] := by
    rw [← hG]; exact gs_list hRD
  obtain ⟨k1, k2⟩ := radd_ok (v := v) (J := J) hk g2 (nI c)
  have hfull : radd k (radds k I3 (G.map nI)) (nI c) = radds k I3 ((gs rs (I 97) sz lt n [c]).map nI) := by
    rw [hUG]; simp [radds]
  rw [hfull] at k1 k2
  obtain ⟨h1, h2⟩ := radds_fr (k := k) ((gs rs (I 97) sz lt n [c]).map nI) I3
  obtain ⟨w1, w2⟩ := radds_fr (k := k) (G.map nI) I3
  obtain ⟨I', m1, m2, m3, m4⟩ := mark_loop (v := v) (J := J) hN (U := gs rs (I 97) sz lt n [c]) N 1 zfu (radds k I3 ((gs rs (I 97) sz lt n [c]).map nI)) (by omega) (by omega) (by omega) (by rw [h2 33 (by decide), hI3 75 (by decide)]; exact hR.1) (by intro q hq; rw [h1 93 (by decide) (by decide) (by decide)]; exact b2' q hq)
  obtain ⟨r1, r2, r3⟩ := radds_c (k := k) ((gs rs (I 97) sz lt n [c]).map nI) (I := I) (I' := I3) (by rw [hI3 75 (by decide)]) (hI3 99 (by decide)) (hI3 101 (by decide))
  refine ⟨I', ?_, ?_, ?_, ?_, ?_, ?_⟩
  · rw [nI_0] at a1 g1
    have e50 : I1 75 50 = nI c := by rw [a4 75 (by decide)]; exact h50
    have e33 : I1 75 33 = nI N := by rw [a4 75 (by decide)]; exact hR.1
    have e49 : up I1 93 c 1 75 49 = nI n := by rw [hI2 75 (by decide)]; exact h49
    have l1 : fX10_uses_10 (n1 + 1) 75 (nI k) (nI (N + 1)) (st I1 v J) = fX10_uses_48 zfu 75 (nI k) (nI n - 1) (st (up I1 93 c 1) v J) := by
      conv => lhs; unfold fX10_uses_10
      simp only [bnd_x, gd_0, gd_1, gd_o0, gd_o1, ite_self, rf_75_1, rf_75_3, rf_75_12, rf_75_13, rf_75_14, rf_75_15, rf_75_16, rf_75_17, rf_75_18, rf_75_22, rf_75_23, rf_75_24, rf_75_25, rf_75_31, rf_75_32, rf_75_41, rf_75_42, rf_75_43, rf_75_44, rf_75_45, rf_75_46, rf_75_47, rf_75_48, rf_75_53, rf_75_54, rf_75_55, rf_75_57, c_75, i_75, w_75, z0_75, z1_75, e33, if_pos (nI_lt (show N < N + 1 by omega) (show N + 1 < 2 ^ 31 by omega)), e50, uz_93 (show c < 601 by omega) (Or.inr rfl), e49]
    have l2 : fX10_uses_95 (f' + 1) 75 (nI k) (nI n) (st (radds k I3 (G.map nI)) v J) = fX10_uses_154 zfu 75 (nI 1) (st (radds k I3 ((gs rs (I 97) sz lt n [c]).map nI)) v J) := by
      have e491 : radds k I3 (G.map nI) 75 49 = nI n := by rw [w2 49 (by decide), hI3 75 (by decide)]; exact h49
      have e501 : radds k I3 (G.map nI) 75 50 = nI c := by rw [w2 50 (by decide), hI3 75 (by decide)]; exact h50
      conv => lhs; unfold fX10_uses_95
      simp only [bnd_x, gd_0, gd_1, gd_o0, gd_o1, ite_self, rf_75_1, rf_75_3, rf_75_12, rf_75_13, rf_75_14, rf_75_15, rf_75_16, rf_75_17, rf_75_18, rf_75_22, rf_75_23, rf_75_24, rf_75_25, rf_75_31, rf_75_32, rf_75_41, rf_75_42, rf_75_43, rf_75_44, rf_75_45, rf_75_46, rf_75_47, rf_75_48, rf_75_53, rf_75_54, rf_75_55, rf_75_57, c_75, i_75, w_75, z0_75, z1_75, e491, if_pos (nI_le (Nat.le_refl n) (show n < 2 ^ 31 by omega)), e501, k1]
      rfl
    unfold fX10_uses
    simp only [bnd_x, gd_0, gd_1, gd_o0, gd_o1, ite_self, rf_75_1, rf_75_3, rf_75_12, rf_75_13, rf_75_14, rf_75_15, rf_75_16, rf_75_17, rf_75_18, rf_75_22, rf_75_23, rf_75_24, rf_75_25, rf_75_31, rf_75_32, rf_75_41, rf_75_42, rf_75_43, rf_75_44, rf_75_45, rf_75_46, rf_75_47, rf_75_48, rf_75_53, rf_75_54, rf_75_55, rf_75_57, c_75, i_75, w_75, z0_75, z1_75, h50, if_neg (nI_ne0 (show 0 < c by omega) (show c < 2 ^ 31 by omega))]
    rw [a1, l1, b1, g1, l2, m1]
  · funext j
    rw [m4 75 (by decide)]
    by_cases e : j = 56
    · rw [e]; exact r1
    · rw [h2 j e, hI3 75 (by decide)]
      exact ((radds_fr (k := k) ((gs rs (I 97) sz lt n [c]).map nI) I).2 j e).symm
  · rw [m4 99 (by decide)]; exact r2
  · rw [m4 101 (by decide)]; exact r3
  · intro q q1 q2
    rw [m2 q q1 q2, h1 92 (by decide) (by decide) (by decide), hI3 92 (by decide)]
  · intro a x1 x2 x3 x4 x5
    rw [m4 a x2, h1 a x1 x4 x5, hI3 a x3]
theorem uses_0 {I : Nat → Nat → Int32} (h50 : I 75 50 = 0) (k : Int32) : fX10_uses 75 k (st I v J) = some (st I v J) := by
  unfold fX10_uses
  simp only [bnd_x, gd_0, gd_1, gd_o0, gd_o1, ite_self, rf_75_1, rf_75_3, rf_75_12, rf_75_13, rf_75_14, rf_75_15, rf_75_16, rf_75_17, rf_75_18, rf_75_22, rf_75_23, rf_75_24, rf_75_25, rf_75_31, rf_75_32, rf_75_41, rf_75_42, rf_75_43, rf_75_44, rf_75_45, rf_75_46, rf_75_47, rf_75_48, rf_75_53, rf_75_54, rf_75_55, rf_75_57, c_75, i_75, w_75, z0_75, z1_75, h50]
  rfl
end
