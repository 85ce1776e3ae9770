/-! THE PURE SIDE. Words over the frozen heap: a state is st I v J. -/
theorem bnd_s {α β : Type} (x : α) (f : α → Option β) : bnd (some x) f = f x := rfl
def ok0 (c r : Nat) : Bool := (K0 r).1 == c && decide (0 < r) && decide (r ≤ 103)
theorem ok0_i {c r : Nat} (h : ok0 c r = true) : (K0 r).1 = c ∧ 0 < r ∧ r ≤ 103 := by
  simp only [ok0, Bool.and_eq_true, beq_iff_eq, decide_eq_true_eq] at h
  exact ⟨h.1.1, h.1.2, h.2⟩
def up (I : Nat → Nat → Int32) (r k : Nat) (x : Int32) : Nat → Nat → Int32 := fun a j => if a = r ∧ j = k then x else I a j
section
variable {I : Nat → Nat → Int32} {v : zV} {J : Nat → Nat → Int64}
theorem up_ne {r k a : Nat} {x : Int32} (h : a ≠ r) : up I r k x a = I a := by
  funext j
  simp [up, h]
theorem up_eq (r k : Nat) (x : Int32) (j : Nat) : up I r k x r j = if j = k then x else I r j := by simp [up]
theorem up_self (r k : Nat) (x : Int32) : up I r k x r k = x := by simp [up]
theorem up_get (r k : Nat) (x : Int32) (a j : Nat) : up I r k x a j = if a = r ∧ j = k then x else I a j := rfl
theorem qI_st {c r k : Nat} (h : ok0 c r = true) : qI (st I v J) c r k = some (I r k) := if_pos (ok0_i h)
theorem cl_st {α : Type} {c r : Nat} {o : Option α} (h : ok0 c r = true) : cl (st I v J) c r o = o := if_pos (ok0_i h)
theorem wI_st {c r k : Nat} {x : Int32} (h : ok0 c r = true) : wI (st I v J) c r k x = some (st (up I r k x) v J) := if_pos (ok0_i h)
theorem wZ_st {c r k : Nat} {x : Int32} (h : ok0 c r = true) (hx : x = 0 ∨ x = 1) : wZ (st I v J) c r k x = some (st (up I r k x) v J) := if_pos ⟨ok0_i h, hx⟩
theorem qL_st {c r : Nat} (h : ok0 c r = true) : qL (st I v J) c r = some (nI (K0 r).2) := if_pos (ok0_i h)
theorem K0_lt : ∀ r, (K0 r).2 < 2 ^ 31 := by
  intro r
  by_cases h : r < 104
  · have : ∀ r, r < 104 → (K0 r).2 < 2 ^ 31 := by decide +kernel
    exact this r h
  · have : K0 r = (0, 0) := by
      unfold K0
      rw [List.getD_eq_getElem?_getD, List.getElem?_eq_none]
      · rfl
      · show 104 ≤ r; omega
    rw [this]; decide
theorem in_i {i : Int32} {n : Nat} (hn : n < 2 ^ 31) : ¬ (i < 0 ∨ n ≤ i.toNatClampNeg) ↔ ∃ k, k < n ∧ i = nI k := by
  constructor
  · intro h; exact vp_in_of h hn
  · rintro ⟨k, hk, rfl⟩; exact vp_in_nI hk hn
theorem qA_st {c r k : Nat} (h : ok0 c r = true) (hk : k < (K0 r).2) : qA (st I v J) c r (nI k) = some (I r k) := by
  have h1 : vp_in (nI k) (K0 r).2 := vp_in_nI hk (K0_lt r)
  have h2 : (nI k).toNatClampNeg = k := nI_clamp (Nat.lt_trans hk (K0_lt r))
  unfold qA
  refine (if_pos ⟨ok0_i h, h1⟩).trans ?_
  rw [h2]
  rfl
theorem uI_st {r k : Nat} {x : Int32} (h : ok0 12 r = true) (hk : k < (K0 r).2) : uI (st I v J) r (nI k) x = some (st (up I r k x) v J) := by
  have h1 : vp_in (nI k) (K0 r).2 := vp_in_nI hk (K0_lt r)
  have h2 : (nI k).toNatClampNeg = k := nI_clamp (Nat.lt_trans hk (K0_lt r))
  unfold uI
  refine (if_pos ⟨ok0_i h, h1⟩).trans ?_
  rw [h2]
  rfl
theorem uB_st {r k : Nat} {x : Int32} (h : ok0 11 r = true) (hk : k < (K0 r).2) : uB (st I v J) r (nI k) x = some (st (up I r k x.toInt8.toInt32) v J) := by
  have h1 : vp_in (nI k) (K0 r).2 := vp_in_nI hk (K0_lt r)
  have h2 : (nI k).toNatClampNeg = k := nI_clamp (Nat.lt_trans hk (K0_lt r))
  unfold uB
  refine (if_pos ⟨ok0_i h, h1⟩).trans ?_
  rw [h2]
  rfl
theorem uZ_st {r k : Nat} {x : Int32} (h : ok0 13 r = true) (hk : k < (K0 r).2) (hx : x = 0 ∨ x = 1) : uZ (st I v J) r (nI k) x = some (st (up I r k x) v J) := by
  have h1 : vp_in (nI k) (K0 r).2 := vp_in_nI hk (K0_lt r)
  have h2 : (nI k).toNatClampNeg = k := nI_clamp (Nat.lt_trans hk (K0_lt r))
  unfold uZ
  refine (if_pos ⟨⟨ok0_i h, h1⟩, hx⟩).trans ?_
  rw [h2]
  rfl
theorem gd_t {α : Type} {P : Prop} [Decidable P] {o : Option α} (h : P) : gd P o = o := if_pos h
theorem gd_0 {α : Type} (o : Option α) : gd ((0 : Int32) = 0 ∨ (0 : Int32) = 1) o = o := if_pos (Or.inl rfl)
theorem gd_1 {α : Type} (o : Option α) : gd ((1 : Int32) = 0 ∨ (1 : Int32) = 1) o = o := if_pos (Or.inr rfl)
theorem rf_1_0 : qR (st I v J) 9 1 0 = some 2 := rfl
theorem rf_1_1 : qR (st I v J) 9 1 1 = some 4 := rfl
theorem rf_1_5 : qR (st I v J) 9 1 5 = some 27 := rfl
theorem rf_1_6 : qR (st I v J) 9 1 6 = some 29 := rfl
theorem rf_1_7 : qR (st I v J) 9 1 7 = some 42 := rfl
theorem rf_2_0 : qR (st I v J) 0 2 0 = some 3 := rfl
theorem rf_4_0 : qR (st I v J) 0 4 0 = some 5 := rfl
theorem rf_6_0 : qR (st I v J) 7 6 0 = some 7 := rfl
theorem rf_6_1 : qR (st I v J) 7 6 1 = some 9 := rfl
theorem rf_6_2 : qR (st I v J) 7 6 2 = some 11 := rfl
theorem rf_7_0 : qR (st I v J) 6 7 0 = some 8 := rfl
theorem rf_9_0 : qR (st I v J) 6 9 0 = some 10 := rfl
theorem rf_11_0 : qR (st I v J) 6 11 0 = some 12 := rfl
theorem rf_13_0 : qR (st I v J) 7 13 0 = some 14 := rfl
theorem rf_13_1 : qR (st I v J) 7 13 1 = some 16 := rfl
theorem rf_13_2 : qR (st I v J) 7 13 2 = some 18 := rfl
theorem rf_14_0 : qR (st I v J) 6 14 0 = some 15 := rfl
theorem rf_16_0 : qR (st I v J) 6 16 0 = some 17 := rfl
theorem rf_18_0 : qR (st I v J) 6 18 0 = some 19 := rfl
theorem rf_20_0 : qR (st I v J) 7 20 0 = some 21 := rfl
theorem rf_20_1 : qR (st I v J) 7 20 1 = some 23 := rfl
theorem rf_20_2 : qR (st I v J) 7 20 2 = some 25 := rfl
theorem rf_21_0 : qR (st I v J) 6 21 0 = some 22 := rfl
theorem rf_23_0 : qR (st I v J) 6 23 0 = some 24 := rfl
theorem rf_25_0 : qR (st I v J) 6 25 0 = some 26 := rfl
theorem rf_27_0 : qR (st I v J) 5 27 0 = some 28 := rfl
theorem rf_29_0 : qR (st I v J) 1 29 0 = some 30 := rfl
theorem rf_29_1 : qR (st I v J) 1 29 1 = some 32 := rfl
theorem rf_29_2 : qR (st I v J) 1 29 2 = some 34 := rfl
theorem rf_29_3 : qR (st I v J) 1 29 3 = some 36 := rfl
theorem rf_29_4 : qR (st I v J) 1 29 4 = some 38 := rfl
theorem rf_29_5 : qR (st I v J) 1 29 5 = some 40 := rfl
theorem rf_30_0 : qR (st I v J) 6 30 0 = some 31 := rfl
theorem rf_32_0 : qR (st I v J) 6 32 0 = some 33 := rfl
theorem rf_34_0 : qR (st I v J) 6 34 0 = some 35 := rfl
theorem rf_36_0 : qR (st I v J) 6 36 0 = some 37 := rfl
theorem rf_38_0 : qR (st I v J) 6 38 0 = some 39 := rfl
theorem rf_40_0 : qR (st I v J) 6 40 0 = some 41 := rfl
theorem rf_42_0 : qR (st I v J) 3 42 0 = some 29 := rfl
theorem rf_42_1 : qR (st I v J) 3 42 1 = some 52 := rfl
theorem rf_42_2 : qR (st I v J) 3 42 2 = some 43 := rfl
theorem rf_42_3 : qR (st I v J) 3 42 3 = some 50 := rfl
theorem rf_43_0 : qR (st I v J) 2 43 0 = some 44 := rfl
theorem rf_43_1 : qR (st I v J) 2 43 1 = some 46 := rfl
theorem rf_43_2 : qR (st I v J) 2 43 2 = some 48 := rfl
theorem rf_44_0 : qR (st I v J) 6 44 0 = some 45 := rfl
theorem rf_46_0 : qR (st I v J) 6 46 0 = some 47 := rfl
theorem rf_48_0 : qR (st I v J) 6 48 0 = some 49 := rfl
theorem rf_50_0 : qR (st I v J) 6 50 0 = some 51 := rfl
theorem rf_52_0 : qR (st I v J) 4 52 0 = some 29 := rfl
theorem rf_52_1 : qR (st I v J) 4 52 1 = some 53 := rfl
theorem rf_52_2 : qR (st I v J) 4 52 2 = some 55 := rfl
theorem rf_52_3 : qR (st I v J) 4 52 3 = some 57 := rfl
theorem rf_52_4 : qR (st I v J) 4 52 4 = some 59 := rfl
theorem rf_52_5 : qR (st I v J) 4 52 5 = some 61 := rfl
theorem rf_52_6 : qR (st I v J) 4 52 6 = some 63 := rfl
theorem rf_52_7 : qR (st I v J) 4 52 7 = some 65 := rfl
theorem rf_52_8 : qR (st I v J) 4 52 8 = some 67 := rfl
theorem rf_52_9 : qR (st I v J) 4 52 9 = some 69 := rfl
theorem rf_52_10 : qR (st I v J) 4 52 10 = some 71 := rfl
theorem rf_52_11 : qR (st I v J) 4 52 11 = some 73 := rfl
theorem rf_53_0 : qR (st I v J) 6 53 0 = some 54 := rfl
theorem rf_55_0 : qR (st I v J) 6 55 0 = some 56 := rfl
theorem rf_57_0 : qR (st I v J) 6 57 0 = some 58 := rfl
theorem rf_59_0 : qR (st I v J) 6 59 0 = some 60 := rfl
theorem rf_61_0 : qR (st I v J) 6 61 0 = some 62 := rfl
theorem rf_63_0 : qR (st I v J) 6 63 0 = some 64 := rfl
theorem rf_65_0 : qR (st I v J) 6 65 0 = some 66 := rfl
theorem rf_67_0 : qR (st I v J) 6 67 0 = some 68 := rfl
theorem rf_69_0 : qR (st I v J) 6 69 0 = some 70 := rfl
theorem rf_71_0 : qR (st I v J) 6 71 0 = some 72 := rfl
theorem rf_73_0 : qR (st I v J) 6 73 0 = some 74 := rfl
theorem rf_75_1 : qR (st I v J) 10 75 1 = some 76 := rfl
theorem rf_75_3 : qR (st I v J) 10 75 3 = some 77 := rfl
theorem rf_75_12 : qR (st I v J) 10 75 12 = some 78 := rfl
theorem rf_75_13 : qR (st I v J) 10 75 13 = some 79 := rfl
theorem rf_75_14 : qR (st I v J) 10 75 14 = some 80 := rfl
theorem rf_75_15 : qR (st I v J) 10 75 15 = some 81 := rfl
theorem rf_75_16 : qR (st I v J) 10 75 16 = some 82 := rfl
theorem rf_75_17 : qR (st I v J) 10 75 17 = some 83 := rfl
theorem rf_75_18 : qR (st I v J) 10 75 18 = some 84 := rfl
theorem rf_75_22 : qR (st I v J) 10 75 22 = some 85 := rfl
theorem rf_75_23 : qR (st I v J) 10 75 23 = some 86 := rfl
theorem rf_75_24 : qR (st I v J) 10 75 24 = some 87 := rfl
theorem rf_75_25 : qR (st I v J) 10 75 25 = some 88 := rfl
theorem rf_75_31 : qR (st I v J) 10 75 31 = some 89 := rfl
theorem rf_75_32 : qR (st I v J) 10 75 32 = some 90 := rfl
theorem rf_75_41 : qR (st I v J) 10 75 41 = some 91 := rfl
theorem rf_75_42 : qR (st I v J) 10 75 42 = some 92 := rfl
theorem rf_75_43 : qR (st I v J) 10 75 43 = some 93 := rfl
theorem rf_75_44 : qR (st I v J) 10 75 44 = some 94 := rfl
theorem rf_75_45 : qR (st I v J) 10 75 45 = some 95 := rfl
theorem rf_75_46 : qR (st I v J) 10 75 46 = some 96 := rfl
theorem rf_75_47 : qR (st I v J) 10 75 47 = some 97 := rfl
theorem rf_75_48 : qR (st I v J) 10 75 48 = some 98 := rfl
theorem rf_75_53 : qR (st I v J) 10 75 53 = some 99 := rfl
theorem rf_75_54 : qR (st I v J) 10 75 54 = some 100 := rfl
theorem rf_75_55 : qR (st I v J) 10 75 55 = some 101 := rfl
theorem rf_75_57 : qR (st I v J) 10 75 57 = some 102 := rfl
theorem rv_1_2 (h : v.1 ≠ 0) : qR (st I v J) 9 1 2 = some v.1 := if_pos ⟨⟨rfl, Nat.lt_of_sub_eq_succ rfl, Nat.le_of_ble_eq_true rfl⟩, h⟩
theorem RR_1_2 (x : Nat) : (fun a j => if a = 1 ∧ j = 2 then x else RR v a j) = RR (x, v.2.1, v.2.2.1, v.2.2.2.1, v.2.2.2.2.1, v.2.2.2.2.2.1, v.2.2.2.2.2.2) := by
  funext a j
  unfold RR
  by_cases h : a = 1 ∧ j = 2
  · obtain ⟨rfl, rfl⟩ := h; simp
  · simp only [if_neg h]
theorem wv_1_2 {x : Nat} (h : x ≠ 0) : wR (st I v J) 9 1 2 x = some (st I (x, v.2.1, v.2.2.1, v.2.2.2.1, v.2.2.2.2.1, v.2.2.2.2.2.1, v.2.2.2.2.2.2) J) := by
  unfold wR
  rw [if_pos ⟨⟨rfl, Nat.lt_of_sub_eq_succ rfl, Nat.le_of_ble_eq_true rfl⟩, h⟩]
  show some ((st I v J).1, (st I v J).2.1, I, (fun a j => if a = 1 ∧ j = 2 then x else RR v a j), J) = _
  rw [RR_1_2]
  rfl
theorem rv_1_3 (h : v.2.1 ≠ 0) : qR (st I v J) 9 1 3 = some v.2.1 := if_pos ⟨⟨rfl, Nat.lt_of_sub_eq_succ rfl, Nat.le_of_ble_eq_true rfl⟩, h⟩
theorem RR_1_3 (x : Nat) : (fun a j => if a = 1 ∧ j = 3 then x else RR v a j) = RR (v.1, x, v.2.2.1, v.2.2.2.1, v.2.2.2.2.1, v.2.2.2.2.2.1, v.2.2.2.2.2.2) := by
  funext a j
  unfold RR
  by_cases h : a = 1 ∧ j = 3
  · obtain ⟨rfl, rfl⟩ := h; simp
  · simp only [if_neg h]
theorem wv_1_3 {x : Nat} (h : x ≠ 0) : wR (st I v J) 9 1 3 x = some (st I (v.1, x, v.2.2.1, v.2.2.2.1, v.2.2.2.2.1, v.2.2.2.2.2.1, v.2.2.2.2.2.2) J) := by
  unfold wR
  rw [if_pos ⟨⟨rfl, Nat.lt_of_sub_eq_succ rfl, Nat.le_of_ble_eq_true rfl⟩, h⟩]
  show some ((st I v J).1, (st I v J).2.1, I, (fun a j => if a = 1 ∧ j = 3 then x else RR v a j), J) = _
  rw [RR_1_3]
  rfl
theorem rv_1_4 (h : v.2.2.1 ≠ 0) : qR (st I v J) 9 1 4 = some v.2.2.1 := if_pos ⟨⟨rfl, Nat.lt_of_sub_eq_succ rfl, Nat.le_of_ble_eq_true rfl⟩, h⟩
theorem RR_1_4 (x : Nat) : (fun a j => if a = 1 ∧ j = 4 then x else RR v a j) = RR (v.1, v.2.1, x, v.2.2.2.1, v.2.2.2.2.1, v.2.2.2.2.2.1, v.2.2.2.2.2.2) := by
  funext a j
  unfold RR
  by_cases h : a = 1 ∧ j = 4
  · obtain ⟨rfl, rfl⟩ := h; simp
  · simp only [if_neg h]
theorem wv_1_4 {x : Nat} (h : x ≠ 0) : wR (st I v J) 9 1 4 x = some (st I (v.1, v.2.1, x, v.2.2.2.1, v.2.2.2.2.1, v.2.2.2.2.2.1, v.2.2.2.2.2.2) J) := by
  unfold wR
  rw [if_pos ⟨⟨rfl, Nat.lt_of_sub_eq_succ rfl, Nat.le_of_ble_eq_true rfl⟩, h⟩]
  show some ((st I v J).1, (st I v J).2.1, I, (fun a j => if a = 1 ∧ j = 4 then x else RR v a j), J) = _
  rw [RR_1_4]
  rfl
theorem rv_27_1 (h : v.2.2.2.1 ≠ 0) : qR (st I v J) 5 27 1 = some v.2.2.2.1 := if_pos ⟨⟨rfl, Nat.lt_of_sub_eq_succ rfl, Nat.le_of_ble_eq_true rfl⟩, h⟩
theorem RR_27_1 (x : Nat) : (fun a j => if a = 27 ∧ j = 1 then x else RR v a j) = RR (v.1, v.2.1, v.2.2.1, x, v.2.2.2.2.1, v.2.2.2.2.2.1, v.2.2.2.2.2.2) := by
  funext a j
  unfold RR
  by_cases h : a = 27 ∧ j = 1
  · obtain ⟨rfl, rfl⟩ := h; simp
  · simp only [if_neg h]
theorem wv_27_1 {x : Nat} (h : x ≠ 0) : wR (st I v J) 5 27 1 x = some (st I (v.1, v.2.1, v.2.2.1, x, v.2.2.2.2.1, v.2.2.2.2.2.1, v.2.2.2.2.2.2) J) := by
  unfold wR
  rw [if_pos ⟨⟨rfl, Nat.lt_of_sub_eq_succ rfl, Nat.le_of_ble_eq_true rfl⟩, h⟩]
  show some ((st I v J).1, (st I v J).2.1, I, (fun a j => if a = 27 ∧ j = 1 then x else RR v a j), J) = _
  rw [RR_27_1]
  rfl
theorem rv_27_2 (h : v.2.2.2.2.1 ≠ 0) : qR (st I v J) 5 27 2 = some v.2.2.2.2.1 := if_pos ⟨⟨rfl, Nat.lt_of_sub_eq_succ rfl, Nat.le_of_ble_eq_true rfl⟩, h⟩
theorem RR_27_2 (x : Nat) : (fun a j => if a = 27 ∧ j = 2 then x else RR v a j) = RR (v.1, v.2.1, v.2.2.1, v.2.2.2.1, x, v.2.2.2.2.2.1, v.2.2.2.2.2.2) := by
  funext a j
  unfold RR
  by_cases h : a = 27 ∧ j = 2
  · obtain ⟨rfl, rfl⟩ := h; simp
  · simp only [if_neg h]
theorem wv_27_2 {x : Nat} (h : x ≠ 0) : wR (st I v J) 5 27 2 x = some (st I (v.1, v.2.1, v.2.2.1, v.2.2.2.1, x, v.2.2.2.2.2.1, v.2.2.2.2.2.2) J) := by
  unfold wR
  rw [if_pos ⟨⟨rfl, Nat.lt_of_sub_eq_succ rfl, Nat.le_of_ble_eq_true rfl⟩, h⟩]
  show some ((st I v J).1, (st I v J).2.1, I, (fun a j => if a = 27 ∧ j = 2 then x else RR v a j), J) = _
  rw [RR_27_2]
  rfl
theorem rv_28_0 (h : v.2.2.2.2.2.1 ≠ 0) : qR (st I v J) 8 28 0 = some v.2.2.2.2.2.1 := if_pos ⟨⟨rfl, Nat.lt_of_sub_eq_succ rfl, Nat.le_of_ble_eq_true rfl⟩, h⟩
theorem RR_28_0 (x : Nat) : (fun a j => if a = 28 ∧ j = 0 then x else RR v a j) = RR (v.1, v.2.1, v.2.2.1, v.2.2.2.1, v.2.2.2.2.1, x, v.2.2.2.2.2.2) := by
  funext a j
  unfold RR
  by_cases h : a = 28 ∧ j = 0
  · obtain ⟨rfl, rfl⟩ := h; simp
  · simp only [if_neg h]
theorem wv_28_0 {x : Nat} (h : x ≠ 0) : wR (st I v J) 8 28 0 x = some (st I (v.1, v.2.1, v.2.2.1, v.2.2.2.1, v.2.2.2.2.1, x, v.2.2.2.2.2.2) J) := by
  unfold wR
  rw [if_pos ⟨⟨rfl, Nat.lt_of_sub_eq_succ rfl, Nat.le_of_ble_eq_true rfl⟩, h⟩]
  show some ((st I v J).1, (st I v J).2.1, I, (fun a j => if a = 28 ∧ j = 0 then x else RR v a j), J) = _
  rw [RR_28_0]
  rfl
theorem rv_29_6 (h : v.2.2.2.2.2.2 ≠ 0) : qR (st I v J) 1 29 6 = some v.2.2.2.2.2.2 := if_pos ⟨⟨rfl, Nat.lt_of_sub_eq_succ rfl, Nat.le_of_ble_eq_true rfl⟩, h⟩
theorem RR_29_6 (x : Nat) : (fun a j => if a = 29 ∧ j = 6 then x else RR v a j) = RR (v.1, v.2.1, v.2.2.1, v.2.2.2.1, v.2.2.2.2.1, v.2.2.2.2.2.1, x) := by
  funext a j
  unfold RR
  by_cases h : a = 29 ∧ j = 6
  · obtain ⟨rfl, rfl⟩ := h; simp
  · simp only [if_neg h]
theorem wv_29_6 {x : Nat} (h : x ≠ 0) : wR (st I v J) 1 29 6 x = some (st I (v.1, v.2.1, v.2.2.1, v.2.2.2.1, v.2.2.2.2.1, v.2.2.2.2.2.1, x) J) := by
  unfold wR
  rw [if_pos ⟨⟨rfl, Nat.lt_of_sub_eq_succ rfl, Nat.le_of_ble_eq_true rfl⟩, h⟩]
  show some ((st I v J).1, (st I v J).2.1, I, (fun a j => if a = 29 ∧ j = 6 then x else RR v a j), J) = _
  rw [RR_29_6]
  rfl
end
