/-! Small methods of the class over the frozen heap. -/
section
variable {I : Nat → Nat → Int32} {v : zV} {J : Nat → Nat → Int64}
def isSh (f : Nat) : Bool := f == 6 || f == 13 || f == 20
theorem isSh_i {f : Nat} (h : isSh f = true) : f = 6 ∨ f = 13 ∨ f = 20 := by
  simp only [isSh, Bool.or_eq_true, beq_iff_eq] at h
  omega
theorem sh_f {f : Nat} (h : isSh f = true) : ok0 7 f = true ∧ isRow (f + 1) = true ∧ isRow (f + 3) = true ∧ isRow (f + 5) = true ∧ rl (f + 1) = 2000 ∧ rl (f + 3) = 301 ∧ rl (f + 5) = 301 := by
  rcases isSh_i h with rfl | rfl | rfl <;> decide +kernel
theorem sh_0 {f : Nat} (h : isSh f = true) : qR (st I v J) 7 f 0 = some (f + 1) := by rcases isSh_i h with rfl | rfl | rfl <;> rfl
theorem sh_1 {f : Nat} (h : isSh f = true) : qR (st I v J) 7 f 1 = some (f + 3) := by rcases isSh_i h with rfl | rfl | rfl <;> rfl
theorem sh_2 {f : Nat} (h : isSh f = true) : qR (st I v J) 7 f 2 = some (f + 5) := by rcases isSh_i h with rfl | rfl | rfl <;> rfl
theorem clr {α : Type} {r : Nat} {o : Option α} (h : isRow r = true) : cl (st I v J) 6 r o = o := cl_st (row_f r h).1
/-! sheets -/
def shSize (I : Nat → Nat → Int32) (f : Nat) (i : Int32) : Int32 := rd I (f + 3) i - rd I (f + 3) (i - 1)
def shLit (I : Nat → Nat → Int32) (f : Nat) (i j : Int32) : Int32 := if j < 0 then 0 else if shSize I f i ≤ j then 0 else rd I (f + 1) (rd I (f + 3) (i - 1) + j)
theorem X7_size {f : Nat} (h : isSh f = true) (i : Int32) : fX7_size f i (st I v J) = some (shSize I f i, st I v J) := by
  obtain ⟨h0, h1, h2, h3, -⟩ := sh_f h
  simp only [fX7_size, sh_1 h, bnd_s, clr h2, at_st h2, shSize]
theorem X7_literal {f : Nat} (h : isSh f = true) (i j : Int32) : fX7_literal f i j (st I v J) = some (shLit I f i j, st I v J) := by
  obtain ⟨h0, h1, h2, h3, -⟩ := sh_f h
  simp only [fX7_literal, sh_0 h, sh_1 h, bnd_s, cl_st h0, clr h2, clr h1, at_st h2, at_st h1, X7_size h, shLit]
  split
  · rfl
  · split <;> rfl
theorem X7_isDeletion {f : Nat} (h : isSh f = true) (i : Int32) : fX7_isDeletion f i (st I v J) = some (if rd I (f + 5) i = 0 then 0 else 1, st I v J) := by
  obtain ⟨h0, h1, h2, h3, -⟩ := sh_f h
  simp only [fX7_isDeletion, sh_2 h, bnd_s, clr h3, at_st h3, gd_0, gd_1]
  split <;> rfl
theorem X7_rows {f : Nat} (h : isSh f = true) : fX7_rows f (st I v J) = some (I f 3, st I v J) := by
  simp only [fX7_rows, qI_st (sh_f h).1, bnd_s]
theorem X7_variables {f : Nat} (h : isSh f = true) : fX7_variables f (st I v J) = some (I f 5, st I v J) := by
  simp only [fX7_variables, qI_st (sh_f h).1, bnd_s]
theorem X7_setVariables {f : Nat} (h : isSh f = true) (x : Int32) : fX7_setVariables f x (st I v J) = some (st (up I f 5 x) v J) := by
  simp only [fX7_setVariables, wI_st (sh_f h).1, bnd_s]
theorem X7_clear {f : Nat} (h : isSh f = true) : fX7_clear f (st I v J) = some (st (up (up (up I f 3 0) f 4 0) f 5 0) v J) := by
  simp only [fX7_clear, wI_st (sh_f h).1, bnd_s]
def shClose (I : Nat → Nat → Int32) (f : Nat) (d : Int32) : Nat → Nat → Int32 :=
  wr (wr (up I f 3 (I f 3 + 1)) (f + 3) (I f 3 + 1) (I f 4)) (f + 5) (I f 3 + 1) (if d = 0 then 0 else 1)
theorem wr_ne {r : Nat} {p x : Int32} {a : Nat} (h : a ≠ r + 1) : wr I r p x a = I a := by
  unfold wr
  split
  · rfl
  · exact up_ne h
theorem X7_closeRow {f : Nat} (h : isSh f = true) (d : Int32) : fX7_closeRow f d (st I v J) = some (st (shClose I f d) v J) := by
  obtain ⟨h0, h1, h2, h3, -⟩ := sh_f h
  have n1 : f ≠ f + 3 + 1 := by omega
  have e1 : up I f 3 (I f 3 + 1) f 3 = I f 3 + 1 := up_self ..
  have e2 : up I f 3 (I f 3 + 1) f 4 = I f 4 := by simp [up]
  simp only [fX7_closeRow, fX7_closeRow_42, sh_1 h, sh_2 h, bnd_s, clr h2, clr h3, put_st h2, put_st h3, qI_st h0, wI_st h0, e1, e2, wr_ne n1, shClose]
  split <;> rfl
/-! clauses (29) -/
def clSize (I : Nat → Nat → Int32) (k : Int32) : Int32 := rd I 32 k - rd I 32 (k - 1)
def clLit (I : Nat → Nat → Int32) (k j : Int32) : Int32 := if j < 0 then 0 else if clSize I k ≤ j then 0 else rd I 30 (rd I 32 (k - 1) + j)
theorem X1_size (k : Int32) : fX1_size 29 k (st I v J) = some (clSize I k, st I v J) := by
  simp only [fX1_size, rf_29_1, bnd_s, clr (r := 32) rfl, at_st (r := 32) rfl, clSize]
theorem X1_literal (k j : Int32) : fX1_literal 29 k j (st I v J) = some (clLit I k j, st I v J) := by
  simp only [fX1_literal, rf_29_0, rf_29_1, bnd_s, clr (r := 32) rfl, clr (r := 30) rfl, at_st (r := 32) rfl, at_st (r := 30) rfl]
  show (if j < 0 then some (0, st I v J) else if clSize I k ≤ j then some (0, st I v J) else some (rd I 30 (rd I 32 (k - 1) + j), st I v J)) = _
  unfold clLit
  split
  · rfl
  · split <;> rfl
theorem X1_numberOfStep (i : Int32) : fX1_numberOfStep 29 i (st I v J) = some (rd I 34 i, st I v J) := by
  simp only [fX1_numberOfStep, rf_29_2, bnd_s, clr (r := 34) rfl, at_st (r := 34) rfl]
theorem X1_ofFormula : fX1_ofFormula 29 (st I v J) = some (I 29 8, st I v J) := by
  simp only [fX1_ofFormula, qI_st (c := 1) (r := 29) rfl, bnd_s]
theorem X1_inAll : fX1_inAll 29 (st I v J) = some (I 29 9, st I v J) := by
  simp only [fX1_inAll, qI_st (c := 1) (r := 29) rfl, bnd_s]
theorem X1_user (u : Int32) : fX1_user 29 u (st I v J) = some (rd I 36 u, st I v J) := by
  simp only [fX1_user, rf_29_3, bnd_s, clr (r := 36) rfl, at_st (r := 36) rfl]
theorem X1_steps (h : isSh v.2.2.2.2.2.2 = true) : fX1_steps 29 (st I v J) = some (I v.2.2.2.2.2.2 3, st I v J) := by
  have h0 : v.2.2.2.2.2.2 ≠ 0 := by rcases isSh_i h with q | q | q <;> rw [q] <;> decide
  simp only [fX1_steps, rv_29_6 h0, bnd_s, cl_st (sh_f h).1, X7_rows h]
def codeOf (l : Int32) : Int32 := if l < 0 then 1 - 2 * l else 2 * l
theorem X9_codeOf (l : Int32) : fX9_codeOf l (st I v J) = some (codeOf l, st I v J) := by
  unfold fX9_codeOf codeOf
  split <;> rfl
theorem X1_firstUse (l : Int32) : fX1_firstUse 29 l (st I v J) = some (rd I 38 (codeOf l), st I v J) := by
  simp only [fX1_firstUse, rf_29_4, bnd_s, X9_codeOf, clr (r := 38) rfl, at_st (r := 38) rfl]
theorem X1_endOfUses (l : Int32) : fX1_endOfUses 29 l (st I v J) = some (rd I 40 (codeOf l), st I v J) := by
  simp only [fX1_endOfUses, rf_29_5, bnd_s, X9_codeOf, clr (r := 40) rfl, at_st (r := 40) rfl]
/-! hints (43) -/
theorem X2_open (k : Int32) : fX2_open 43 k (st I v J) = some (st (wr (wr I 46 k (I 43 3)) 48 k (I 43 3)) v J) := by
  have n1 : (43 : Nat) ≠ 46 + 1 := by decide
  simp only [fX2_open, rf_43_1, rf_43_2, bnd_s, clr (r := 46) rfl, clr (r := 48) rfl, put_st (r := 46) rfl, put_st (r := 48) rfl, qI_st (c := 2) (r := 43) rfl, wr_ne n1]
theorem X2_at (k j : Int32) : fX2_at 43 k j (st I v J) = some (if j < 0 then 0 else if rd I 48 k - rd I 46 k ≤ j then 0 else rd I 44 (rd I 46 k + j), st I v J) := by
  simp only [fX2_at, rf_43_0, rf_43_1, rf_43_2, bnd_s, clr (r := 44) rfl, clr (r := 46) rfl, clr (r := 48) rfl, at_st (r := 44) rfl, at_st (r := 46) rfl, at_st (r := 48) rfl]
  split
  · rfl
  · split <;> rfl
theorem X2_add (k x : Int32) : fX2_add 43 k x (st I v J) = some (st (if 4000 ≤ I 43 3 then I else wr (up (wr I 44 (I 43 3) x) 43 3 (I 43 3 + 1)) 48 k (I 43 3 + 1)) v J) := by
  have n1 : (43 : Nat) ≠ 44 + 1 := by decide
  simp only [fX2_add, rf_43_0, rf_43_2, bnd_s, clr (r := 44) rfl, clr (r := 48) rfl, put_st (r := 44) rfl, put_st (r := 48) rfl, qI_st (c := 2) (r := 43) rfl, wI_st (c := 2) (r := 43) rfl, wr_ne n1, up_self]
  split <;> rfl
theorem X2_drop (k : Int32) : fX2_drop 43 k (st I v J) = some (st (wr (up I 43 3 (rd I 46 k)) 48 k (rd I 46 k)) v J) := by
  simp only [fX2_drop, rf_43_1, rf_43_2, bnd_s, clr (r := 46) rfl, clr (r := 48) rfl, at_st (r := 46) rfl, put_st (r := 48) rfl, qI_st (c := 2) (r := 43) rfl, wI_st (c := 2) (r := 43) rfl, up_self]
theorem X2_clear : fX2_clear 43 (st I v J) = some (st (fillN (fillN (up I 43 3 0) 47 601 0) 49 601 0) v J) := by
  simp only [fX2_clear, rf_43_1, rf_43_2, bnd_s, clr (r := 46) rfl, clr (r := 48) rfl, fill_st (r := 46) rfl, fill_st (r := 48) rfl, wI_st (c := 2) (r := 43) rfl]
  rfl
/-! propagation (52) -/
theorem X4_fuelLeft : fX4_fuelLeft 52 (st I v J) = some (I 52 17, st I v J) := by
  simp only [fX4_fuelLeft, qI_st (c := 4) (r := 52) rfl, bnd_s]
def nz (x : Int32) : Int32 := if x = 0 then 0 else 1
theorem X4_isActive (k : Int32) : fX4_isActive 52 k (st I v J) = some (nz (rd I 53 k), st I v J) := by
  simp only [fX4_isActive, rf_52_1, bnd_s, clr (r := 53) rfl, at_st (r := 53) rfl, gd_0, gd_1, nz]
  split <;> rfl
theorem X4_isMarked (k : Int32) : fX4_isMarked 52 k (st I v J) = some (nz (rd I 55 k), st I v J) := by
  simp only [fX4_isMarked, rf_52_2, bnd_s, clr (r := 55) rfl, at_st (r := 55) rfl, gd_0, gd_1, nz]
  split <;> rfl
theorem X4_mark (k : Int32) : fX4_mark 52 k (st I v J) = some (st (wr I 55 k 1) v J) := by
  simp only [fX4_mark, rf_52_2, bnd_s, clr (r := 55) rfl, put_st (r := 55) rfl]
theorem X4_usedCount : fX4_usedCount 52 (st I v J) = some (I 52 15, st I v J) := by
  simp only [fX4_usedCount, qI_st (c := 4) (r := 52) rfl, bnd_s]
theorem X4_usedAt (i : Int32) : fX4_usedAt 52 i (st I v J) = some (rd I 73 i, st I v J) := by
  simp only [fX4_usedAt, rf_52_11, bnd_s, clr (r := 73) rfl, at_st (r := 73) rfl]
theorem X4_setActive (k b : Int32) : fX4_setActive 52 k b (st I v J) = some (st (wr I 53 k (nz b)) v J) := by
  simp only [fX4_setActive, fX4_setActive_14, rf_52_1, bnd_s, clr (r := 53) rfl, put_st (r := 53) rfl, nz]
  split <;> rfl
theorem X4_forget : fX4_forget 52 (st I v J) = some (st (fillN (up I 52 17 0) 56 601 0) v J) := by
  simp only [fX4_forget, rf_52_2, bnd_s, clr (r := 55) rfl, fill_st (r := 55) rfl, wI_st (c := 4) (r := 52) rfl]
  rfl
def truth (I : Nat → Nat → Int32) (l : Int32) : Int32 := if l ≤ 0 then - rd I 63 (zab l) else rd I 63 (zab l)
theorem X4_truthOf (l : Int32) : fX4_truthOf 52 l (st I v J) = some (truth I l, st I v J) := by
  simp only [fX4_truthOf, rf_52_6, bnd_s, clr (r := 63) rfl, at_st (r := 63) rfl, truth]
  split <;> rfl
end
