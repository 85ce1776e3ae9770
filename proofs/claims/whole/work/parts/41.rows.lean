/-! Rows. -/
def rowL : List Nat := [7, 9, 11, 14, 16, 18, 21, 23, 25, 30, 32, 34, 36, 38, 40, 44, 46, 48, 50, 53, 55, 57, 59, 61, 63, 65, 67, 69, 71, 73]
def isRow (r : Nat) : Bool := rowL.contains r
def rl (r : Nat) : Nat := (K0 (r + 1)).2
theorem rl_lt (r : Nat) : rl r < 2 ^ 31 := K0_lt _
/-- what a row answers at a place, what it is behind a put -/
def rd (I : Nat → Nat → Int32) (r : Nat) (p : Int32) : Int32 := if p < 0 ∨ rl r ≤ p.toNatClampNeg then 0 else I (r + 1) p.toNatClampNeg
def wr (I : Nat → Nat → Int32) (r : Nat) (p x : Int32) : Nat → Nat → Int32 := if p < 0 ∨ rl r ≤ p.toNatClampNeg then I else up I (r + 1) p.toNatClampNeg x
section
variable {I : Nat → Nat → Int32} {v : zV} {J : Nat → Nat → Int64}
theorem row_f : ∀ r, isRow r = true → ok0 6 r = true ∧ ok0 12 (r + 1) = true := by
  intro r h
  have h : r ∈ rowL := by simpa [isRow] using h
  have : ∀ r ∈ rowL, ok0 6 r = true ∧ ok0 12 (r + 1) = true := by decide +kernel
  exact this r h
theorem row_q {r : Nat} (h : isRow r = true) : qR (st I v J) 6 r 0 = some (r + 1) := by
  have h : r ∈ rowL := by simpa [isRow] using h
  simp only [rowL, List.mem_cons, List.not_mem_nil, or_false] at h
  rcases h with rfl | rfl | rfl | rfl | rfl | rfl | rfl | rfl | rfl | rfl | rfl | rfl | rfl | rfl | rfl | rfl | rfl | rfl | rfl | rfl | rfl | rfl | rfl | rfl | rfl | rfl | rfl | rfl | rfl | rfl <;> rfl
theorem rd_n {r k : Nat} (h : k < 2 ^ 31) : rd I r (nI k) = if k < rl r then I (r + 1) k else 0 := by
  unfold rd
  rw [nI_clamp h]
  by_cases hk : k < rl r
  · rw [if_neg (by have := nI_pos h; rintro (q | q); exact this q; omega), if_pos hk]
  · rw [if_pos (Or.inr (by omega)), if_neg hk]
theorem rd_i {r k : Nat} (h : k < rl r) : rd I r (nI k) = I (r + 1) k := by
  rw [rd_n (Nat.lt_trans h (rl_lt r)), if_pos h]
theorem wr_i {r k : Nat} {x : Int32} (h : k < rl r) : wr I r (nI k) x = up I (r + 1) k x := by
  have h2 := Nat.lt_trans h (rl_lt r)
  unfold wr
  rw [nI_clamp h2, if_neg (by have := nI_pos h2; rintro (q | q); exact this q; omega)]
theorem wr_o {r : Nat} {p x : Int32} (h : p < 0 ∨ rl r ≤ p.toNatClampNeg) : wr I r p x = I := if_pos h
theorem at_st {r : Nat} (h : isRow r = true) (p : Int32) : fX6_at r p (st I v J) = some (rd I r p, st I v J) := by
  obtain ⟨h1, h2⟩ := row_f r h
  unfold fX6_at
  by_cases hp : p < 0
  · rw [if_pos hp, rd, if_pos (Or.inl hp)]
  · obtain ⟨k, hk, rfl⟩ := nI_of hp
    rw [if_neg hp]
    simp only [row_q h, bnd_s, qL_st h2]
    rw [show (K0 (r + 1)).2 = rl r from rfl]
    rw [rd_n hk]
    by_cases hl : k < rl r
    · rw [if_neg (nI_ge hl (rl_lt r)), if_pos hl, qA_st h2 hl, bnd_s]
    · rw [if_pos (nI_le (by omega) hk), if_neg hl]
theorem put_st {r : Nat} (h : isRow r = true) (p x : Int32) : fX6_put r p x (st I v J) = some (st (wr I r p x) v J) := by
  obtain ⟨h1, h2⟩ := row_f r h
  unfold fX6_put
  by_cases hp : p < 0
  · rw [if_pos hp, wr_o (Or.inl hp)]
  · obtain ⟨k, hk, rfl⟩ := nI_of hp
    rw [if_neg hp]
    simp only [row_q h, bnd_s, qL_st h2]
    rw [show (K0 (r + 1)).2 = rl r from rfl]
    by_cases hl : k < rl r
    · rw [if_neg (nI_ge hl (rl_lt r)), wr_i hl, uI_st h2 hl, bnd_s]
    · rw [if_pos (nI_le (by omega) hk), wr_o (Or.inr (by rw [nI_clamp hk]; omega))]
/-- the first n places of a row hold x -/
def fillN (I : Nat → Nat → Int32) (a n : Nat) (x : Int32) : Nat → Nat → Int32 := fun b j => if b = a ∧ j < n then x else I b j
theorem fill_loop {a : Nat} (h : ok0 12 a = true) (x : Int32) : ∀ (d k n : Nat), k + d = (K0 a).2 → d < n → fJ7_fill_53178_5 n a x (nI k) (nI (K0 a).2) (st (fillN I a k x) v J) = some (st (fillN I a (K0 a).2 x) v J) := by
  intro d
  induction d with
  | zero =>
    intro k n hk hn
    obtain ⟨n, rfl⟩ : ∃ m, n = m + 1 := ⟨n - 1, by omega⟩
    unfold fJ7_fill_53178_5
    have : k = (K0 a).2 := by omega
    subst this
    rw [if_pos (nI_le (Nat.le_refl _) (K0_lt a))]
  | succ d ih =>
    intro k n hk hn
    obtain ⟨n, rfl⟩ : ∃ m, n = m + 1 := ⟨n - 1, by omega⟩
    unfold fJ7_fill_53178_5
    rw [if_neg (nI_ge (by omega) (K0_lt a)), uI_st h (by omega), bnd_s]
    have e : up (fillN I a k x) a k x = fillN I a (k + 1) x := by
      funext b j
      unfold up fillN
      by_cases hb : b = a
      · by_cases hj : j = k
        · subst hb; subst hj; simp
        · have : (j < k + 1) ↔ (j < k) := by omega
          simp [hb, hj, this]
      · simp [hb]
    rw [e, nI_1]
    exact ih (k + 1) n (by omega) (by omega)
theorem fill_st {r : Nat} (h : isRow r = true) (x : Int32) : fX6_fill r x (st I v J) = some (st (fillN I (r + 1) (rl r) x) v J) := by
  obtain ⟨h1, h2⟩ := row_f r h
  have hs : (K0 (r + 1)).2 < zfu := by
    have h : r ∈ rowL := by simpa [isRow] using h
    have : ∀ r ∈ rowL, (K0 (r + 1)).2 < 100000 := by decide +kernel
    exact this r h
  unfold fX6_fill
  simp only [row_q h, bnd_s]
  unfold fJ7_fill_53178
  simp only [qL_st h2, bnd_s]
  have e : st I v J = st (fillN I (r + 1) 0 x) v J := by
    congr 1
    funext b j
    simp [fillN]
  have := fill_loop (I := I) (v := v) (J := J) h2 x (K0 (r + 1)).2 0 zfu (by omega) hs
  rw [← e] at this
  rw [show (0 : Int32) = nI 0 from rfl, this]
  rfl
end
