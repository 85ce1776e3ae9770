/-! Texts: bytes, tokens. A text is T : its bytes, n : how many. -/
def isBl (x : Int32) : Bool := x == 32 || x == 9 || x == 13 || x == 10
/-- past the rest of a comment's line -/
def cmt (T : Nat → Int32) (n : Nat) : Nat → Nat → Nat
  | 0, p => p
  | f + 1, p => if p < n ∧ T p ≠ 10 then cmt T n f (p + 1) else p
/-- a line's first byte is c here -/
def cAt (T : Nat → Int32) (p : Nat) : Prop := T p = 99 ∧ (p = 0 ∨ T (p - 1) = 10)
/-- the next token's first byte, or n -/
def skp (T : Nat → Int32) (n : Nat) : Nat → Nat → Nat
  | 0, p => p
  | f + 1, p => if p < n then (if T p = 99 ∧ (p = 0 ∨ T (p - 1) = 10) then skp T n f (cmt T n (n + 1) p) else if isBl (T p) = true then skp T n f (p + 1) else p) else p
/-- where the token ends -/
def ent (T : Nat → Int32) (n : Nat) : Nat → Nat → Nat
  | 0, p => p
  | f + 1, p => if p < n ∧ isBl (T p) = false then ent T n f (p + 1) else p
theorem cmt_ge {T : Nat → Int32} {n : Nat} : ∀ f p, p ≤ cmt T n f p
  | 0, p => Nat.le_refl _
  | f + 1, p => by
    unfold cmt
    split
    · exact Nat.le_trans (Nat.le_succ p) (cmt_ge f (p + 1))
    · exact Nat.le_refl _
theorem cmt_le {T : Nat → Int32} {n : Nat} : ∀ f p, p ≤ n → cmt T n f p ≤ n
  | 0, p, h => h
  | f + 1, p, h => by
    unfold cmt
    split
    · rename_i q; exact cmt_le f (p + 1) q.1
    · exact h
/-- enough fuel: what more of it gives -/
theorem cmt_fuel {T : Nat → Int32} {n : Nat} : ∀ f g p, n ≤ p + f → n ≤ p + g → cmt T n f p = cmt T n g p
  | 0, 0, p, _, _ => rfl
  | 0, g + 1, p, h, _ => by
    unfold cmt
    rw [if_neg (by omega)]
  | f + 1, 0, p, _, h => by
    unfold cmt
    rw [if_neg (by omega)]
  | f + 1, g + 1, p, h1, h2 => by
    unfold cmt
    split
    · exact cmt_fuel f g (p + 1) (by omega) (by omega)
    · rfl
theorem cmt_step {T : Nat → Int32} {n p : Nat} (h : p < n) (h10 : T p ≠ 10) : cmt T n (n + 1) p = cmt T n (n + 1) (p + 1) := by
  rw [show cmt T n (n + 1) p = if p < n ∧ T p ≠ 10 then cmt T n n (p + 1) else p from rfl, if_pos ⟨h, h10⟩]
  exact cmt_fuel n (n + 1) (p + 1) (by omega) (by omega)
theorem cmt_stop {T : Nat → Int32} {n p : Nat} (h : ¬ (p < n ∧ T p ≠ 10)) : cmt T n (n + 1) p = p := by
  rw [show cmt T n (n + 1) p = if p < n ∧ T p ≠ 10 then cmt T n n (p + 1) else p from rfl, if_neg h]
theorem skp_fuel {T : Nat → Int32} {n : Nat} : ∀ f g p, n < p + f → n < p + g → skp T n f p = skp T n g p
  | 0, g, p, h1, h2 => by
    cases g with
    | zero => rfl
    | succ g => unfold skp; rw [if_neg (by omega)]
  | f + 1, 0, p, h1, h2 => by
    unfold skp; rw [if_neg (by omega)]
  | f + 1, g + 1, p, h1, h2 => by
    unfold skp
    split
    · rename_i hp
      split
      · rename_i hc
        have : p + 1 ≤ cmt T n (n + 1) p := by
          rw [cmt_step hp (by rw [hc.1]; decide)]
          exact cmt_ge _ _
        exact skp_fuel f g _ (by omega) (by omega)
      · split
        · exact skp_fuel f g (p + 1) (by omega) (by omega)
        · rfl
    · rfl
/-- next token, by enough fuel -/
def sk (T : Nat → Int32) (n p : Nat) : Nat := skp T n (n + 1) p
def en (T : Nat → Int32) (n p : Nat) : Nat := ent T n (n + 1) p
theorem sk_eq {T : Nat → Int32} {n p : Nat} : sk T n p = if p < n then (if T p = 99 ∧ (p = 0 ∨ T (p - 1) = 10) then sk T n (cmt T n (n + 1) p) else if isBl (T p) = true then sk T n (p + 1) else p) else p := by
  show (if p < n then (if T p = 99 ∧ (p = 0 ∨ T (p - 1) = 10) then skp T n n (cmt T n (n + 1) p) else if isBl (T p) = true then skp T n n (p + 1) else p) else p) = _
  split
  · rename_i hp
    split
    · rename_i hc
      have : p + 1 ≤ cmt T n (n + 1) p := by
        rw [cmt_step hp (by rw [hc.1]; decide)]
        exact cmt_ge _ _
      exact skp_fuel _ _ _ (by omega) (by omega)
    · split
      · exact skp_fuel _ _ _ (by omega) (by omega)
      · rfl
  · rfl
theorem ent_fuel {T : Nat → Int32} {n : Nat} : ∀ f g p, n ≤ p + f → n ≤ p + g → ent T n f p = ent T n g p
  | 0, 0, p, _, _ => rfl
  | 0, g + 1, p, h, _ => by
    unfold ent
    rw [if_neg (by omega)]
  | f + 1, 0, p, _, h => by
    unfold ent
    rw [if_neg (by omega)]
  | f + 1, g + 1, p, h1, h2 => by
    unfold ent
    split
    · exact ent_fuel f g (p + 1) (by omega) (by omega)
    · rfl
theorem en_eq {T : Nat → Int32} {n p : Nat} : en T n p = if p < n ∧ isBl (T p) = false then en T n (p + 1) else p := by
  show (if p < n ∧ isBl (T p) = false then ent T n n (p + 1) else p) = _
  split
  · exact ent_fuel _ _ _ (by omega) (by omega)
  · rfl
theorem ent_ge {T : Nat → Int32} {n : Nat} : ∀ f p, p ≤ ent T n f p
  | 0, p => Nat.le_refl _
  | f + 1, p => by
    unfold ent
    split
    · exact Nat.le_trans (Nat.le_succ p) (ent_ge f (p + 1))
    · exact Nat.le_refl _
theorem ent_le {T : Nat → Int32} {n : Nat} : ∀ f p, p ≤ n → ent T n f p ≤ n
  | 0, p, h => h
  | f + 1, p, h => by
    unfold ent
    split
    · rename_i q; exact ent_le f (p + 1) q.1
    · exact h
theorem en_ge {T : Nat → Int32} {n p : Nat} : p ≤ en T n p := ent_ge _ _
theorem en_le {T : Nat → Int32} {n p : Nat} (h : p ≤ n) : en T n p ≤ n := ent_le _ _ h
theorem skp_ge {T : Nat → Int32} {n : Nat} : ∀ f p, p ≤ skp T n f p
  | 0, p => Nat.le_refl _
  | f + 1, p => by
    unfold skp
    split
    · split
      · exact Nat.le_trans (cmt_ge _ _) (skp_ge f _)
      · split
        · exact Nat.le_trans (Nat.le_succ p) (skp_ge f _)
        · exact Nat.le_refl _
    · exact Nat.le_refl _
theorem skp_le {T : Nat → Int32} {n : Nat} : ∀ f p, p ≤ n → skp T n f p ≤ n
  | 0, p, h => h
  | f + 1, p, h => by
    unfold skp
    split
    · rename_i hp
      split
      · exact skp_le f _ (cmt_le _ _ h)
      · split
        · exact skp_le f _ hp
        · exact h
    · exact h
theorem sk_ge {T : Nat → Int32} {n p : Nat} : p ≤ sk T n p := skp_ge _ _
theorem sk_le {T : Nat → Int32} {n p : Nat} (h : p ≤ n) : sk T n p ≤ n := skp_le _ _ h
/-- at a token's first byte -/
theorem sk_bl {T : Nat → Int32} {n : Nat} : ∀ d p, n - p ≤ d → sk T n p < n → isBl (T (sk T n p)) = false ∧ ¬ (T (sk T n p) = 99 ∧ (sk T n p = 0 ∨ T (sk T n p - 1) = 10)) := by
  intro d
  induction d with
  | zero =>
    intro p hd h
    have := sk_ge (T := T) (n := n) (p := p)
    omega
  | succ d ih =>
    intro p hd h
    rw [sk_eq] at h ⊢
    split at h
    · rename_i hp
      rw [if_pos hp]
      split at h
      · rename_i hc
        rw [if_pos hc]
        have : p + 1 ≤ cmt T n (n + 1) p := by
          rw [cmt_step hp (by rw [hc.1]; decide)]
          exact cmt_ge _ _
        exact ih _ (by omega) h
      · rename_i hc
        rw [if_neg hc]
        split at h
        · rename_i hb
          rw [if_pos hb]
          exact ih _ (by omega) h
        · rename_i hb
          rw [if_neg hb]
          exact ⟨by simpa using hb, hc⟩
    · rename_i hp
      exact absurd h hp
theorem en_gt {T : Nat → Int32} {n p : Nat} (h : p < n) (hb : isBl (T p) = false) : p < en T n p := by
  rw [en_eq, if_pos ⟨h, hb⟩]
  exact Nat.lt_of_lt_of_le (Nat.lt_succ_self p) en_ge
