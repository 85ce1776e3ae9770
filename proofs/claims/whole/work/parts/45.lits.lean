/-! Literals, counts. -/
def isL (l : Int32) : Prop := l ≠ 0 ∧ -150 ≤ l ∧ l ≤ 150
def lc (c : Nat) : Int32 := if c % 2 = 0 then nI (c / 2) else - nI (c / 2)
def cd (l : Int32) : Nat := (codeOf l).toNatClampNeg
def av (l : Int32) : Nat := cd l / 2
theorem lc_tab : ∀ c, c < 302 → 2 ≤ c → codeOf (lc c) = nI c ∧ (codeOf (lc c)).toNatClampNeg = c ∧ zab (lc c) = nI (c / 2) ∧ (if lc c ≤ 0 then - lc c else lc c) = nI (c / 2) ∧ (- lc c) = lc (if c % 2 = 0 then c + 1 else c - 1) ∧ lc c ≠ 0 ∧ (lc c ≤ 0 ↔ c % 2 = 1) ∧ lc c ≠ - lc c ∧ -150 ≤ lc c ∧ lc c ≤ 150 ∧ lc c ≠ -1000 ∧ -lc c ≠ -1000 := by decide +kernel
theorem L_of {l : Int32} (h : isL l) : ∃ c, 2 ≤ c ∧ c < 302 ∧ l = lc c := by
  obtain ⟨h0, h1, h2⟩ := h
  have e1 : (-150 : Int) ≤ l.toInt := by have := Int32.le_iff_toInt_le.mp h1; simpa using this
  have e2 : l.toInt ≤ 150 := by have := Int32.le_iff_toInt_le.mp h2; simpa using this
  have e0 : l.toInt ≠ 0 := fun q => h0 (Int32.toInt_inj.mp (by simpa using q))
  have hh : l = Int32.ofInt l.toInt := by simp
  by_cases hs : 0 ≤ l.toInt
  · refine ⟨2 * l.toInt.toNat, by omega, by omega, ?_⟩
    unfold lc
    rw [if_pos (by omega), show 2 * l.toInt.toNat / 2 = l.toInt.toNat by omega]
    apply Int32.toInt_inj.mp
    rw [nI_toInt (by omega)]
    omega
  · refine ⟨2 * (-l.toInt).toNat + 1, by omega, by omega, ?_⟩
    unfold lc
    rw [if_neg (by omega), show (2 * (-l.toInt).toNat + 1) / 2 = (-l.toInt).toNat by omega]
    have q : nI (-l.toInt).toNat = - l := by
      apply Int32.toInt_inj.mp
      rw [nI_toInt (by omega), Int32.toInt_neg]
      have : (-l.toInt).bmod (2 ^ 32) = -l.toInt := Int.bmod_eq_of_le (by omega) (by omega)
      rw [this]
      omega
    rw [q, Int32.neg_neg]
theorem lc_isL {c : Nat} (h1 : 2 ≤ c) (h2 : c < 302) : isL (lc c) := by
  obtain ⟨-, -, -, -, -, a, -, -, b, d, -⟩ := lc_tab c h2 h1
  exact ⟨a, b, d⟩
theorem lc_cd {c : Nat} (h1 : 2 ≤ c) (h2 : c < 302) : cd (lc c) = c := (lc_tab c h2 h1).2.1
theorem L_lc {l : Int32} (h : isL l) : 2 ≤ cd l ∧ cd l < 302 ∧ lc (cd l) = l := by
  obtain ⟨c, h1, h2, rfl⟩ := L_of h
  rw [lc_cd h1 h2]
  exact ⟨h1, h2, rfl⟩
theorem L_cd {l : Int32} (h : isL l) : codeOf l = nI (cd l) := by
  obtain ⟨c, h1, h2, rfl⟩ := L_of h
  rw [lc_cd h1 h2]
  exact (lc_tab c h2 h1).1
theorem L_zab {l : Int32} (h : isL l) : zab l = nI (av l) := by
  obtain ⟨c, h1, h2, rfl⟩ := L_of h
  rw [av, lc_cd h1 h2]
  exact (lc_tab c h2 h1).2.2.1
theorem L_abs {l : Int32} (h : isL l) : (if l ≤ 0 then - l else l) = nI (av l) := by
  obtain ⟨c, h1, h2, rfl⟩ := L_of h
  rw [av, lc_cd h1 h2]
  exact (lc_tab c h2 h1).2.2.2.1
theorem L_av {l : Int32} (h : isL l) : 1 ≤ av l ∧ av l ≤ 150 := by
  have := L_lc h
  unfold av
  omega
theorem L_neg {l : Int32} (h : isL l) : isL (-l) := by
  obtain ⟨c, h1, h2, rfl⟩ := L_of h
  rw [(lc_tab c h2 h1).2.2.2.2.1]
  split
  · exact lc_isL (by omega) (by omega)
  · exact lc_isL (by omega) (by omega)
theorem L_nav {l : Int32} (h : isL l) : av (-l) = av l := by
  obtain ⟨c, h1, h2, rfl⟩ := L_of h
  rw [(lc_tab c h2 h1).2.2.2.2.1]
  unfold av
  split
  · rw [lc_cd (by omega) (by omega), lc_cd h1 h2]; omega
  · rw [lc_cd (by omega) (by omega), lc_cd h1 h2]; omega
theorem L_ne {l : Int32} (h : isL l) : l ≠ -l := by
  obtain ⟨c, h1, h2, rfl⟩ := L_of h
  exact (lc_tab c h2 h1).2.2.2.2.2.2.2.1
theorem L_1000 {l : Int32} (h : isL l) : l ≠ -1000 := by
  obtain ⟨c, h1, h2, rfl⟩ := L_of h
  exact (lc_tab c h2 h1).2.2.2.2.2.2.2.2.2.2.1
theorem L_sgn {l : Int32} (h : isL l) : (-l ≤ 0 ↔ ¬ l ≤ 0) := by
  obtain ⟨c, h1, h2, rfl⟩ := L_of h
  have e := (lc_tab c h2 h1).2.2.2.2.1
  have f := (lc_tab c h2 h1).2.2.2.2.2.2.1
  rw [e, f]
  split
  · rw [(lc_tab (c + 1) (by omega) (by omega)).2.2.2.2.2.2.1]; omega
  · rw [(lc_tab (c - 1) (by omega) (by omega)).2.2.2.2.2.2.1]; omega
theorem L_cdi {l m : Int32} (h : isL l) (h' : isL m) (e : cd l = cd m) : l = m := by
  rw [← (L_lc h).2.2, ← (L_lc h').2.2, e]
theorem L_avi {l m : Int32} (h : isL l) (h' : isL m) (e : av l = av m) : m = l ∨ m = -l := by
  obtain ⟨c, h1, h2, rfl⟩ := L_of h
  obtain ⟨d, h3, h4, rfl⟩ := L_of h'
  rw [av, av, lc_cd h1 h2, lc_cd h3 h4] at e
  rw [(lc_tab c h2 h1).2.2.2.2.1]
  by_cases hd : d = c
  · exact Or.inl (by rw [hd])
  · right
    congr 1
    split <;> omega
/-- values of variables -/
def vv (V : Nat → Int32) : Prop := ∀ x, 1 ≤ x → x ≤ 150 → V x = 0 ∨ V x = 1 ∨ V x = -1
def tv (V : Nat → Int32) (l : Int32) : Int32 := if l ≤ 0 then - V (av l) else V (av l)
theorem tv_neg {V : Nat → Int32} {l : Int32} (h : isL l) : tv V (-l) = - tv V l := by
  unfold tv
  rw [L_nav h]
  by_cases q : l ≤ 0
  · rw [if_pos q, if_neg (by rw [L_sgn h]; simpa using q), Int32.neg_neg]
  · rw [if_neg q, if_pos (by rw [L_sgn h]; exact q)]
theorem tv_v {V : Nat → Int32} {l : Int32} (hV : vv V) (h : isL l) : tv V l = 0 ∨ tv V l = 1 ∨ tv V l = -1 := by
  unfold tv
  have := L_av h
  rcases hV (av l) (by omega) (by omega) with q | q | q <;> rw [q] <;> split <;> simp <;> decide
def sg (l : Int32) : Int32 := if l ≤ 0 then -1 else 1
def vup (V : Nat → Int32) (x : Nat) (y : Int32) : Nat → Int32 := fun z => if z = x then y else V z
theorem tv_up {V : Nat → Int32} {l m : Int32} (h : isL l) (h' : isL m) : tv (vup V (av l) (sg l)) m = if m = l then 1 else if m = -l then -1 else tv V m := by
  by_cases e : m = l
  · subst e
    rw [if_pos rfl]
    unfold tv vup sg
    rw [if_pos rfl]
    split <;> rfl
  · rw [if_neg e]
    by_cases e2 : m = -l
    · rw [if_pos e2]
      subst e2
      unfold tv vup sg
      rw [L_nav h, if_pos rfl]
      by_cases q : l ≤ 0
      · rw [if_neg (by rw [L_sgn h]; simpa using q), if_pos q]
      · rw [if_pos (by rw [L_sgn h]; exact q), if_neg q]
    · rw [if_neg e2]
      have : av m ≠ av l := by
        intro q
        rcases L_avi h h' q.symm with r | r
        · exact e r
        · exact e2 r
      unfold tv vup
      rw [if_neg this]
/-- counts -/
def cn (p : Nat → Bool) : Nat → Nat
  | 0 => 0
  | m + 1 => cn p m + (if p m = true then 1 else 0)
theorem cn_congr {p q : Nat → Bool} : ∀ {m : Nat}, (∀ i, i < m → p i = q i) → cn p m = cn q m
  | 0, _ => rfl
  | m + 1, h => by
    unfold cn
    rw [cn_congr (fun i hi => h i (by omega)), h m (by omega)]
theorem cn_one {p q : Nat → Bool} : ∀ {m i0 : Nat}, i0 < m → p i0 = true → q i0 = false → (∀ i, i < m → i ≠ i0 → p i = q i) → cn p m = cn q m + 1
  | 0, i0, hi, _, _, _ => by omega
  | m + 1, i0, hi, hp, hq, h => by
    unfold cn
    by_cases e : i0 = m
    · subst e
      rw [cn_congr (fun i hi => h i (by omega) (by omega)), hp, hq]
      simp
    · rw [cn_one (by omega) hp hq (fun i hi2 hi3 => h i (by omega) hi3), h m (by omega) (fun q => e q.symm)]
      omega
theorem cn_le (p : Nat → Bool) : ∀ m, cn p m ≤ m
  | 0 => Nat.le_refl _
  | m + 1 => by
    unfold cn
    have := cn_le p m
    split <;> omega
theorem cn_lt {p : Nat → Bool} : ∀ {m i0 : Nat}, i0 < m → p i0 = false → cn p m < m
  | 0, _, h, _ => by omega
  | m + 1, i0, hi, hp => by
    unfold cn
    by_cases e : i0 = m
    · subst e
      have := cn_le p i0
      rw [hp]; simp; omega
    · have := cn_lt (show i0 < m by omega) hp
      split <;> omega
theorem cn_pos {p : Nat → Bool} : ∀ {m i0 : Nat}, i0 < m → p i0 = true → 0 < cn p m
  | 0, _, h, _ => by omega
  | m + 1, i0, hi, hp => by
    unfold cn
    by_cases e : i0 = m
    · subst e; rw [hp]; simp
    · have := cn_pos (show i0 < m by omega) hp
      omega
theorem cn_zero {p : Nat → Bool} : ∀ {m : Nat}, (∀ i, i < m → p i = false) → cn p m = 0
  | 0, _ => rfl
  | m + 1, h => by
    unfold cn
    rw [cn_zero (fun i hi => h i (by omega)), h m (by omega)]; simp
theorem cn_mono {p q : Nat → Bool} : ∀ {m : Nat}, (∀ i, i < m → p i = true → q i = true) → cn p m ≤ cn q m
  | 0, _ => Nat.le_refl _
  | m + 1, h => by
    unfold cn
    have := cn_mono (p := p) (q := q) (m := m) (fun i hi => h i (by omega))
    have := h m (by omega)
    by_cases e : p m = true
    · rw [if_pos e, if_pos (this e)]; omega
    · rw [if_neg e]; split <;> omega
theorem cn_two {p : Nat → Bool} : ∀ {m a b : Nat}, a < b → b < m → p a = true → p b = true → 2 ≤ cn p m
  | 0, _, _, _, h, _, _ => by omega
  | m + 1, a, b, hab, hb, ha, hb' => by
    unfold cn
    by_cases e : b = m
    · subst e
      have := cn_pos hab ha
      rw [hb']; simp; omega
    · have := cn_two hab (show b < m by omega) ha hb'
      omega
