theorem nlRL_8 : zNL RL 8 9 := ⟨by decide, (zw 99 (by decide +kernel) rfl), (zw 100 (by decide +kernel) rfl), (zw 76 (by decide +kernel) rfl)⟩
theorem nlRL_45 : zNL RL 45 10 := ⟨by decide, (zw 1130 (by decide +kernel) rfl), (zw 1131 (by decide +kernel) rfl), (zw 87 (by decide +kernel) rfl)⟩
theorem mqX9_init : zMl mX9_init 0 := ⟨(zw 103 (by decide +kernel) rfl), (zw 76 (by decide +kernel) rfl), by decide, by decide, by decide +kernel⟩
theorem mqX10_init : zMl mX10_init 0 := ⟨(zw 1134 (by decide +kernel) rfl), (zw 87 (by decide +kernel) rfl), by decide, by decide, by decide +kernel⟩
theorem miX9_init : Cond.instanceMethod yX9_init ∈ zALL := (zw 102 (by decide +kernel) rfl)
theorem miX10_init : Cond.instanceMethod yX10_init ∈ zALL := (zw 1133 (by decide +kernel) rfl)
theorem mlRL_44 : Cond.methodLink RL 44 yX9_init ∈ zALL := (zw 101 (by decide +kernel) rfl)
theorem mlRL_47 : Cond.methodLink RL 47 yX10_init ∈ zALL := (zw 1132 (by decide +kernel) rfl)
theorem ac_long : Cond.arrayClass .long ∈ zALL := (zw 1526 (by decide +kernel) rfl)
/-- the empty state -/
def z0 : zS := ((0, true), fun _ => (0, 0), fun _ _ => 0, fun _ _ => 0, fun _ _ => 0)
/-! THE FROZEN HEAP: what the constructors leave, by tables. Roles: 1 court; 2 tape (bytes 3), 4 shortened (5); sheets 6, 13, 20 (each: literals +1, ends +3, deletions +5, a row's cells behind it); 27 reader, 28 tokens; 29 clauses (rows 30 literals, 32 ends, 34 numbersOfSteps, 36 users, 38 useStarts, 40 useEnds); 42 judge, 43 hints (44 cells, 46 starts, 48 ends), 50 removed; 52 propagation (53 active, 55 marked, 57 left, 59 shortOnes, 61 ready, 63 values, 65 assumptions, 67 trail, 69 reasons, 71 wanted, 73 used); 75 the reference (arrays 76 on); 103 the law's row of one long -/
def kTab : List (Nat × Nat) := [(0, 0), (9, 0), (0, 0), (11, 6000), (0, 0), (11, 6000), (7, 0), (6, 0), (12, 2000), (6, 0), (12, 301), (6, 0), (12, 301), (7, 0), (6, 0), (12, 2000), (6, 0), (12, 301), (6, 0), (12, 301), (7, 0), (6, 0), (12, 2000), (6, 0), (12, 301), (6, 0), (12, 301), (5, 0), (8, 0), (1, 0), (6, 0), (12, 4000), (6, 0), (12, 601), (6, 0), (12, 301), (6, 0), (12, 4000), (6, 0), (12, 302), (6, 0), (12, 302), (3, 0), (2, 0), (6, 0), (12, 4000), (6, 0), (12, 601), (6, 0), (12, 601), (6, 0), (12, 301), (4, 0), (6, 0), (12, 601), (6, 0), (12, 601), (6, 0), (12, 601), (6, 0), (12, 601), (6, 0), (12, 38), (6, 0), (12, 151), (6, 0), (12, 80), (6, 0), (12, 150), (6, 0), (12, 150), (6, 0), (12, 302), (6, 0), (12, 151), (10, 0), (12, 6000), (12, 6000), (12, 301), (12, 301), (12, 2000), (12, 301), (12, 301), (12, 2000), (13, 301), (12, 301), (12, 301), (12, 2000), (13, 301), (12, 601), (12, 301), (13, 601), (13, 601), (13, 601), (13, 601), (12, 301), (12, 151), (12, 151), (12, 151), (12, 4000), (12, 601), (12, 601), (12, 6000), (14, 1)]
def rTab : List (List Nat) := [[], [2, 4, 6, 13, 20, 27, 29, 42, 0, 0], [3, 0], [], [5, 0], [], [7, 9, 11, 0, 0, 0], [8], [], [10], [], [12], [], [14, 16, 18, 0, 0, 0], [15], [], [17], [], [19], [], [21, 23, 25, 0, 0, 0], [22], [], [24], [], [26], [], [28, 2, 20, 0, 0, 0, 0, 0, 0], [2, 0, 0, 0], [30, 32, 34, 36, 38, 40, 13, 0, 0, 0], [31], [], [33], [], [35], [], [37], [], [39], [], [41], [], [29, 52, 43, 50, 0, 0, 0, 0, 0, 0, 0], [44, 46, 48, 0], [45], [], [47], [], [49], [], [51], [], [29, 53, 55, 57, 59, 61, 63, 65, 67, 69, 71, 73, 0, 0, 0, 0, 0, 0], [54], [], [56], [], [58], [], [60], [], [62], [], [64], [], [66], [], [68], [], [70], [], [72], [], [74], [], [0, 76, 0, 77, 0, 0, 0, 0, 0, 0, 0, 0, 78, 79, 80, 81, 82, 83, 84, 0, 0, 0, 85, 86, 87, 88, 0, 0, 0, 0, 0, 89, 90, 0, 0, 0, 0, 0, 0, 0, 0, 91, 92, 93, 94, 95, 96, 97, 98, 0, 0, 0, 0, 99, 100, 101, 0, 102, 0], [], [], [], [], [], [], [], [], [], [], [], [], [], [], [], [], [], [], [], [], [], [], [], [], [], [], [], []]
def K0 (r : Nat) : Nat × Nat := kTab.getD r (0, 0)
def R0 (r k : Nat) : Nat := (rTab.getD r []).getD k 0
/-- the references that change: formulaSheet, proofSheet, spareSheet of the court; source, sheet of the reader; source of the tokens; proof of the clauses -/
abbrev zV : Type := Nat × Nat × Nat × Nat × Nat × Nat × Nat
def RR (v : zV) (r k : Nat) : Nat := if r = 1 ∧ k = 2 then v.1 else if r = 1 ∧ k = 3 then v.2.1 else if r = 1 ∧ k = 4 then v.2.2.1 else if r = 27 ∧ k = 1 then v.2.2.2.1 else if r = 27 ∧ k = 2 then v.2.2.2.2.1 else if r = 28 ∧ k = 0 then v.2.2.2.2.2.1 else if r = 29 ∧ k = 6 then v.2.2.2.2.2.2 else  R0 r k
def st (I : Nat → Nat → Int32) (v : zV) (J : Nat → Nat → Int64) : zS := ((103, false), K0, I, RR v, J)
def I0 : Nat → Nat → Int32 := fun r k => if (r = 1 ∧ k = 9) ∨ (r = 27 ∧ k = 8) ∨ (r = 42 ∧ k = 6) ∨ (r = 42 ∧ k = 7) ∨ (r = 42 ∧ k = 8) ∨ (r = 75 ∧ k = 11) then -1 else 0
def v0 : zV := (6, 13, 20, 2, 20, 2, 13)
def zst0 : zS := st I0 v0 (fun _ _ => 0)
def zs1 : zS := znew z0 9 0
def zs2 : zS := (fX9_init 1 zs1).getD z0
def zs3 : zS := znew zs2 10 0
def zs4 : zS := (fX10_init 75 zs3).getD z0
def zs5 : zS := znew zs4 14 1
set_option maxRecDepth 100000 in
theorem pre2 : fX9_init 1 zs1 = some zs2 := by
  have h : (fX9_init 1 zs1).isSome = true := by decide +kernel
  unfold zs2
  cases hf : fX9_init 1 zs1 with
  | none => rw [hf] at h; cases h
  | some q => rfl
set_option maxRecDepth 100000 in
theorem pre4 : fX10_init 75 zs3 = some zs4 := by
  have h : (fX10_init 75 zs3).isSome = true := by decide +kernel
  unfold zs4
  cases hf : fX10_init 75 zs3 with
  | none => rw [hf] at h; cases h
  | some q => rfl
set_option maxRecDepth 100000 in
theorem pre_n : zn zs2 = 74 ∧ zn zs4 = 102 ∧ zal zs2 = true ∧ zal zs4 = true ∧ zn zs5 = 103 := by decide +kernel
set_option maxRecDepth 100000 in
theorem pre_K : ∀ r, r < 104 → zK zs5 r = K0 r := by decide +kernel
set_option maxRecDepth 100000 in
theorem pre_R : ∀ r, r < 104 → (K0 r).1 < 11 → ∀ k, k < zN (K0 r).1 → zR zs5 r k = RR v0 r k ∧ zI zs5 r k = I0 r k := by decide +kernel
/-- arrays hold 0 -/
def Pz (s : zS) : Prop := ∀ r j, 11 ≤ (zK s r).1 → zI s r j = 0 ∧ zJ s r j = 0
theorem Pz_I {s t : zS} {c r k : Nat} {x : Int32} (e : zpI s r k x = t) (h : Pz s) (hr : zok s c r) (hc : c < 11) : Pz t := by
  subst e
  intro a j hk
  have hk : 11 ≤ (zK s a).1 := hk
  have ha : a ≠ r := fun e => by rw [e, hr.1] at hk; omega
  rw [zpI_I, if_neg (fun q => ha q.1)]
  exact h a j hk
theorem Pz_R {s t : zS} {r k v : Nat} (e : zpR s r k v = t) (h : Pz s) : Pz t := by
  subst e
  exact fun a j hk => h a j hk
theorem Pz_N {s t : zS} {c len : Nat} (e : znew s c len = t) (h : Pz s) : Pz t := by
  subst e
  intro a j hk
  rw [znew_I, znew_J]
  by_cases e : a = zn s + 1
  · rw [if_pos e, if_pos e]; exact ⟨rfl, rfl⟩
  · rw [if_neg e, if_neg e]
    rw [znew_K, if_neg e] at hk
    exact h a j hk
set_option maxRecDepth 100000 in
theorem PzX0_init {l0 : Nat} {l1 : Int32} {s t : zS} (hp : Pz s) (h : fX0_init l0 l1 s = some t) : Pz t := by
  unfold fX0_init at h
  obtain ⟨a, _, e, h⟩ := jI h; replace hp := Pz_I e hp a (by decide)
  obtain ⟨_, _, e, h⟩ := iNA h; replace hp := Pz_N e hp
  obtain ⟨_, _, e, h⟩ := jR h; replace hp := Pz_R e hp
  cases h; exact hp
set_option maxRecDepth 100000 in
theorem PzX6_init {l0 : Nat} {l1 : Int32} {s t : zS} (hp : Pz s) (h : fX6_init l0 l1 s = some t) : Pz t := by
  unfold fX6_init at h
  obtain ⟨_, _, e, h⟩ := iNA h; replace hp := Pz_N e hp
  obtain ⟨_, _, e, h⟩ := jR h; replace hp := Pz_R e hp
  cases h; exact hp
set_option maxRecDepth 100000 in
theorem PzX7_init {l0 : Nat} {s t : zS} (hp : Pz s) (h : fX7_init l0 s = some t) : Pz t := by
  unfold fX7_init at h
  obtain ⟨_, _, e, h⟩ := iNO h; replace hp := Pz_N e hp
  obtain ⟨_, e, h⟩ := bnd_i h; replace hp := PzX6_init hp e
  obtain ⟨_, _, e, h⟩ := jR h; replace hp := Pz_R e hp
  obtain ⟨_, _, e, h⟩ := iNO h; replace hp := Pz_N e hp
  obtain ⟨_, e, h⟩ := bnd_i h; replace hp := PzX6_init hp e
  obtain ⟨_, _, e, h⟩ := jR h; replace hp := Pz_R e hp
  obtain ⟨_, _, e, h⟩ := iNO h; replace hp := Pz_N e hp
  obtain ⟨_, e, h⟩ := bnd_i h; replace hp := PzX6_init hp e
  obtain ⟨_, _, e, h⟩ := jR h; replace hp := Pz_R e hp
  obtain ⟨a, _, e, h⟩ := jI h; replace hp := Pz_I e hp a (by decide)
  obtain ⟨a, _, e, h⟩ := jI h; replace hp := Pz_I e hp a (by decide)
  obtain ⟨a, _, e, h⟩ := jI h; replace hp := Pz_I e hp a (by decide)
  cases h; exact hp
set_option maxRecDepth 100000 in
theorem PzX8_init {l0 : Nat} {l1 : Nat} {s t : zS} (hp : Pz s) (h : fX8_init l0 l1 s = some t) : Pz t := by
  unfold fX8_init at h
  obtain ⟨a, _, e, h⟩ := jI h; replace hp := Pz_I e hp a (by decide)
  obtain ⟨a, _, e, h⟩ := jI h; replace hp := Pz_I e hp a (by decide)
  obtain ⟨a, _, e, h⟩ := jI h; replace hp := Pz_I e hp a (by decide)
  obtain ⟨_, _, e, h⟩ := jR h; replace hp := Pz_R e hp
  cases h; exact hp
set_option maxRecDepth 100000 in
theorem PzX5_init {l0 : Nat} {l1 : Nat} {l2 : Nat} {s t : zS} (hp : Pz s) (h : fX5_init l0 l1 l2 s = some t) : Pz t := by
  unfold fX5_init at h
  obtain ⟨a, _, e, h⟩ := jI h; replace hp := Pz_I e hp a (by decide)
  obtain ⟨a, _, e, h⟩ := jI h; replace hp := Pz_I e hp a (by decide)
  obtain ⟨a, _, e, h⟩ := jI h; replace hp := Pz_I e hp a (by decide)
  obtain ⟨a, _, e, h⟩ := jI h; replace hp := Pz_I e hp a (by decide)
  obtain ⟨a, _, e, h⟩ := jI h; replace hp := Pz_I e hp a (by decide)
  obtain ⟨a, _, e, h⟩ := jI h; replace hp := Pz_I e hp a (by decide)
  obtain ⟨_, _, e, h⟩ := iNO h; replace hp := Pz_N e hp
  obtain ⟨_, e, h⟩ := bnd_i h; replace hp := PzX8_init hp e
  obtain ⟨_, _, e, h⟩ := jR h; replace hp := Pz_R e hp
  obtain ⟨_, _, e, h⟩ := jR h; replace hp := Pz_R e hp
  obtain ⟨_, _, e, h⟩ := jR h; replace hp := Pz_R e hp
  cases h; exact hp
set_option maxRecDepth 100000 in
theorem PzX1_init {l0 : Nat} {l1 : Nat} {s t : zS} (hp : Pz s) (h : fX1_init l0 l1 s = some t) : Pz t := by
  unfold fX1_init at h
  obtain ⟨_, _, e, h⟩ := iNO h; replace hp := Pz_N e hp
  obtain ⟨_, e, h⟩ := bnd_i h; replace hp := PzX6_init hp e
  obtain ⟨_, _, e, h⟩ := jR h; replace hp := Pz_R e hp
  obtain ⟨_, _, e, h⟩ := iNO h; replace hp := Pz_N e hp
  obtain ⟨_, e, h⟩ := bnd_i h; replace hp := PzX6_init hp e
  obtain ⟨_, _, e, h⟩ := jR h; replace hp := Pz_R e hp
  obtain ⟨_, _, e, h⟩ := iNO h; replace hp := Pz_N e hp
  obtain ⟨_, e, h⟩ := bnd_i h; replace hp := PzX6_init hp e
  obtain ⟨_, _, e, h⟩ := jR h; replace hp := Pz_R e hp
  obtain ⟨_, _, e, h⟩ := iNO h; replace hp := Pz_N e hp
  obtain ⟨_, e, h⟩ := bnd_i h; replace hp := PzX6_init hp e
  obtain ⟨_, _, e, h⟩ := jR h; replace hp := Pz_R e hp
  obtain ⟨_, _, e, h⟩ := iNO h; replace hp := Pz_N e hp
  obtain ⟨_, e, h⟩ := bnd_i h; replace hp := PzX6_init hp e
  obtain ⟨_, _, e, h⟩ := jR h; replace hp := Pz_R e hp
  obtain ⟨_, _, e, h⟩ := iNO h; replace hp := Pz_N e hp
  obtain ⟨_, e, h⟩ := bnd_i h; replace hp := PzX6_init hp e
  obtain ⟨_, _, e, h⟩ := jR h; replace hp := Pz_R e hp
  obtain ⟨a, _, e, h⟩ := jI h; replace hp := Pz_I e hp a (by decide)
  obtain ⟨a, _, e, h⟩ := jI h; replace hp := Pz_I e hp a (by decide)
  obtain ⟨a, _, e, h⟩ := jI h; replace hp := Pz_I e hp a (by decide)
  obtain ⟨_, _, e, h⟩ := jR h; replace hp := Pz_R e hp
  cases h; exact hp
set_option maxRecDepth 100000 in
theorem PzX2_init {l0 : Nat} {s t : zS} (hp : Pz s) (h : fX2_init l0 s = some t) : Pz t := by
  unfold fX2_init at h
  obtain ⟨_, _, e, h⟩ := iNO h; replace hp := Pz_N e hp
  obtain ⟨_, e, h⟩ := bnd_i h; replace hp := PzX6_init hp e
  obtain ⟨_, _, e, h⟩ := jR h; replace hp := Pz_R e hp
  obtain ⟨_, _, e, h⟩ := iNO h; replace hp := Pz_N e hp
  obtain ⟨_, e, h⟩ := bnd_i h; replace hp := PzX6_init hp e
  obtain ⟨_, _, e, h⟩ := jR h; replace hp := Pz_R e hp
  obtain ⟨_, _, e, h⟩ := iNO h; replace hp := Pz_N e hp
  obtain ⟨_, e, h⟩ := bnd_i h; replace hp := PzX6_init hp e
  obtain ⟨_, _, e, h⟩ := jR h; replace hp := Pz_R e hp
  obtain ⟨a, _, e, h⟩ := jI h; replace hp := Pz_I e hp a (by decide)
  cases h; exact hp
set_option maxRecDepth 100000 in
theorem PzX4_init {l0 : Nat} {l1 : Nat} {s t : zS} (hp : Pz s) (h : fX4_init l0 l1 s = some t) : Pz t := by
  unfold fX4_init at h
  obtain ⟨_, _, e, h⟩ := iNO h; replace hp := Pz_N e hp
  obtain ⟨_, e, h⟩ := bnd_i h; replace hp := PzX6_init hp e
  obtain ⟨_, _, e, h⟩ := jR h; replace hp := Pz_R e hp
  obtain ⟨_, _, e, h⟩ := iNO h; replace hp := Pz_N e hp
  obtain ⟨_, e, h⟩ := bnd_i h; replace hp := PzX6_init hp e
  obtain ⟨_, _, e, h⟩ := jR h; replace hp := Pz_R e hp
  obtain ⟨_, _, e, h⟩ := iNO h; replace hp := Pz_N e hp
  obtain ⟨_, e, h⟩ := bnd_i h; replace hp := PzX6_init hp e
  obtain ⟨_, _, e, h⟩ := jR h; replace hp := Pz_R e hp
  obtain ⟨_, _, e, h⟩ := iNO h; replace hp := Pz_N e hp
  obtain ⟨_, e, h⟩ := bnd_i h; replace hp := PzX6_init hp e
  obtain ⟨_, _, e, h⟩ := jR h; replace hp := Pz_R e hp
  obtain ⟨_, _, e, h⟩ := iNO h; replace hp := Pz_N e hp
  obtain ⟨_, e, h⟩ := bnd_i h; replace hp := PzX6_init hp e
  obtain ⟨_, _, e, h⟩ := jR h; replace hp := Pz_R e hp
  obtain ⟨_, _, e, h⟩ := iNO h; replace hp := Pz_N e hp
  obtain ⟨_, e, h⟩ := bnd_i h; replace hp := PzX6_init hp e
  obtain ⟨_, _, e, h⟩ := jR h; replace hp := Pz_R e hp
  obtain ⟨_, _, e, h⟩ := iNO h; replace hp := Pz_N e hp
  obtain ⟨_, e, h⟩ := bnd_i h; replace hp := PzX6_init hp e
  obtain ⟨_, _, e, h⟩ := jR h; replace hp := Pz_R e hp
  obtain ⟨_, _, e, h⟩ := iNO h; replace hp := Pz_N e hp
  obtain ⟨_, e, h⟩ := bnd_i h; replace hp := PzX6_init hp e
  obtain ⟨_, _, e, h⟩ := jR h; replace hp := Pz_R e hp
  obtain ⟨_, _, e, h⟩ := iNO h; replace hp := Pz_N e hp
  obtain ⟨_, e, h⟩ := bnd_i h; replace hp := PzX6_init hp e
  obtain ⟨_, _, e, h⟩ := jR h; replace hp := Pz_R e hp
  obtain ⟨_, _, e, h⟩ := iNO h; replace hp := Pz_N e hp
  obtain ⟨_, e, h⟩ := bnd_i h; replace hp := PzX6_init hp e
  obtain ⟨_, _, e, h⟩ := jR h; replace hp := Pz_R e hp
  obtain ⟨_, _, e, h⟩ := iNO h; replace hp := Pz_N e hp
  obtain ⟨_, e, h⟩ := bnd_i h; replace hp := PzX6_init hp e
  obtain ⟨_, _, e, h⟩ := jR h; replace hp := Pz_R e hp
  obtain ⟨a, _, e, h⟩ := jI h; replace hp := Pz_I e hp a (by decide)
  obtain ⟨a, _, e, h⟩ := jI h; replace hp := Pz_I e hp a (by decide)
  obtain ⟨a, _, e, h⟩ := jI h; replace hp := Pz_I e hp a (by decide)
  obtain ⟨a, _, e, h⟩ := jI h; replace hp := Pz_I e hp a (by decide)
  obtain ⟨a, _, e, h⟩ := jI h; replace hp := Pz_I e hp a (by decide)
  obtain ⟨a, _, e, h⟩ := jI h; replace hp := Pz_I e hp a (by decide)
  obtain ⟨_, _, e, h⟩ := jR h; replace hp := Pz_R e hp
  cases h; exact hp
set_option maxRecDepth 100000 in
theorem PzX3_init {l0 : Nat} {l1 : Nat} {s t : zS} (hp : Pz s) (h : fX3_init l0 l1 s = some t) : Pz t := by
  unfold fX3_init at h
  obtain ⟨_, _, e, h⟩ := iNO h; replace hp := Pz_N e hp
  obtain ⟨_, e, h⟩ := bnd_i h; replace hp := PzX2_init hp e
  obtain ⟨_, _, e, h⟩ := jR h; replace hp := Pz_R e hp
  obtain ⟨_, _, e, h⟩ := iNO h; replace hp := Pz_N e hp
  obtain ⟨_, e, h⟩ := bnd_i h; replace hp := PzX6_init hp e
  obtain ⟨_, _, e, h⟩ := jR h; replace hp := Pz_R e hp
  obtain ⟨a, _, e, h⟩ := jZ h; replace hp := Pz_I e hp a.1 (by decide)
  obtain ⟨a, _, e, h⟩ := jZ h; replace hp := Pz_I e hp a.1 (by decide)
  obtain ⟨a, _, e, h⟩ := jI h; replace hp := Pz_I e hp a (by decide)
  obtain ⟨a, _, e, h⟩ := jI h; replace hp := Pz_I e hp a (by decide)
  obtain ⟨a, _, e, h⟩ := jI h; replace hp := Pz_I e hp a (by decide)
  obtain ⟨a, _, e, h⟩ := jI h; replace hp := Pz_I e hp a (by decide)
  obtain ⟨a, _, e, h⟩ := jI h; replace hp := Pz_I e hp a (by decide)
  obtain ⟨_, _, e, h⟩ := jR h; replace hp := Pz_R e hp
  obtain ⟨_, _, e, h⟩ := iNO h; replace hp := Pz_N e hp
  obtain ⟨_, e, h⟩ := bnd_i h; replace hp := PzX4_init hp e
  obtain ⟨_, _, e, h⟩ := jR h; replace hp := Pz_R e hp
  cases h; exact hp
set_option maxRecDepth 100000 in
theorem PzX9_init {l0 : Nat} {s t : zS} (hp : Pz s) (h : fX9_init l0 s = some t) : Pz t := by
  unfold fX9_init at h
  obtain ⟨_, _, e, h⟩ := iNO h; replace hp := Pz_N e hp
  obtain ⟨_, e, h⟩ := bnd_i h; replace hp := PzX0_init hp e
  obtain ⟨_, _, e, h⟩ := jR h; replace hp := Pz_R e hp
  obtain ⟨_, _, e, h⟩ := iNO h; replace hp := Pz_N e hp
  obtain ⟨_, e, h⟩ := bnd_i h; replace hp := PzX0_init hp e
  obtain ⟨_, _, e, h⟩ := jR h; replace hp := Pz_R e hp
  obtain ⟨_, _, e, h⟩ := iNO h; replace hp := Pz_N e hp
  obtain ⟨_, e, h⟩ := bnd_i h; replace hp := PzX7_init hp e
  obtain ⟨_, _, e, h⟩ := jR h; replace hp := Pz_R e hp
  obtain ⟨_, _, e, h⟩ := iNO h; replace hp := Pz_N e hp
  obtain ⟨_, e, h⟩ := bnd_i h; replace hp := PzX7_init hp e
  obtain ⟨_, _, e, h⟩ := jR h; replace hp := Pz_R e hp
  obtain ⟨_, _, e, h⟩ := iNO h; replace hp := Pz_N e hp
  obtain ⟨_, e, h⟩ := bnd_i h; replace hp := PzX7_init hp e
  obtain ⟨_, _, e, h⟩ := jR h; replace hp := Pz_R e hp
  obtain ⟨_, _, e, h⟩ := iNO h; replace hp := Pz_N e hp
  obtain ⟨_, _, _, h⟩ := iR h
  obtain ⟨_, _, _, h⟩ := iR h
  obtain ⟨_, e, h⟩ := bnd_i h; replace hp := PzX5_init hp e
  obtain ⟨_, _, e, h⟩ := jR h; replace hp := Pz_R e hp
  obtain ⟨_, _, e, h⟩ := iNO h; replace hp := Pz_N e hp
  obtain ⟨_, _, _, h⟩ := iR h
  obtain ⟨_, e, h⟩ := bnd_i h; replace hp := PzX1_init hp e
  obtain ⟨_, _, e, h⟩ := jR h; replace hp := Pz_R e hp
  obtain ⟨_, _, e, h⟩ := iNO h; replace hp := Pz_N e hp
  obtain ⟨_, _, _, h⟩ := iR h
  obtain ⟨_, e, h⟩ := bnd_i h; replace hp := PzX3_init hp e
  obtain ⟨_, _, e, h⟩ := jR h; replace hp := Pz_R e hp
  obtain ⟨a, _, e, h⟩ := jI h; replace hp := Pz_I e hp a (by decide)
  obtain ⟨a, _, e, h⟩ := jI h; replace hp := Pz_I e hp a (by decide)
  cases h; exact hp
set_option maxRecDepth 100000 in
theorem PzX10_init {l0 : Nat} {s t : zS} (hp : Pz s) (h : fX10_init l0 s = some t) : Pz t := by
  unfold fX10_init at h
  obtain ⟨_, _, e, h⟩ := iNA h; replace hp := Pz_N e hp
  obtain ⟨_, _, e, h⟩ := jR h; replace hp := Pz_R e hp
  obtain ⟨_, _, e, h⟩ := iNA h; replace hp := Pz_N e hp
  obtain ⟨_, _, e, h⟩ := jR h; replace hp := Pz_R e hp
  obtain ⟨a, _, e, h⟩ := jI h; replace hp := Pz_I e hp a (by decide)
  obtain ⟨_, _, e, h⟩ := iNA h; replace hp := Pz_N e hp
  obtain ⟨_, _, e, h⟩ := jR h; replace hp := Pz_R e hp
  obtain ⟨_, _, e, h⟩ := iNA h; replace hp := Pz_N e hp
  obtain ⟨_, _, e, h⟩ := jR h; replace hp := Pz_R e hp
  obtain ⟨_, _, e, h⟩ := iNA h; replace hp := Pz_N e hp
  obtain ⟨_, _, e, h⟩ := jR h; replace hp := Pz_R e hp
  obtain ⟨_, _, e, h⟩ := iNA h; replace hp := Pz_N e hp
  obtain ⟨_, _, e, h⟩ := jR h; replace hp := Pz_R e hp
  obtain ⟨_, _, e, h⟩ := iNA h; replace hp := Pz_N e hp
  obtain ⟨_, _, e, h⟩ := jR h; replace hp := Pz_R e hp
  obtain ⟨_, _, e, h⟩ := iNA h; replace hp := Pz_N e hp
  obtain ⟨_, _, e, h⟩ := jR h; replace hp := Pz_R e hp
  obtain ⟨_, _, e, h⟩ := iNA h; replace hp := Pz_N e hp
  obtain ⟨_, _, e, h⟩ := jR h; replace hp := Pz_R e hp
  obtain ⟨_, _, e, h⟩ := iNA h; replace hp := Pz_N e hp
  obtain ⟨_, _, e, h⟩ := jR h; replace hp := Pz_R e hp
  obtain ⟨_, _, e, h⟩ := iNA h; replace hp := Pz_N e hp
  obtain ⟨_, _, e, h⟩ := jR h; replace hp := Pz_R e hp
  obtain ⟨_, _, e, h⟩ := iNA h; replace hp := Pz_N e hp
  obtain ⟨_, _, e, h⟩ := jR h; replace hp := Pz_R e hp
  obtain ⟨_, _, e, h⟩ := iNA h; replace hp := Pz_N e hp
  obtain ⟨_, _, e, h⟩ := jR h; replace hp := Pz_R e hp
  obtain ⟨_, _, e, h⟩ := iNA h; replace hp := Pz_N e hp
  obtain ⟨_, _, e, h⟩ := jR h; replace hp := Pz_R e hp
  obtain ⟨_, _, e, h⟩ := iNA h; replace hp := Pz_N e hp
  obtain ⟨_, _, e, h⟩ := jR h; replace hp := Pz_R e hp
  obtain ⟨_, _, e, h⟩ := iNA h; replace hp := Pz_N e hp
  obtain ⟨_, _, e, h⟩ := jR h; replace hp := Pz_R e hp
  obtain ⟨_, _, e, h⟩ := iNA h; replace hp := Pz_N e hp
  obtain ⟨_, _, e, h⟩ := jR h; replace hp := Pz_R e hp
  obtain ⟨_, _, e, h⟩ := iNA h; replace hp := Pz_N e hp
  obtain ⟨_, _, e, h⟩ := jR h; replace hp := Pz_R e hp
  obtain ⟨_, _, e, h⟩ := iNA h; replace hp := Pz_N e hp
  obtain ⟨_, _, e, h⟩ := jR h; replace hp := Pz_R e hp
  obtain ⟨_, _, e, h⟩ := iNA h; replace hp := Pz_N e hp
  obtain ⟨_, _, e, h⟩ := jR h; replace hp := Pz_R e hp
  obtain ⟨_, _, e, h⟩ := iNA h; replace hp := Pz_N e hp
  obtain ⟨_, _, e, h⟩ := jR h; replace hp := Pz_R e hp
  obtain ⟨_, _, e, h⟩ := iNA h; replace hp := Pz_N e hp
  obtain ⟨_, _, e, h⟩ := jR h; replace hp := Pz_R e hp
  obtain ⟨_, _, e, h⟩ := iNA h; replace hp := Pz_N e hp
  obtain ⟨_, _, e, h⟩ := jR h; replace hp := Pz_R e hp
  obtain ⟨_, _, e, h⟩ := iNA h; replace hp := Pz_N e hp
  obtain ⟨_, _, e, h⟩ := jR h; replace hp := Pz_R e hp
  obtain ⟨_, _, e, h⟩ := iNA h; replace hp := Pz_N e hp
  obtain ⟨_, _, e, h⟩ := jR h; replace hp := Pz_R e hp
  obtain ⟨_, _, e, h⟩ := iNA h; replace hp := Pz_N e hp
  obtain ⟨_, _, e, h⟩ := jR h; replace hp := Pz_R e hp
  obtain ⟨_, _, e, h⟩ := iNA h; replace hp := Pz_N e hp
  obtain ⟨_, _, e, h⟩ := jR h; replace hp := Pz_R e hp
  cases h; exact hp
theorem pre_Z : Pz zs5 := Pz_N rfl (PzX10_init (Pz_N rfl (PzX9_init (Pz_N rfl (fun a j h => ⟨rfl, rfl⟩)) pre2)) pre4)
theorem I0_arr (r j : Nat) (h : 11 ≤ (K0 r).1) : I0 r j = 0 := by
  unfold I0
  rw [if_neg]
  rintro (⟨rfl, -⟩ | ⟨rfl, -⟩ | ⟨rfl, -⟩ | ⟨rfl, -⟩ | ⟨rfl, -⟩ | ⟨rfl, -⟩) <;> exact absurd h (by decide)
theorem zcell_like {E : zE} {s t : zS} {r : Nat} (hK : zK t r = zK s r) (hO : (zK s r).1 < 11 → ∀ k, k < zN (zK s r).1 → zR t r k = zR s r k ∧ zI t r k = zI s r k) (hA : 11 ≤ (zK s r).1 → ∀ k, zI t r k = zI s r k ∧ zJ t r k = zJ s r k) : zcell E t r = zcell E s r := by
  by_cases h : (zK s r).1 < 11
  · rw [zcell_obj (s := t) h (by rw [hK]), zcell_obj (s := s) h rfl]
    congr 2
    unfold zfs
    apply List.map_congr_left
    intro k hk
    have := hO h k (List.mem_range.mp hk)
    unfold zfv
    rw [this.1, this.2]
  · have hA := hA (by omega)
    have e1 : zI t r = zI s r := funext fun k => (hA k).1
    have e2 : zJ t r = zJ s r := funext fun k => (hA k).2
    unfold zcell
    rw [hK, if_neg h, e1, e2]
    split <;> simp_all
theorem pre_ws (E : zE) : zws E zst0 = zws E zs5 := by
  unfold zws
  have hn : zn zst0 = zn zs5 := pre_n.2.2.2.2.symm
  rw [hn]
  apply List.map_congr_left
  intro i hi
  have hi : i < zn zs5 := List.mem_range.mp hi
  rw [pre_n.2.2.2.2] at hi
  have hK := pre_K (i + 1) (by omega)
  rw [zcell_like (s := zs5) (t := zst0) (r := i + 1) (by rw [hK]; rfl)]
  · intro h k hk
    rw [hK] at h hk
    have := pre_R (i + 1) (by omega) h k hk
    exact ⟨this.1.symm, this.2.symm⟩
  · intro h k
    have := pre_Z (i + 1) k h
    rw [hK] at h
    exact ⟨(I0_arr _ _ h).trans this.1.symm, this.2.symm⟩
/-- THE LAW as a function of the script, over the frozen heap -/
def fL_law (L : Nat) (xs : Nat → Int32) : Option (Int32 × zS) := fL_law_23 L xs 600 1 75 103 0 zst0
theorem z_norm {E : zE} {M : zM} {pc : Nat} {ls : List (Nat × Value)} {sk : List Value} {s t : zS} {bud : Nat × Nat} {F : zF} (hw : ∀ E : zE, zws E t = zws E s) (ha : zal t = false) (h : Z E M pc ls sk t bud F) : Z E M pc ls sk s bud F :=
  fun p e sx m args below meth c H locs cells slots la hC hH hl b1 b2 => h p e sx m args below meth c H locs cells slots la hC ⟨by rw [hw]; exact hH.1, by rw [hw]; exact hH.2.1, hH.2.2.1, fun q => by rw [ha] at q; cases q⟩ hl b1 b2
set_option maxRecDepth 100000 in
set_option maxHeartbeats 4000000 in
theorem lawZ {E : zE} {L : Nat} {xs : Nat → Int32} {q : Int32 × zS} (h : fL_law L xs = some q) (h1 : q.1 = 1) : Z E mL_law 0 [(0, .retAddr 300)] [] z0 (601024, 7293034) (zLF E L xs) := by
  refine y_new (pc := 0) (t := zs1) (b1 := 601023) (b2 := 7293024) nlRL_8 dL_law_0 rfl rfl rfl rfl ?_
  refine z_dup (pc := 3) dL_law_3 (fun _ => rfl) ?_
  refine y_I (pc := 4) (M2 := mX9_init) (As := []) (b1 := 600950) (b2 := 7160916) (okX9_init pre2) mqX9_init miX9_init rfl rfl mlRL_44 dL_law_4 ⟨by decide, by decide⟩ rfl rfl (fun _ => Nat.le_of_ble_eq_true rfl) rfl rfl ?_
  refine z_astore_n (pc := 7) (ls' := [(1, .ref 1), (0, .retAddr 300)]) dL_law_7 rfl (by decide) (fun _ => rfl) ?_
  refine y_new (pc := 8) (t := zs3) (b1 := 600949) (b2 := 7160857) nlRL_45 dL_law_8 pre_n.2.2.1 rfl rfl rfl ?_
  rw [pre_n.1]
  refine z_dup (pc := 11) dL_law_11 (fun _ => rfl) ?_
  refine y_I (pc := 12) (M2 := mX10_init) (As := []) (b1 := 600922) (b2 := 7125187) (okX10_init pre4) mqX10_init miX10_init rfl rfl mlRL_47 dL_law_12 ⟨by decide, by decide⟩ rfl rfl (fun _ => Nat.le_of_ble_eq_true rfl) rfl rfl ?_
  refine z_astore_n (pc := 15) (ls' := [(2, .ref 75), (1, .ref 1), (0, .retAddr 300)]) dL_law_15 rfl (by decide) (fun _ => rfl) ?_
  refine z_iconst (pc := 16) (v := 1) dL_law_16 (by decide) ?_
  refine y_newJ (pc := 17) (t := zs5) (b1 := 600921) (b2 := 7125186) ac_long dL_law_17 pre_n.2.2.2.1 rfl rfl rfl ?_
  rw [pre_n.2.1]
  refine z_astore_n (pc := 19) (ls' := [(3, .ref 103), (2, .ref 75), (1, .ref 1), (0, .retAddr 300)]) dL_law_19 rfl (by decide) (fun _ => rfl) ?_
  refine z_iconst (pc := 20) (v := 0) dL_law_20 (by decide) ?_
  refine z_istore (pc := 21) (ls' := [(4, .int 0), (3, .ref 103), (2, .ref 75), (1, .ref 1), (0, .retAddr 300)]) dL_law_21 (by decide) (fun _ => rfl) ?_
  refine z_norm (t := zst0) pre_ws rfl ?_
  exact z_widen (b := (600, 6 * 600)) (Nat.le_of_ble_eq_true rfl) (Nat.le_of_ble_eq_true rfl) (z_sub [4, 3, 2, 1, 0] rfl (bL_law_23 600 h h1))
