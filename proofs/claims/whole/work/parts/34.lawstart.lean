theorem nlRL_8 : zNL RL 8 9 := ⟨by decide, (zw 99 (by decide +kernel) rfl), (zw 100 (by decide +kernel) rfl), (zw 76 (by decide +kernel) rfl)⟩
theorem nlRL_45 : zNL RL 45 10 := ⟨by decide, (zw 1130 (by decide +kernel) rfl), (zw 1131 (by decide +kernel) rfl), (zw 87 (by decide +kernel) rfl)⟩
theorem mqX9_init : zMl mX9_init 0 := ⟨(zw 103 (by decide +kernel) rfl), (zw 76 (by decide +kernel) rfl), by decide, by decide, by decide +kernel⟩
theorem mqX10_init : zMl mX10_init 0 := ⟨(zw 1134 (by decide +kernel) rfl), (zw 87 (by decide +kernel) rfl), by decide, by decide, by decide +kernel⟩
theorem miX9_init : Cond.instanceMethod yX9_init ∈ zALL := (zw 102 (by decide +kernel) rfl)
theorem miX10_init : Cond.instanceMethod yX10_init ∈ zALL := (zw 1133 (by decide +kernel) rfl)
theorem mlRL_44 : Cond.methodLink RL 44 yX9_init ∈ zALL := (zw 101 (by decide +kernel) rfl)
theorem mlRL_47 : Cond.methodLink RL 47 yX10_init ∈ zALL := (zw 1132 (by decide +kernel) rfl)
theorem ac_long : Cond.arrayClass .long ∈ zALL := (zw 1526 (by decide +kernel) rfl)
/-- the empty state -/
def z0 : zS := ((0, true), fun _ => (0, 0), fun _ _ => 0, fun _ _ => 0, fun _ _ => 0)
/-- THE LAW as a function of the script -/
def fL_law (L : Nat) (xs : Nat → Int32) : Option (Int32 × zS) :=
  bnd (nO z0 9) fun s1 =>
  bnd (fX9_init (zn z0 + 1) s1) fun s2 =>
  bnd (nO s2 10) fun s3 =>
  bnd (fX10_init (zn s2 + 1) s3) fun s4 =>
  bnd (gd (zal s4 = true) (some (znew s4 14 1))) fun s5 =>
  fL_law_23 L xs 600 (zn z0 + 1) (zn s2 + 1) (zn s4 + 1) 0 (zfz s5)
set_option maxRecDepth 100000 in
set_option maxHeartbeats 4000000 in
theorem lawZ {E : zE} {L : Nat} {xs : Nat → Int32} {q : Int32 × zS} (h : fL_law L xs = some q) (h1 : q.1 = 1) : Z E mL_law 0 [(0, .retAddr 300)] [] z0 (601024, 7293034) (zLF E L xs) := by
  unfold fL_law at h
  obtain ⟨a1, s1, e1, h⟩ := iNO h
  refine y_new (pc := 0) (b1 := 601023) (b2 := 7293024) nlRL_8 dL_law_0 a1 rfl rfl e1 ?_
  refine z_dup (pc := 3) dL_law_3 (fun _ => rfl) ?_
  obtain ⟨s2, e2, h⟩ := bnd_i h
  refine y_I (pc := 4) (M2 := mX9_init) (As := []) (b1 := 600950) (b2 := 7160916) (okX9_init e2) mqX9_init miX9_init rfl rfl mlRL_44 dL_law_4 ⟨by decide, by decide⟩ rfl rfl (fun _ => Nat.le_of_ble_eq_true rfl) rfl rfl ?_
  refine z_astore_n (pc := 7) (ls' := [(1, .ref (zn z0 + 1)), (0, .retAddr 300)]) dL_law_7 rfl (by decide) (fun _ => rfl) ?_
  obtain ⟨a3, s3, e3, h⟩ := iNO h
  refine y_new (pc := 8) (b1 := 600949) (b2 := 7160857) nlRL_45 dL_law_8 a3 rfl rfl e3 ?_
  refine z_dup (pc := 11) dL_law_11 (fun _ => rfl) ?_
  obtain ⟨s4, e4, h⟩ := bnd_i h
  refine y_I (pc := 12) (M2 := mX10_init) (As := []) (b1 := 600922) (b2 := 7125187) (okX10_init e4) mqX10_init miX10_init rfl rfl mlRL_47 dL_law_12 ⟨by decide, by decide⟩ rfl rfl (fun _ => Nat.le_of_ble_eq_true rfl) rfl rfl ?_
  refine z_astore_n (pc := 15) (ls' := [(2, .ref (zn s2 + 1)), (1, .ref (zn z0 + 1)), (0, .retAddr 300)]) dL_law_15 rfl (by decide) (fun _ => rfl) ?_
  refine z_iconst (pc := 16) (v := 1) dL_law_16 (by decide) ?_
  obtain ⟨s5, e5, h⟩ := bnd_i h
  obtain ⟨a5, e5⟩ := gd_i e5
  refine y_newJ (pc := 17) (b1 := 600921) (b2 := 7125186) ac_long dL_law_17 a5 rfl rfl (Option.some.inj e5) ?_
  refine z_astore_n (pc := 19) (ls' := [(3, .ref (zn s4 + 1)), (2, .ref (zn s2 + 1)), (1, .ref (zn z0 + 1)), (0, .retAddr 300)]) dL_law_19 rfl (by decide) (fun _ => rfl) ?_
  refine z_iconst (pc := 20) (v := 0) dL_law_20 (by decide) ?_
  refine z_istore (pc := 21) (ls' := [(4, .int 0), (3, .ref (zn s4 + 1)), (2, .ref (zn s2 + 1)), (1, .ref (zn z0 + 1)), (0, .retAddr 300)]) dL_law_21 (by decide) (fun _ => rfl) ?_
  refine z_freeze ?_
  exact z_widen (b := (600, 6 * 600)) (Nat.le_of_ble_eq_true rfl) (Nat.le_of_ble_eq_true rfl) (z_sub [4, 3, 2, 1, 0] rfl (bL_law_23 600 h h1))
