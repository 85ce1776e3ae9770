def fX4_begin_114 (k29 : Nat → Int32 → zS → Option zS) (l0 : Nat) (l2 : Int32) (s : zS) : Option zS :=
  k29 l0 (l2 + 1) s
set_option maxRecDepth 100000 in
set_option maxHeartbeats 4000000 in
theorem bX4_begin_114 {E : zE} {k29 : Nat → Int32 → zS → Option zS} (hk29 : ∀ {l0 : Nat} {l2 : Int32} {s : zS} {q : zS}, k29 l0 l2 s = some q → Z E mX4_begin 29 [(0, .ref l0), (2, .int l2)] [] s (0, 0) (zRv E mX4_begin q)) {l0 : Nat} {l2 : Int32} {s : zS} {q : zS} (h : fX4_begin_114 k29 l0 l2 s = some q) : Z E mX4_begin 114 [(0, .ref l0), (2, .int l2)] [] s (0, 0) (zRv E mX4_begin q) := by
  unfold fX4_begin_114 at h
  refine z_iinc (pc := 114) (v := (l2 + 1)) (ls' := [(2, .int (l2 + 1)), (0, .ref l0)]) 1 rfl rfl dX4_begin_114 (by decide) (fun _ => rfl) ?_
  refine z_goto (pc := 117) (tgt := 29) dX4_begin_117 (by decide) ?_
  exact z_sub [1, 0] rfl (hk29 h)
def fX4_begin_61 (k29 : Nat → Int32 → zS → Option zS) (l0 : Nat) (l2 : Int32) (t0 : Int32) (t1 : Int32) (t2 : Nat) (s : zS) : Option zS :=
  bnd (cl s 6 t2 (fX6_put t2 t1 t0 s)) fun q34 =>
  bnd (qR q34 4 l0 3) fun x37 =>
  bnd (qR q34 4 l0 0) fun x40 =>
  bnd (cl q34 1 x40 (fX1_size x40 l2 q34)) fun q43 =>
  bnd (cl q43.2 6 x37 (fX6_put x37 l2 q43.1 q43.2)) fun q46 =>
  bnd (qR q46 4 l0 0) fun x49 =>
  bnd (cl q46 1 x49 (fX1_size x49 l2 q46)) fun q52 =>
  if 1 < q52.1 then
    fX4_begin_114 (k29) l0 l2 q52.2
  else
    bnd (qR q52.2 4 l0 4) fun x55 =>
    bnd (qI q52.2 4 l0 12) fun x58 =>
    bnd (cl q52.2 6 x55 (fX6_put x55 x58 l2 q52.2)) fun q61 =>
    bnd (qI q61 4 l0 12) fun x64 =>
    bnd (wI q61 4 l0 12 (x64 + 1)) fun s67 =>
    fX4_begin_114 (k29) l0 l2 s67
set_option maxRecDepth 100000 in
set_option maxHeartbeats 4000000 in
theorem bX4_begin_61 {E : zE} {k29 : Nat → Int32 → zS → Option zS} (hk29 : ∀ {l0 : Nat} {l2 : Int32} {s : zS} {q : zS}, k29 l0 l2 s = some q → Z E mX4_begin 29 [(0, .ref l0), (2, .int l2)] [] s (0, 0) (zRv E mX4_begin q)) {l0 : Nat} {l2 : Int32} {t0 : Int32} {t1 : Int32} {t2 : Nat} {s : zS} {q : zS} (h : fX4_begin_61 k29 l0 l2 t0 t1 t2 s = some q) : Z E mX4_begin 61 [(0, .ref l0), (2, .int l2)] [.int t0, .int t1, .ref t2] s (0, 0) (zRv E mX4_begin q) := by
  unfold fX4_begin_61 at h
  obtain ⟨a35, q34, e36, h⟩ := iC h
  refine y_V (pc := 61) (M2 := mX6_put) (As := [.int t1, .int t0]) (okX6_put e36) mvX6_put mlRX4_88 dX4_begin_61 ⟨by decide, by decide⟩ rfl rfl rfl zrest0 a35 ?_
  refine z_aload_n (pc := 64) 0 rfl dX4_begin_64 rfl ?_
  obtain ⟨a38, x37, e39, h⟩ := iR h
  refine y_getR (pc := 65) flRX4_23 dX4_begin_65 rfl a38 e39 ?_
  refine z_iload_n (pc := 68) 1 rfl dX4_begin_68 rfl ?_
  refine z_aload_n (pc := 69) 0 rfl dX4_begin_69 rfl ?_
  obtain ⟨a41, x40, e42, h⟩ := iR h
  refine y_getR (pc := 70) flRX4_69 dX4_begin_70 rfl a41 e42 ?_
  refine z_iload_n (pc := 73) 1 rfl dX4_begin_73 rfl ?_
  obtain ⟨a44, q43, e45, h⟩ := iC h
  refine y_Vi (pc := 74) (M2 := mX1_size) (As := [.int l2]) (okX1_size e45) mvX1_size mlRX4_92 dX4_begin_74 ⟨by decide, by decide⟩ rfl rfl rfl (fun _ => Nat.le_of_ble_eq_true rfl) a44 ?_
  obtain ⟨a47, q46, e48, h⟩ := iC h
  refine y_V (pc := 77) (M2 := mX6_put) (As := [.int l2, .int q43.1]) (okX6_put e48) mvX6_put mlRX4_88 dX4_begin_77 ⟨by decide, by decide⟩ rfl rfl rfl zrest0 a47 ?_
  refine z_aload_n (pc := 80) 0 rfl dX4_begin_80 rfl ?_
  obtain ⟨a50, x49, e51, h⟩ := iR h
  refine y_getR (pc := 81) flRX4_69 dX4_begin_81 rfl a50 e51 ?_
  refine z_iload_n (pc := 84) 1 rfl dX4_begin_84 rfl ?_
  obtain ⟨a53, q52, e54, h⟩ := iC h
  refine y_Vi (pc := 85) (M2 := mX1_size) (As := [.int l2]) (okX1_size e54) mvX1_size mlRX4_92 dX4_begin_85 ⟨by decide, by decide⟩ rfl rfl rfl zrest0 a53 ?_
  refine z_iconst (pc := 88) (v := 1) dX4_begin_88 (by decide) ?_
  refine z_icmp_gt (pc := 89) (tgt := 114) dX4_begin_89 (by decide) (fun hc => ?_) (fun hc => ?_)
  · replace h := ifp hc h
    exact z_sub [0, 1] rfl (bX4_begin_114 (fun h => hk29 h) h)
  · replace h := ifn hc h
    refine z_aload_n (pc := 92) 0 rfl dX4_begin_92 rfl ?_
    obtain ⟨a56, x55, e57, h⟩ := iR h
    refine y_getR (pc := 93) flRX4_26 dX4_begin_93 rfl a56 e57 ?_
    refine z_aload_n (pc := 96) 0 rfl dX4_begin_96 rfl ?_
    obtain ⟨a59, x58, e60, h⟩ := iI h
    refine y_getI (pc := 97) flRX4_50 dX4_begin_97 rfl a59 e60 ?_
    refine z_iload_n (pc := 100) 1 rfl dX4_begin_100 rfl ?_
    obtain ⟨a62, q61, e63, h⟩ := iC h
    refine y_V (pc := 101) (M2 := mX6_put) (As := [.int x58, .int l2]) (okX6_put e63) mvX6_put mlRX4_88 dX4_begin_101 ⟨by decide, by decide⟩ rfl rfl rfl zrest0 a62 ?_
    refine z_aload_n (pc := 104) 0 rfl dX4_begin_104 rfl ?_
    refine z_dup (pc := 105) dX4_begin_105 (fun _ => rfl) ?_
    obtain ⟨a65, x64, e66, h⟩ := iI h
    refine y_getI (pc := 106) flRX4_50 dX4_begin_106 rfl a65 e66 ?_
    refine z_iconst (pc := 109) (v := 1) dX4_begin_109 (by decide) ?_
    refine z_iadd (pc := 110) dX4_begin_110 ?_
    obtain ⟨a68, s67, e69, h⟩ := jI h
    refine y_putI (pc := 111) flRX4_50 dX4_begin_111 rfl (Or.inl rfl) a68 e69 ?_
    exact z_sub [0, 1] rfl (bX4_begin_114 (fun h => hk29 h) h)
def fX4_begin_29  (n : Nat) : Nat → Int32 → zS → Option zS := match n with
  | 0 => fun _ _ _ => none
  | n + 1 => fun l0 l2 s =>
    bnd (qR s 4 l0 0) fun x19 =>
    bnd (cl s 1 x19 (fX1_inAll x19  s)) fun q22 =>
    if q22.1 < l2 then
      some q22.2
    else
      bnd (qR q22.2 4 l0 1) fun x25 =>
      bnd (qR q22.2 4 l0 0) fun x28 =>
      bnd (cl q22.2 1 x28 (fX1_ofFormula x28  q22.2)) fun q31 =>
      if q31.1 < l2 then
        fX4_begin_61 ((fX4_begin_29  n)) l0 l2 0 l2 x25 q31.2
      else
        fX4_begin_61 ((fX4_begin_29  n)) l0 l2 1 l2 x25 q31.2
set_option maxRecDepth 100000 in
set_option maxHeartbeats 4000000 in
theorem bX4_begin_29 {E : zE}  : ∀ (n : Nat) {l0 : Nat} {l2 : Int32} {s : zS} {q : zS}, fX4_begin_29  n l0 l2 s = some q → Z E mX4_begin 29 [(0, .ref l0), (2, .int l2)] [] s (0, 0) (zRv E mX4_begin q) := by
  intro n
  induction n with
  | zero => intro l0 l2 s q h; cases h
  | succ n ih =>
    intro l0 l2 s q h
    unfold fX4_begin_29 at h
    refine z_iload_n (pc := 29) 1 rfl dX4_begin_29 rfl ?_
    refine z_aload_n (pc := 30) 0 rfl dX4_begin_30 rfl ?_
    obtain ⟨a20, x19, e21, h⟩ := iR h
    refine y_getR (pc := 31) flRX4_69 dX4_begin_31 rfl a20 e21 ?_
    obtain ⟨a23, q22, e24, h⟩ := iC h
    refine y_Vi (pc := 34) (M2 := mX1_inAll) (As := []) (okX1_inAll e24) mvX1_inAll mlRX4_79 dX4_begin_34 ⟨by decide, by decide⟩ rfl rfl rfl (fun _ => Nat.le_of_ble_eq_true rfl) a23 ?_
    refine z_icmp_gt (pc := 37) (tgt := 120) dX4_begin_37 (by decide) (fun hc => ?_) (fun hc => ?_)
    · replace h := ifp hc h
      exact y_ret (pc := 120) dX4_begin_120 rfl h
    · replace h := ifn hc h
      refine z_aload_n (pc := 40) 0 rfl dX4_begin_40 rfl ?_
      obtain ⟨a26, x25, e27, h⟩ := iR h
      refine y_getR (pc := 41) flRX4_16 dX4_begin_41 rfl a26 e27 ?_
      refine z_iload_n (pc := 44) 1 rfl dX4_begin_44 rfl ?_
      refine z_iload_n (pc := 45) 1 rfl dX4_begin_45 rfl ?_
      refine z_aload_n (pc := 46) 0 rfl dX4_begin_46 rfl ?_
      obtain ⟨a29, x28, e30, h⟩ := iR h
      refine y_getR (pc := 47) flRX4_69 dX4_begin_47 rfl a29 e30 ?_
      obtain ⟨a32, q31, e33, h⟩ := iC h
      refine y_Vi (pc := 50) (M2 := mX1_ofFormula) (As := []) (okX1_ofFormula e33) mvX1_ofFormula mlRX4_85 dX4_begin_50 ⟨by decide, by decide⟩ rfl rfl rfl (fun _ => Nat.le_of_ble_eq_true rfl) a32 ?_
      refine z_icmp_gt (pc := 53) (tgt := 60) dX4_begin_53 (by decide) (fun hc => ?_) (fun hc => ?_)
      · replace h := ifp hc h
        refine z_iconst (pc := 60) (v := 0) dX4_begin_60 (by decide) ?_
        exact z_sub [0, 1] rfl (bX4_begin_61 (fun h => ih h) h)
      · replace h := ifn hc h
        refine z_iconst (pc := 56) (v := 1) dX4_begin_56 (by decide) ?_
        refine z_goto (pc := 57) (tgt := 61) dX4_begin_57 (by decide) ?_
        exact z_sub [0, 1] rfl (bX4_begin_61 (fun h => ih h) h)
def fX4_begin (l0 : Nat) (l1 : Int32) (s : zS) : Option zS :=
  bnd (cl s 4 l0 (fX4_forget l0  s)) fun q1 =>
  bnd (wI q1 4 l0 17 l1) fun s4 =>
  bnd (wI s4 4 l0 14 0) fun s7 =>
  bnd (wI s7 4 l0 12 0) fun s10 =>
  bnd (qR s10 4 l0 6) fun x13 =>
  bnd (cl s10 6 x13 (fX6_fill x13 0 s10)) fun q16 =>
  fX4_begin_29  zfu l0 1 q16
set_option maxRecDepth 100000 in
set_option maxHeartbeats 4000000 in
theorem okX4_begin {E : zE} {l0 : Nat} {l1 : Int32} {s : zS} {t : zS} (h : fX4_begin l0 l1 s = some t) : Cv E mX4_begin [.ref l0, .int l1] s t := by
  refine Ct.of (ls := [(0, .ref l0), (1, .int l1)]) (by decide) rfl (Nat.le_of_ble_eq_true rfl) ?_
  show Z E mX4_begin 0 [(0, .ref l0), (1, .int l1)] [] s (0, 0) (zRv E mX4_begin t)
  unfold fX4_begin at h
  refine z_aload_n (pc := 0) 0 rfl dX4_begin_0 rfl ?_
  obtain ⟨a2, q1, e3, h⟩ := iC h
  refine y_V (pc := 1) (M2 := mX4_forget) (As := []) (okX4_forget e3) mvX4_forget mlRX4_73 dX4_begin_1 ⟨by decide, by decide⟩ rfl rfl rfl zrest0 a2 ?_
  refine z_aload_n (pc := 4) 0 rfl dX4_begin_4 rfl ?_
  refine z_iload_n (pc := 5) 1 rfl dX4_begin_5 rfl ?_
  obtain ⟨a5, s4, e6, h⟩ := jI h
  refine y_putI (pc := 6) flRX4_66 dX4_begin_6 rfl (Or.inl rfl) a5 e6 ?_
  refine z_aload_n (pc := 9) 0 rfl dX4_begin_9 rfl ?_
  refine z_iconst (pc := 10) (v := 0) dX4_begin_10 (by decide) ?_
  obtain ⟨a8, s7, e9, h⟩ := jI h
  refine y_putI (pc := 11) flRX4_57 dX4_begin_11 rfl (Or.inl rfl) a8 e9 ?_
  refine z_aload_n (pc := 14) 0 rfl dX4_begin_14 rfl ?_
  refine z_iconst (pc := 15) (v := 0) dX4_begin_15 (by decide) ?_
  obtain ⟨a11, s10, e12, h⟩ := jI h
  refine y_putI (pc := 16) flRX4_50 dX4_begin_16 rfl (Or.inl rfl) a11 e12 ?_
  refine z_aload_n (pc := 19) 0 rfl dX4_begin_19 rfl ?_
  obtain ⟨a14, x13, e15, h⟩ := iR h
  refine y_getR (pc := 20) flRX4_32 dX4_begin_20 rfl a14 e15 ?_
  refine z_iconst (pc := 23) (v := 0) dX4_begin_23 (by decide) ?_
  obtain ⟨a17, q16, e18, h⟩ := iC h
  refine y_V (pc := 24) (M2 := mX6_fill) (As := [.int 0]) (okX6_fill e18) mvX6_fill mlRX4_76 dX4_begin_24 ⟨by decide, by decide⟩ rfl rfl rfl zrest0 a17 ?_
  refine z_iconst (pc := 27) (v := 1) dX4_begin_27 (by decide) ?_
  refine z_istore_n (pc := 28) (ls' := [(2, .int 1), (0, .ref l0), (1, .int l1)]) dX4_begin_28 rfl (by decide) (fun _ => rfl) ?_
  exact z_sub [1, 0] rfl (bX4_begin_29  _ h)
def fX3_begin (l0 : Nat) (l1 : Int32) (l2 : Int32) (l3 : Int32) (s : zS) : Option zS :=
  bnd (cl s 3 l0 (fX3_forget l0  s)) fun q1 =>
  bnd (wZ q1 3 l0 4 l1) fun s4 =>
  bnd (wZ s4 3 l0 5 l2) fun s7 =>
  bnd (qR s7 3 l0 1) fun x10 =>
  bnd (cl s7 4 x10 (fX4_begin x10 l3 s7)) fun q13 =>
  some q13
set_option maxRecDepth 100000 in
set_option maxHeartbeats 4000000 in
theorem okX3_begin {E : zE} {l0 : Nat} {l1 : Int32} {l2 : Int32} {l3 : Int32} {s : zS} {t : zS} (h : fX3_begin l0 l1 l2 l3 s = some t) : Cv E mX3_begin [.ref l0, .int l1, .int l2, .int l3] s t := by
  refine Ct.of (ls := [(0, .ref l0), (1, .int l1), (2, .int l2), (3, .int l3)]) (by decide) rfl (Nat.le_of_ble_eq_true rfl) ?_
  show Z E mX3_begin 0 [(0, .ref l0), (1, .int l1), (2, .int l2), (3, .int l3)] [] s (0, 0) (zRv E mX3_begin t)
  unfold fX3_begin at h
  refine z_aload_n (pc := 0) 0 rfl dX3_begin_0 rfl ?_
  obtain ⟨a2, q1, e3, h⟩ := iC h
  refine y_V (pc := 1) (M2 := mX3_forget) (As := []) (okX3_forget e3) mvX3_forget mlRX3_72 dX3_begin_1 ⟨by decide, by decide⟩ rfl rfl rfl zrest0 a2 ?_
  refine z_aload_n (pc := 4) 0 rfl dX3_begin_4 rfl ?_
  refine z_iload_n (pc := 5) 1 rfl dX3_begin_5 rfl ?_
  obtain ⟨a5, s4, e6, h⟩ := jZ h
  refine y_putZ (pc := 6) flRX3_27 dX3_begin_6 rfl (Or.inl rfl) a5 e6 ?_
  refine z_aload_n (pc := 9) 0 rfl dX3_begin_9 rfl ?_
  refine z_iload_n (pc := 10) 2 rfl dX3_begin_10 rfl ?_
  obtain ⟨a8, s7, e9, h⟩ := jZ h
  refine y_putZ (pc := 11) flRX3_31 dX3_begin_11 rfl (Or.inl rfl) a8 e9 ?_
  refine z_aload_n (pc := 14) 0 rfl dX3_begin_14 rfl ?_
  obtain ⟨a11, x10, e12, h⟩ := iR h
  refine y_getR (pc := 15) flRX3_59 dX3_begin_15 rfl a11 e12 ?_
  refine z_iload_n (pc := 18) 3 rfl dX3_begin_18 rfl ?_
  obtain ⟨a14, q13, e15, h⟩ := iC h
  refine y_V (pc := 19) (M2 := mX4_begin) (As := [.int l3]) (okX4_begin e15) mvX4_begin mlRX3_73 dX3_begin_19 ⟨by decide, by decide⟩ rfl rfl rfl zrest0 a14 ?_
  exact y_ret (pc := 22) dX3_begin_22 rfl h
def fX4_mark (l0 : Nat) (l1 : Int32) (s : zS) : Option zS :=
  bnd (qR s 4 l0 2) fun x1 =>
  bnd (cl s 6 x1 (fX6_put x1 l1 1 s)) fun q4 =>
  some q4
set_option maxRecDepth 100000 in
set_option maxHeartbeats 4000000 in
theorem okX4_mark {E : zE} {l0 : Nat} {l1 : Int32} {s : zS} {t : zS} (h : fX4_mark l0 l1 s = some t) : Cv E mX4_mark [.ref l0, .int l1] s t := by
  refine Ct.of (ls := [(0, .ref l0), (1, .int l1)]) (by decide) rfl (Nat.le_of_ble_eq_true rfl) ?_
  show Z E mX4_mark 0 [(0, .ref l0), (1, .int l1)] [] s (0, 0) (zRv E mX4_mark t)
  unfold fX4_mark at h
  refine z_aload_n (pc := 0) 0 rfl dX4_mark_0 rfl ?_
  obtain ⟨a2, x1, e3, h⟩ := iR h
  refine y_getR (pc := 1) flRX4_20 dX4_mark_1 rfl a2 e3 ?_
  refine z_iload_n (pc := 4) 1 rfl dX4_mark_4 rfl ?_
  refine z_iconst (pc := 5) (v := 1) dX4_mark_5 (by decide) ?_
  obtain ⟨a5, q4, e6, h⟩ := iC h
  refine y_V (pc := 6) (M2 := mX6_put) (As := [.int l1, .int 1]) (okX6_put e6) mvX6_put mlRX4_88 dX4_mark_6 ⟨by decide, by decide⟩ rfl rfl rfl zrest0 a5 ?_
  exact y_ret (pc := 9) dX4_mark_9 rfl h
def fX4_usedAt (l0 : Nat) (l1 : Int32) (s : zS) : Option (Int32 × zS) :=
  bnd (qR s 4 l0 11) fun x1 =>
  bnd (cl s 6 x1 (fX6_at x1 l1 s)) fun q4 =>
  some (q4.1, q4.2)
set_option maxRecDepth 100000 in
set_option maxHeartbeats 4000000 in
theorem okX4_usedAt {E : zE} {l0 : Nat} {l1 : Int32} {s : zS} {q : Int32 × zS} (h : fX4_usedAt l0 l1 s = some q) : Ci E mX4_usedAt [.ref l0, .int l1] s q.1 q.2 := by
  refine Ct.of (ls := [(0, .ref l0), (1, .int l1)]) (by decide) rfl (Nat.le_of_ble_eq_true rfl) ?_
  show Z E mX4_usedAt 0 [(0, .ref l0), (1, .int l1)] [] s (0, 0) (zRi E mX4_usedAt q.1 q.2)
  unfold fX4_usedAt at h
  refine z_aload_n (pc := 0) 0 rfl dX4_usedAt_0 rfl ?_
  obtain ⟨a2, x1, e3, h⟩ := iR h
  refine y_getR (pc := 1) flRX4_47 dX4_usedAt_1 rfl a2 e3 ?_
  refine z_iload_n (pc := 4) 1 rfl dX4_usedAt_4 rfl ?_
  obtain ⟨a5, q4, e6, h⟩ := iC h
  refine y_Vi (pc := 5) (M2 := mX6_at) (As := [.int l1]) (okX6_at e6) mvX6_at mlRX4_96 dX4_usedAt_5 ⟨by decide, by decide⟩ rfl rfl rfl zrest0 a5 ?_
  exact y_iret (pc := 8) dX4_usedAt_8 rfl h
def fX4_usedCount (l0 : Nat) (s : zS) : Option (Int32 × zS) :=
  bnd (qI s 4 l0 15) fun x1 =>
  some (x1, s)
set_option maxRecDepth 100000 in
set_option maxHeartbeats 4000000 in
theorem okX4_usedCount {E : zE} {l0 : Nat} {s : zS} {q : Int32 × zS} (h : fX4_usedCount l0 s = some q) : Ci E mX4_usedCount [.ref l0] s q.1 q.2 := by
  refine Ct.of (ls := [(0, .ref l0)]) (by decide) rfl (Nat.le_of_ble_eq_true rfl) ?_
  show Z E mX4_usedCount 0 [(0, .ref l0)] [] s (0, 0) (zRi E mX4_usedCount q.1 q.2)
  unfold fX4_usedCount at h
  refine z_aload_n (pc := 0) 0 rfl dX4_usedCount_0 rfl ?_
  obtain ⟨a2, x1, e3, h⟩ := iI h
  refine y_getI (pc := 1) flRX4_60 dX4_usedCount_1 rfl a2 e3 ?_
  exact y_iret (pc := 4) dX4_usedCount_4 rfl h
def fX3_keepUsed_10  (n : Nat) : Nat → Int32 → Int32 → Int32 → zS → Option zS := match n with
  | 0 => fun _ _ _ _ _ => none
  | n + 1 => fun l0 l1 l2 l3 s =>
    if l2 ≤ l3 then
      some s
    else
      bnd (qR s 3 l0 1) fun x7 =>
      bnd (cl s 4 x7 (fX4_usedAt x7 l3 s)) fun q10 =>
      bnd (qR q10.2 3 l0 1) fun x13 =>
      bnd (cl q10.2 4 x13 (fX4_mark x13 q10.1 q10.2)) fun q16 =>
      bnd (qR q16 3 l0 2) fun x19 =>
      bnd (cl q16 2 x19 (fX2_add x19 l1 q10.1 q16)) fun q22 =>
      (fX3_keepUsed_10  n) l0 l1 l2 (l3 + 1) q22
set_option maxRecDepth 100000 in
set_option maxHeartbeats 4000000 in
theorem bX3_keepUsed_10 {E : zE}  : ∀ (n : Nat) {l0 : Nat} {l1 : Int32} {l2 : Int32} {l3 : Int32} {s : zS} {q : zS}, fX3_keepUsed_10  n l0 l1 l2 l3 s = some q → Z E mX3_keepUsed 10 [(0, .ref l0), (1, .int l1), (2, .int l2), (3, .int l3)] [] s (0, 0) (zRv E mX3_keepUsed q) := by
  intro n
  induction n with
  | zero => intro l0 l1 l2 l3 s q h; cases h
  | succ n ih =>
    intro l0 l1 l2 l3 s q h
    unfold fX3_keepUsed_10 at h
    refine z_iload_n (pc := 10) 3 rfl dX3_keepUsed_10 rfl ?_
    refine z_iload_n (pc := 11) 2 rfl dX3_keepUsed_11 rfl ?_
    refine z_icmp_ge (pc := 12) (tgt := 50) dX3_keepUsed_12 (by decide) (fun hc => ?_) (fun hc => ?_)
    · replace h := ifp hc h
      exact y_ret (pc := 50) dX3_keepUsed_50 rfl h
    · replace h := ifn hc h
      refine z_aload_n (pc := 15) 0 rfl dX3_keepUsed_15 rfl ?_
      obtain ⟨a8, x7, e9, h⟩ := iR h
      refine y_getR (pc := 16) flRX3_59 dX3_keepUsed_16 rfl a8 e9 ?_
      refine z_iload_n (pc := 19) 3 rfl dX3_keepUsed_19 rfl ?_
      obtain ⟨a11, q10, e12, h⟩ := iC h
      refine y_Vi (pc := 20) (M2 := mX4_usedAt) (As := [.int l3]) (okX4_usedAt e12) mvX4_usedAt mlRX3_172 dX3_keepUsed_20 ⟨by decide, by decide⟩ rfl rfl rfl zrest0 a11 ?_
      refine z_istore (pc := 23) (ls' := [(4, .int q10.1), (0, .ref l0), (1, .int l1), (2, .int l2), (3, .int l3)]) dX3_keepUsed_23 (by decide) (fun _ => rfl) ?_
      refine z_aload_n (pc := 25) 1 rfl dX3_keepUsed_25 rfl ?_
      obtain ⟨a14, x13, e15, h⟩ := iR h
      refine y_getR (pc := 26) flRX3_59 dX3_keepUsed_26 rfl a14 e15 ?_
      refine z_iload (pc := 29) 0 rfl dX3_keepUsed_29 ?_
      obtain ⟨a17, q16, e18, h⟩ := iC h
      refine y_V (pc := 31) (M2 := mX4_mark) (As := [.int q10.1]) (okX4_mark e18) mvX4_mark mlRX3_166 dX3_keepUsed_31 ⟨by decide, by decide⟩ rfl rfl rfl zrest0 a17 ?_
      refine z_aload_n (pc := 34) 1 rfl dX3_keepUsed_34 rfl ?_
      obtain ⟨a20, x19, e21, h⟩ := iR h
      refine y_getR (pc := 35) flRX3_12 dX3_keepUsed_35 rfl a20 e21 ?_
      refine z_iload_n (pc := 38) 2 rfl dX3_keepUsed_38 rfl ?_
      refine z_iload (pc := 39) 0 rfl dX3_keepUsed_39 ?_
      obtain ⟨a23, q22, e24, h⟩ := iC h
      refine y_V (pc := 41) (M2 := mX2_add) (As := [.int l1, .int q10.1]) (okX2_add e24) mvX2_add mlRX3_163 dX3_keepUsed_41 ⟨by decide, by decide⟩ rfl rfl rfl zrest0 a23 ?_
      refine z_iinc (pc := 44) (v := (l3 + 1)) (ls' := [(3, .int (l3 + 1)), (4, .int q10.1), (0, .ref l0), (1, .int l1), (2, .int l2)]) 4 rfl rfl dX3_keepUsed_44 (by decide) (fun _ => rfl) ?_
      refine z_goto (pc := 47) (tgt := 10) dX3_keepUsed_47 (by decide) ?_
      exact z_sub [2, 3, 4, 0] rfl (ih h)
def fX3_keepUsed (l0 : Nat) (l1 : Int32) (s : zS) : Option zS :=
  bnd (qR s 3 l0 1) fun x1 =>
  bnd (cl s 4 x1 (fX4_usedCount x1  s)) fun q4 =>
  fX3_keepUsed_10  zfu l0 l1 q4.1 0 q4.2
set_option maxRecDepth 100000 in
set_option maxHeartbeats 4000000 in
theorem okX3_keepUsed {E : zE} {l0 : Nat} {l1 : Int32} {s : zS} {t : zS} (h : fX3_keepUsed l0 l1 s = some t) : Cv E mX3_keepUsed [.ref l0, .int l1] s t := by
  refine Ct.of (ls := [(0, .ref l0), (1, .int l1)]) (by decide) rfl (Nat.le_of_ble_eq_true rfl) ?_
  show Z E mX3_keepUsed 0 [(0, .ref l0), (1, .int l1)] [] s (0, 0) (zRv E mX3_keepUsed t)
  unfold fX3_keepUsed at h
  refine z_aload_n (pc := 0) 0 rfl dX3_keepUsed_0 rfl ?_
  obtain ⟨a2, x1, e3, h⟩ := iR h
  refine y_getR (pc := 1) flRX3_59 dX3_keepUsed_1 rfl a2 e3 ?_
  obtain ⟨a5, q4, e6, h⟩ := iC h
  refine y_Vi (pc := 4) (M2 := mX4_usedCount) (As := []) (okX4_usedCount e6) mvX4_usedCount mlRX3_169 dX3_keepUsed_4 ⟨by decide, by decide⟩ rfl rfl rfl zrest0 a5 ?_
  refine z_istore_n (pc := 7) (ls' := [(2, .int q4.1), (0, .ref l0), (1, .int l1)]) dX3_keepUsed_7 rfl (by decide) (fun _ => rfl) ?_
  refine z_iconst (pc := 8) (v := 0) dX3_keepUsed_8 (by decide) ?_
  refine z_istore_n (pc := 9) (ls' := [(3, .int 0), (2, .int q4.1), (0, .ref l0), (1, .int l1)]) dX3_keepUsed_9 rfl (by decide) (fun _ => rfl) ?_
  exact z_sub [2, 3, 1, 0] rfl (bX3_keepUsed_10  _ h)
def fX4_assumeOpposites_60 (k12 : Nat → Int32 → Int32 → Int32 → Int32 → zS → Option zS) (l0 : Nat) (l1 : Int32) (l2 : Int32) (l3 : Int32) (l4 : Int32) (s : zS) : Option zS :=
  k12 l0 l1 l2 l3 (l4 + 1) s
set_option maxRecDepth 100000 in
set_option maxHeartbeats 4000000 in
theorem bX4_assumeOpposites_60 {E : zE} {k12 : Nat → Int32 → Int32 → Int32 → Int32 → zS → Option zS} (hk12 : ∀ {l0 : Nat} {l1 : Int32} {l2 : Int32} {l3 : Int32} {l4 : Int32} {s : zS} {q : zS}, k12 l0 l1 l2 l3 l4 s = some q → Z E mX4_assumeOpposites 12 [(0, .ref l0), (1, .int l1), (2, .int l2), (3, .int l3), (4, .int l4)] [] s (0, 0) (zRv E mX4_assumeOpposites q)) {l0 : Nat} {l1 : Int32} {l2 : Int32} {l3 : Int32} {l4 : Int32} {s : zS} {q : zS} (h : fX4_assumeOpposites_60 k12 l0 l1 l2 l3 l4 s = some q) : Z E mX4_assumeOpposites 60 [(0, .ref l0), (1, .int l1), (2, .int l2), (3, .int l3), (4, .int l4)] [] s (0, 0) (zRv E mX4_assumeOpposites q) := by
  unfold fX4_assumeOpposites_60 at h
  refine z_iinc (pc := 60) (v := (l4 + 1)) (ls' := [(4, .int (l4 + 1)), (0, .ref l0), (1, .int l1), (2, .int l2), (3, .int l3)]) 4 rfl rfl dX4_assumeOpposites_60 (by decide) (fun _ => rfl) ?_
  refine z_goto (pc := 63) (tgt := 12) dX4_assumeOpposites_63 (by decide) ?_
  exact z_sub [1, 2, 3, 4, 0] rfl (hk12 h)
def fX4_assumeOpposites_12  (n : Nat) : Nat → Int32 → Int32 → Int32 → Int32 → zS → Option zS := match n with
  | 0 => fun _ _ _ _ _ _ => none
  | n + 1 => fun l0 l1 l2 l3 l4 s =>
    if l3 ≤ l4 then
      some s
    else
      bnd (qR s 4 l0 0) fun x7 =>
      bnd (cl s 1 x7 (fX1_literal x7 l1 l4 s)) fun q10 =>
      if q10.1 = l2 then
        fX4_assumeOpposites_60 ((fX4_assumeOpposites_12  n)) l0 l1 l2 l3 l4 q10.2
      else
        bnd (qR q10.2 4 l0 7) fun x13 =>
        bnd (qI q10.2 4 l0 13) fun x16 =>
        bnd (cl q10.2 6 x13 (fX6_put x13 x16 (-q10.1) q10.2)) fun q19 =>
        bnd (qI q19 4 l0 13) fun x22 =>
        bnd (wI q19 4 l0 13 (x22 + 1)) fun s25 =>
        fX4_assumeOpposites_60 ((fX4_assumeOpposites_12  n)) l0 l1 l2 l3 l4 s25
set_option maxRecDepth 100000 in
set_option maxHeartbeats 4000000 in
theorem bX4_assumeOpposites_12 {E : zE}  : ∀ (n : Nat) {l0 : Nat} {l1 : Int32} {l2 : Int32} {l3 : Int32} {l4 : Int32} {s : zS} {q : zS}, fX4_assumeOpposites_12  n l0 l1 l2 l3 l4 s = some q → Z E mX4_assumeOpposites 12 [(0, .ref l0), (1, .int l1), (2, .int l2), (3, .int l3), (4, .int l4)] [] s (0, 0) (zRv E mX4_assumeOpposites q) := by
  intro n
  induction n with
  | zero => intro l0 l1 l2 l3 l4 s q h; cases h
  | succ n ih =>
    intro l0 l1 l2 l3 l4 s q h
    unfold fX4_assumeOpposites_12 at h
    refine z_iload (pc := 12) 4 rfl dX4_assumeOpposites_12 ?_
    refine z_iload_n (pc := 14) 3 rfl dX4_assumeOpposites_14 rfl ?_
    refine z_icmp_ge (pc := 15) (tgt := 66) dX4_assumeOpposites_15 (by decide) (fun hc => ?_) (fun hc => ?_)
    · replace h := ifp hc h
      exact y_ret (pc := 66) dX4_assumeOpposites_66 rfl h
    · replace h := ifn hc h
      refine z_aload_n (pc := 18) 0 rfl dX4_assumeOpposites_18 rfl ?_
      obtain ⟨a8, x7, e9, h⟩ := iR h
      refine y_getR (pc := 19) flRX4_69 dX4_assumeOpposites_19 rfl a8 e9 ?_
      refine z_iload_n (pc := 22) 1 rfl dX4_assumeOpposites_22 rfl ?_
      refine z_iload (pc := 23) 4 rfl dX4_assumeOpposites_23 ?_
      obtain ⟨a11, q10, e12, h⟩ := iC h
      refine y_Vi (pc := 25) (M2 := mX1_literal) (As := [.int l1, .int l4]) (okX1_literal e12) mvX1_literal mlRX4_105 dX4_assumeOpposites_25 ⟨by decide, by decide⟩ rfl rfl rfl zrest0 a11 ?_
      refine z_istore (pc := 28) (ls' := [(5, .int q10.1), (0, .ref l0), (1, .int l1), (2, .int l2), (3, .int l3), (4, .int l4)]) dX4_assumeOpposites_28 (by decide) (fun _ => rfl) ?_
      refine z_iload (pc := 30) 0 rfl dX4_assumeOpposites_30 ?_
      refine z_iload_n (pc := 32) 3 rfl dX4_assumeOpposites_32 rfl ?_
      refine z_icmp_eq (pc := 33) (tgt := 60) dX4_assumeOpposites_33 (by decide) (fun hc => ?_) (fun hc => ?_)
      · replace h := ifp hc h
        exact z_sub [1, 2, 3, 4, 5] rfl (bX4_assumeOpposites_60 (fun h => ih h) h)
      · replace h := ifn hc h
        refine z_aload_n (pc := 36) 1 rfl dX4_assumeOpposites_36 rfl ?_
        obtain ⟨a14, x13, e15, h⟩ := iR h
        refine y_getR (pc := 37) flRX4_35 dX4_assumeOpposites_37 rfl a14 e15 ?_
        refine z_aload_n (pc := 40) 1 rfl dX4_assumeOpposites_40 rfl ?_
        obtain ⟨a17, x16, e18, h⟩ := iI h
        refine y_getI (pc := 41) flRX4_54 dX4_assumeOpposites_41 rfl a17 e18 ?_
        refine z_iload (pc := 44) 0 rfl dX4_assumeOpposites_44 ?_
        refine z_ineg (pc := 46) dX4_assumeOpposites_46 ?_
        obtain ⟨a20, q19, e21, h⟩ := iC h
        refine y_V (pc := 47) (M2 := mX6_put) (As := [.int x16, .int (-q10.1)]) (okX6_put e21) mvX6_put mlRX4_88 dX4_assumeOpposites_47 ⟨by decide, by decide⟩ rfl rfl rfl zrest0 a20 ?_
        refine z_aload_n (pc := 50) 1 rfl dX4_assumeOpposites_50 rfl ?_
        refine z_dup (pc := 51) dX4_assumeOpposites_51 (fun _ => rfl) ?_
        obtain ⟨a23, x22, e24, h⟩ := iI h
        refine y_getI (pc := 52) flRX4_54 dX4_assumeOpposites_52 rfl a23 e24 ?_
        refine z_iconst (pc := 55) (v := 1) dX4_assumeOpposites_55 (by decide) ?_
        refine z_iadd (pc := 56) dX4_assumeOpposites_56 ?_
        obtain ⟨a26, s25, e27, h⟩ := jI h
        refine y_putI (pc := 57) flRX4_54 dX4_assumeOpposites_57 rfl (Or.inl rfl) a26 e27 ?_
        exact z_sub [1, 2, 3, 4, 5] rfl (bX4_assumeOpposites_60 (fun h => ih h) h)
def fX4_assumeOpposites (l0 : Nat) (l1 : Int32) (l2 : Int32) (s : zS) : Option zS :=
  bnd (qR s 4 l0 0) fun x1 =>
  bnd (cl s 1 x1 (fX1_size x1 l1 s)) fun q4 =>
  fX4_assumeOpposites_12  zfu l0 l1 l2 q4.1 0 q4.2
set_option maxRecDepth 100000 in
set_option maxHeartbeats 4000000 in
theorem okX4_assumeOpposites {E : zE} {l0 : Nat} {l1 : Int32} {l2 : Int32} {s : zS} {t : zS} (h : fX4_assumeOpposites l0 l1 l2 s = some t) : Cv E mX4_assumeOpposites [.ref l0, .int l1, .int l2] s t := by
  refine Ct.of (ls := [(0, .ref l0), (1, .int l1), (2, .int l2)]) (by decide) rfl (Nat.le_of_ble_eq_true rfl) ?_
  show Z E mX4_assumeOpposites 0 [(0, .ref l0), (1, .int l1), (2, .int l2)] [] s (0, 0) (zRv E mX4_assumeOpposites t)
  unfold fX4_assumeOpposites at h
  refine z_aload_n (pc := 0) 0 rfl dX4_assumeOpposites_0 rfl ?_
  obtain ⟨a2, x1, e3, h⟩ := iR h
  refine y_getR (pc := 1) flRX4_69 dX4_assumeOpposites_1 rfl a2 e3 ?_
  refine z_iload_n (pc := 4) 1 rfl dX4_assumeOpposites_4 rfl ?_
  obtain ⟨a5, q4, e6, h⟩ := iC h
  refine y_Vi (pc := 5) (M2 := mX1_size) (As := [.int l1]) (okX1_size e6) mvX1_size mlRX4_92 dX4_assumeOpposites_5 ⟨by decide, by decide⟩ rfl rfl rfl zrest0 a5 ?_
  refine z_istore_n (pc := 8) (ls' := [(3, .int q4.1), (0, .ref l0), (1, .int l1), (2, .int l2)]) dX4_assumeOpposites_8 rfl (by decide) (fun _ => rfl) ?_
  refine z_iconst (pc := 9) (v := 0) dX4_assumeOpposites_9 (by decide) ?_
  refine z_istore (pc := 10) (ls' := [(4, .int 0), (3, .int q4.1), (0, .ref l0), (1, .int l1), (2, .int l2)]) dX4_assumeOpposites_10 (by decide) (fun _ => rfl) ?_
  exact z_sub [2, 3, 4, 1, 0] rfl (bX4_assumeOpposites_12  _ h)
def fX4_wantOpposites_11  (n : Nat) : Nat → Int32 → Int32 → Int32 → zS → Option zS := match n with
  | 0 => fun _ _ _ _ _ => none
  | n + 1 => fun l0 l1 l2 l3 s =>
    if l2 ≤ l3 then
      some s
    else
      bnd (qR s 4 l0 10) fun x7 =>
      bnd (qR s 4 l0 0) fun x10 =>
      bnd (cl s 1 x10 (fX1_literal x10 l1 l3 s)) fun q13 =>
      bnd (fX9_codeOf (-q13.1) q13.2) fun q16 =>
      bnd (cl q16.2 6 x7 (fX6_put x7 q16.1 1 q16.2)) fun q19 =>
      (fX4_wantOpposites_11  n) l0 l1 l2 (l3 + 1) q19
set_option maxRecDepth 100000 in
set_option maxHeartbeats 4000000 in
theorem bX4_wantOpposites_11 {E : zE}  : ∀ (n : Nat) {l0 : Nat} {l1 : Int32} {l2 : Int32} {l3 : Int32} {s : zS} {q : zS}, fX4_wantOpposites_11  n l0 l1 l2 l3 s = some q → Z E mX4_wantOpposites 11 [(0, .ref l0), (1, .int l1), (2, .int l2), (3, .int l3)] [] s (0, 0) (zRv E mX4_wantOpposites q) := by
  intro n
  induction n with
  | zero => intro l0 l1 l2 l3 s q h; cases h
  | succ n ih =>
    intro l0 l1 l2 l3 s q h
    unfold fX4_wantOpposites_11 at h
    refine z_iload_n (pc := 11) 3 rfl dX4_wantOpposites_11 rfl ?_
    refine z_iload_n (pc := 12) 2 rfl dX4_wantOpposites_12 rfl ?_
    refine z_icmp_ge (pc := 13) (tgt := 43) dX4_wantOpposites_13 (by decide) (fun hc => ?_) (fun hc => ?_)
    · replace h := ifp hc h
      exact y_ret (pc := 43) dX4_wantOpposites_43 rfl h
    · replace h := ifn hc h
      refine z_aload_n (pc := 16) 0 rfl dX4_wantOpposites_16 rfl ?_
      obtain ⟨a8, x7, e9, h⟩ := iR h
      refine y_getR (pc := 17) flRX4_44 dX4_wantOpposites_17 rfl a8 e9 ?_
      refine z_aload_n (pc := 20) 0 rfl dX4_wantOpposites_20 rfl ?_
      obtain ⟨a11, x10, e12, h⟩ := iR h
      refine y_getR (pc := 21) flRX4_69 dX4_wantOpposites_21 rfl a11 e12 ?_
      refine z_iload_n (pc := 24) 1 rfl dX4_wantOpposites_24 rfl ?_
      refine z_iload_n (pc := 25) 3 rfl dX4_wantOpposites_25 rfl ?_
      obtain ⟨a14, q13, e15, h⟩ := iC h
      refine y_Vi (pc := 26) (M2 := mX1_literal) (As := [.int l1, .int l3]) (okX1_literal e15) mvX1_literal mlRX4_105 dX4_wantOpposites_26 ⟨by decide, by decide⟩ rfl rfl rfl (fun _ => Nat.le_of_ble_eq_true rfl) a14 ?_
      refine z_ineg (pc := 29) dX4_wantOpposites_29 ?_
      obtain ⟨q16, e18, h⟩ := bnd_i h
      refine y_SNi (pc := 30) (M2 := mX9_codeOf) (As := [.int (-q13.1)]) (okX9_codeOf e18) mqX9_codeOf msX9_codeOf neRX4_129 dX4_wantOpposites_30 ⟨by decide, by decide⟩ rfl rfl rfl (fun _ => Nat.le_of_ble_eq_true rfl) ?_
      refine z_iconst (pc := 33) (v := 1) dX4_wantOpposites_33 (by decide) ?_
      obtain ⟨a20, q19, e21, h⟩ := iC h
      refine y_V (pc := 34) (M2 := mX6_put) (As := [.int q16.1, .int 1]) (okX6_put e21) mvX6_put mlRX4_88 dX4_wantOpposites_34 ⟨by decide, by decide⟩ rfl rfl rfl zrest0 a20 ?_
      refine z_iinc (pc := 37) (v := (l3 + 1)) (ls' := [(3, .int (l3 + 1)), (0, .ref l0), (1, .int l1), (2, .int l2)]) 3 rfl rfl dX4_wantOpposites_37 (by decide) (fun _ => rfl) ?_
      refine z_goto (pc := 40) (tgt := 11) dX4_wantOpposites_40 (by decide) ?_
      exact z_sub [1, 2, 3, 0] rfl (ih h)
def fX4_wantOpposites (l0 : Nat) (l1 : Int32) (s : zS) : Option zS :=
  bnd (qR s 4 l0 0) fun x1 =>
  bnd (cl s 1 x1 (fX1_size x1 l1 s)) fun q4 =>
  fX4_wantOpposites_11  zfu l0 l1 q4.1 0 q4.2
set_option maxRecDepth 100000 in
set_option maxHeartbeats 4000000 in
theorem okX4_wantOpposites {E : zE} {l0 : Nat} {l1 : Int32} {s : zS} {t : zS} (h : fX4_wantOpposites l0 l1 s = some t) : Cv E mX4_wantOpposites [.ref l0, .int l1] s t := by
  refine Ct.of (ls := [(0, .ref l0), (1, .int l1)]) (by decide) rfl (Nat.le_of_ble_eq_true rfl) ?_
  show Z E mX4_wantOpposites 0 [(0, .ref l0), (1, .int l1)] [] s (0, 0) (zRv E mX4_wantOpposites t)
  unfold fX4_wantOpposites at h
  refine z_aload_n (pc := 0) 0 rfl dX4_wantOpposites_0 rfl ?_
  obtain ⟨a2, x1, e3, h⟩ := iR h
  refine y_getR (pc := 1) flRX4_69 dX4_wantOpposites_1 rfl a2 e3 ?_
  refine z_iload_n (pc := 4) 1 rfl dX4_wantOpposites_4 rfl ?_
  obtain ⟨a5, q4, e6, h⟩ := iC h
  refine y_Vi (pc := 5) (M2 := mX1_size) (As := [.int l1]) (okX1_size e6) mvX1_size mlRX4_92 dX4_wantOpposites_5 ⟨by decide, by decide⟩ rfl rfl rfl zrest0 a5 ?_
  refine z_istore_n (pc := 8) (ls' := [(2, .int q4.1), (0, .ref l0), (1, .int l1)]) dX4_wantOpposites_8 rfl (by decide) (fun _ => rfl) ?_
  refine z_iconst (pc := 9) (v := 0) dX4_wantOpposites_9 (by decide) ?_
  refine z_istore_n (pc := 10) (ls' := [(3, .int 0), (2, .int q4.1), (0, .ref l0), (1, .int l1)]) dX4_wantOpposites_10 rfl (by decide) (fun _ => rfl) ?_
  exact z_sub [2, 3, 1, 0] rfl (bX4_wantOpposites_11  _ h)
def fX4_gatherUsed_104  (n : Nat) : Nat → Int32 → Int32 → zS → Option zS := match n with
  | 0 => fun _ _ _ _ => none
  | n + 1 => fun l0 l1 l2 s =>
    bnd (qI s 4 l0 14) fun x25 =>
    if x25 ≤ l2 then
      bnd (qI s 4 l0 14) fun x28 =>
      bnd (wI s 4 l0 15 (x28 - l1)) fun s31 =>
      bnd (qR s31 4 l0 11) fun x34 =>
      bnd (qI s31 4 l0 15) fun x37 =>
      bnd (qI s31 4 l0 16) fun x40 =>
      bnd (cl s31 6 x34 (fX6_put x34 x37 x40 s31)) fun q43 =>
      bnd (qI q43 4 l0 15) fun x46 =>
      bnd (wI q43 4 l0 15 (x46 + 1)) fun s49 =>
      some s49
    else
      bnd (qR s 4 l0 11) fun x52 =>
      bnd (qR s 4 l0 11) fun x55 =>
      bnd (cl s 6 x55 (fX6_at x55 l2 s)) fun q58 =>
      bnd (cl q58.2 6 x52 (fX6_put x52 (l2 - l1) q58.1 q58.2)) fun q61 =>
      (fX4_gatherUsed_104  n) l0 l1 (l2 + 1) q61
set_option maxRecDepth 100000 in
set_option maxHeartbeats 4000000 in
theorem bX4_gatherUsed_104 {E : zE}  : ∀ (n : Nat) {l0 : Nat} {l1 : Int32} {l2 : Int32} {s : zS} {q : zS}, fX4_gatherUsed_104  n l0 l1 l2 s = some q → Z E mX4_gatherUsed 104 [(0, .ref l0), (1, .int l1), (2, .int l2)] [] s (0, 0) (zRv E mX4_gatherUsed q) := by
  intro n
  induction n with
  | zero => intro l0 l1 l2 s q h; cases h
  | succ n ih =>
    intro l0 l1 l2 s q h
    unfold fX4_gatherUsed_104 at h
    refine z_iload_n (pc := 104) 2 rfl dX4_gatherUsed_104 rfl ?_
    refine z_aload_n (pc := 105) 0 rfl dX4_gatherUsed_105 rfl ?_
    obtain ⟨a26, x25, e27, h⟩ := iI h
    refine y_getI (pc := 106) flRX4_57 dX4_gatherUsed_106 rfl a26 e27 ?_
    refine z_icmp_ge (pc := 109) (tgt := 136) dX4_gatherUsed_109 (by decide) (fun hc => ?_) (fun hc => ?_)
    · replace h := ifp hc h
      refine z_aload_n (pc := 136) 0 rfl dX4_gatherUsed_136 rfl ?_
      refine z_aload_n (pc := 137) 0 rfl dX4_gatherUsed_137 rfl ?_
      obtain ⟨a29, x28, e30, h⟩ := iI h
      refine y_getI (pc := 138) flRX4_57 dX4_gatherUsed_138 rfl a29 e30 ?_
      refine z_iload_n (pc := 141) 1 rfl dX4_gatherUsed_141 rfl ?_
      refine z_isub (pc := 142) dX4_gatherUsed_142 ?_
      obtain ⟨a32, s31, e33, h⟩ := jI h
      refine y_putI (pc := 143) flRX4_60 dX4_gatherUsed_143 rfl (Or.inl rfl) a32 e33 ?_
      refine z_aload_n (pc := 146) 0 rfl dX4_gatherUsed_146 rfl ?_
      obtain ⟨a35, x34, e36, h⟩ := iR h
      refine y_getR (pc := 147) flRX4_47 dX4_gatherUsed_147 rfl a35 e36 ?_
      refine z_aload_n (pc := 150) 0 rfl dX4_gatherUsed_150 rfl ?_
      obtain ⟨a38, x37, e39, h⟩ := iI h
      refine y_getI (pc := 151) flRX4_60 dX4_gatherUsed_151 rfl a38 e39 ?_
      refine z_aload_n (pc := 154) 0 rfl dX4_gatherUsed_154 rfl ?_
      obtain ⟨a41, x40, e42, h⟩ := iI h
      refine y_getI (pc := 155) flRX4_63 dX4_gatherUsed_155 rfl a41 e42 ?_
      obtain ⟨a44, q43, e45, h⟩ := iC h
      refine y_V (pc := 158) (M2 := mX6_put) (As := [.int x37, .int x40]) (okX6_put e45) mvX6_put mlRX4_88 dX4_gatherUsed_158 ⟨by decide, by decide⟩ rfl rfl rfl zrest0 a44 ?_
      refine z_aload_n (pc := 161) 0 rfl dX4_gatherUsed_161 rfl ?_
      refine z_dup (pc := 162) dX4_gatherUsed_162 (fun _ => rfl) ?_
      obtain ⟨a47, x46, e48, h⟩ := iI h
      refine y_getI (pc := 163) flRX4_60 dX4_gatherUsed_163 rfl a47 e48 ?_
      refine z_iconst (pc := 166) (v := 1) dX4_gatherUsed_166 (by decide) ?_
      refine z_iadd (pc := 167) dX4_gatherUsed_167 ?_
      obtain ⟨a50, s49, e51, h⟩ := jI h
      refine y_putI (pc := 168) flRX4_60 dX4_gatherUsed_168 rfl (Or.inl rfl) a50 e51 ?_
      exact y_ret (pc := 171) dX4_gatherUsed_171 rfl h
    · replace h := ifn hc h
      refine z_aload_n (pc := 112) 0 rfl dX4_gatherUsed_112 rfl ?_
      obtain ⟨a53, x52, e54, h⟩ := iR h
      refine y_getR (pc := 113) flRX4_47 dX4_gatherUsed_113 rfl a53 e54 ?_
      refine z_iload_n (pc := 116) 2 rfl dX4_gatherUsed_116 rfl ?_
      refine z_iload_n (pc := 117) 1 rfl dX4_gatherUsed_117 rfl ?_
      refine z_isub (pc := 118) dX4_gatherUsed_118 ?_
      refine z_aload_n (pc := 119) 0 rfl dX4_gatherUsed_119 rfl ?_
      obtain ⟨a56, x55, e57, h⟩ := iR h
      refine y_getR (pc := 120) flRX4_47 dX4_gatherUsed_120 rfl a56 e57 ?_
      refine z_iload_n (pc := 123) 2 rfl dX4_gatherUsed_123 rfl ?_
      obtain ⟨a59, q58, e60, h⟩ := iC h
      refine y_Vi (pc := 124) (M2 := mX6_at) (As := [.int l2]) (okX6_at e60) mvX6_at mlRX4_96 dX4_gatherUsed_124 ⟨by decide, by decide⟩ rfl rfl rfl (fun _ => Nat.le_of_ble_eq_true rfl) a59 ?_
      obtain ⟨a62, q61, e63, h⟩ := iC h
      refine y_V (pc := 127) (M2 := mX6_put) (As := [.int (l2 - l1), .int q58.1]) (okX6_put e63) mvX6_put mlRX4_88 dX4_gatherUsed_127 ⟨by decide, by decide⟩ rfl rfl rfl zrest0 a62 ?_
      refine z_iinc (pc := 130) (v := (l2 + 1)) (ls' := [(2, .int (l2 + 1)), (0, .ref l0), (1, .int l1)]) 2 rfl rfl dX4_gatherUsed_130 (by decide) (fun _ => rfl) ?_
      refine z_goto (pc := 133) (tgt := 104) dX4_gatherUsed_133 (by decide) ?_
      exact z_sub [1, 2, 0] rfl (ih h)
def fX4_gatherUsed_96 (k41 : Nat → Int32 → Int32 → zS → Option zS) (l0 : Nat) (l1 : Int32) (l2 : Int32) (s : zS) : Option zS :=
  k41 l0 l1 (l2 + (-1)) s
set_option maxRecDepth 100000 in
set_option maxHeartbeats 4000000 in
theorem bX4_gatherUsed_96 {E : zE} {k41 : Nat → Int32 → Int32 → zS → Option zS} (hk41 : ∀ {l0 : Nat} {l1 : Int32} {l2 : Int32} {s : zS} {q : zS}, k41 l0 l1 l2 s = some q → Z E mX4_gatherUsed 41 [(0, .ref l0), (1, .int l1), (2, .int l2)] [] s (0, 0) (zRv E mX4_gatherUsed q)) {l0 : Nat} {l1 : Int32} {l2 : Int32} {s : zS} {q : zS} (h : fX4_gatherUsed_96 k41 l0 l1 l2 s = some q) : Z E mX4_gatherUsed 96 [(0, .ref l0), (1, .int l1), (2, .int l2)] [] s (0, 0) (zRv E mX4_gatherUsed q) := by
  unfold fX4_gatherUsed_96 at h
  refine z_iinc (pc := 96) (v := (l2 + (-1))) (ls' := [(2, .int (l2 + (-1))), (0, .ref l0), (1, .int l1)]) 2 rfl (congrArg (fun z : Int32 => l2 + z) (show Int32.ofInt (-1) = -1 by decide)) dX4_gatherUsed_96 (by decide) (fun _ => rfl) ?_
  refine z_goto (pc := 99) (tgt := 41) dX4_gatherUsed_99 (by decide) ?_
  exact z_sub [1, 2, 0] rfl (hk41 h)
def fX4_gatherUsed_41  (n : Nat) : Nat → Int32 → Int32 → zS → Option zS := match n with
  | 0 => fun _ _ _ _ => none
  | n + 1 => fun l0 l1 l2 s =>
    if l2 < 0 then
      fX4_gatherUsed_104  zfu l0 l1 l1 s
    else
      bnd (qR s 4 l0 9) fun x25 =>
      bnd (cl s 6 x25 (fX6_at x25 l2 s)) fun q28 =>
      if q28.1 = 0 then
        fX4_gatherUsed_96 ((fX4_gatherUsed_41  n)) l0 l1 l2 q28.2
      else
        bnd (qR q28.2 4 l0 10) fun x31 =>
        bnd (qR q28.2 4 l0 8) fun x34 =>
        bnd (cl q28.2 6 x34 (fX6_at x34 l2 q28.2)) fun q37 =>
        bnd (fX9_codeOf q37.1 q37.2) fun q40 =>
        bnd (cl q40.2 6 x31 (fX6_at x31 q40.1 q40.2)) fun q43 =>
        if q43.1 = 0 then
          fX4_gatherUsed_96 ((fX4_gatherUsed_41  n)) l0 l1 l2 q43.2
        else
          bnd (cl q43.2 4 l0 (fX4_wantOpposites l0 q28.1 q43.2)) fun q46 =>
          bnd (qR q46 4 l0 11) fun x49 =>
          bnd (cl q46 6 x49 (fX6_put x49 (l1 + (-1)) q28.1 q46)) fun q52 =>
          fX4_gatherUsed_96 ((fX4_gatherUsed_41  n)) l0 (l1 + (-1)) l2 q52
set_option maxRecDepth 100000 in
set_option maxHeartbeats 4000000 in
theorem bX4_gatherUsed_41 {E : zE}  : ∀ (n : Nat) {l0 : Nat} {l1 : Int32} {l2 : Int32} {s : zS} {q : zS}, fX4_gatherUsed_41  n l0 l1 l2 s = some q → Z E mX4_gatherUsed 41 [(0, .ref l0), (1, .int l1), (2, .int l2)] [] s (0, 0) (zRv E mX4_gatherUsed q) := by
  intro n
  induction n with
  | zero => intro l0 l1 l2 s q h; cases h
  | succ n ih =>
    intro l0 l1 l2 s q h
    unfold fX4_gatherUsed_41 at h
    refine z_iload_n (pc := 41) 2 rfl dX4_gatherUsed_41 rfl ?_
    refine z_if_lt (pc := 42) (tgt := 102) dX4_gatherUsed_42 (by decide) (fun hc => ?_) (fun hc => ?_)
    · replace h := ifp hc h
      refine z_iload_n (pc := 102) 1 rfl dX4_gatherUsed_102 rfl ?_
      refine z_istore_n (pc := 103) (ls' := [(2, .int l1), (0, .ref l0), (1, .int l1)]) dX4_gatherUsed_103 rfl (by decide) (fun _ => rfl) ?_
      exact z_sub [1, 2, 0] rfl (bX4_gatherUsed_104  _ h)
    · replace h := ifn hc h
      refine z_aload_n (pc := 45) 0 rfl dX4_gatherUsed_45 rfl ?_
      obtain ⟨a26, x25, e27, h⟩ := iR h
      refine y_getR (pc := 46) flRX4_41 dX4_gatherUsed_46 rfl a26 e27 ?_
      refine z_iload_n (pc := 49) 2 rfl dX4_gatherUsed_49 rfl ?_
      obtain ⟨a29, q28, e30, h⟩ := iC h
      refine y_Vi (pc := 50) (M2 := mX6_at) (As := [.int l2]) (okX6_at e30) mvX6_at mlRX4_96 dX4_gatherUsed_50 ⟨by decide, by decide⟩ rfl rfl rfl zrest0 a29 ?_
      refine z_istore_n (pc := 53) (ls' := [(3, .int q28.1), (0, .ref l0), (1, .int l1), (2, .int l2)]) dX4_gatherUsed_53 rfl (by decide) (fun _ => rfl) ?_
      refine z_iload_n (pc := 54) 0 rfl dX4_gatherUsed_54 rfl ?_
      refine z_if_eq (pc := 55) (tgt := 96) dX4_gatherUsed_55 (by decide) (fun hc => ?_) (fun hc => ?_)
      · replace h := ifp hc h
        exact z_sub [1, 2, 3] rfl (bX4_gatherUsed_96 (fun h => ih h) h)
      · replace h := ifn hc h
        refine z_aload_n (pc := 58) 1 rfl dX4_gatherUsed_58 rfl ?_
        obtain ⟨a32, x31, e33, h⟩ := iR h
        refine y_getR (pc := 59) flRX4_44 dX4_gatherUsed_59 rfl a32 e33 ?_
        refine z_aload_n (pc := 62) 1 rfl dX4_gatherUsed_62 rfl ?_
        obtain ⟨a35, x34, e36, h⟩ := iR h
        refine y_getR (pc := 63) flRX4_38 dX4_gatherUsed_63 rfl a35 e36 ?_
        refine z_iload_n (pc := 66) 3 rfl dX4_gatherUsed_66 rfl ?_
        obtain ⟨a38, q37, e39, h⟩ := iC h
        refine y_Vi (pc := 67) (M2 := mX6_at) (As := [.int l2]) (okX6_at e39) mvX6_at mlRX4_96 dX4_gatherUsed_67 ⟨by decide, by decide⟩ rfl rfl rfl (fun _ => Nat.le_of_ble_eq_true rfl) a38 ?_
        obtain ⟨q40, e42, h⟩ := bnd_i h
        refine y_SNi (pc := 70) (M2 := mX9_codeOf) (As := [.int q37.1]) (okX9_codeOf e42) mqX9_codeOf msX9_codeOf neRX4_129 dX4_gatherUsed_70 ⟨by decide, by decide⟩ rfl rfl rfl (fun _ => Nat.le_of_ble_eq_true rfl) ?_
        obtain ⟨a44, q43, e45, h⟩ := iC h
        refine y_Vi (pc := 73) (M2 := mX6_at) (As := [.int q40.1]) (okX6_at e45) mvX6_at mlRX4_96 dX4_gatherUsed_73 ⟨by decide, by decide⟩ rfl rfl rfl zrest0 a44 ?_
        refine z_if_eq (pc := 76) (tgt := 96) dX4_gatherUsed_76 (by decide) (fun hc => ?_) (fun hc => ?_)
        · replace h := ifp hc h
          exact z_sub [1, 2, 3] rfl (bX4_gatherUsed_96 (fun h => ih h) h)
        · replace h := ifn hc h
          refine z_aload_n (pc := 79) 1 rfl dX4_gatherUsed_79 rfl ?_
          refine z_iload_n (pc := 80) 0 rfl dX4_gatherUsed_80 rfl ?_
          obtain ⟨a47, q46, e48, h⟩ := iC h
          refine y_V (pc := 81) (M2 := mX4_wantOpposites) (As := [.int q28.1]) (okX4_wantOpposites e48) mvX4_wantOpposites mlRX4_126 dX4_gatherUsed_81 ⟨by decide, by decide⟩ rfl rfl rfl zrest0 a47 ?_
          refine z_iinc (pc := 84) (v := (l1 + (-1))) (ls' := [(1, .int (l1 + (-1))), (3, .int q28.1), (0, .ref l0), (2, .int l2)]) 2 rfl (congrArg (fun z : Int32 => l1 + z) (show Int32.ofInt (-1) = -1 by decide)) dX4_gatherUsed_84 (by decide) (fun _ => rfl) ?_
          refine z_aload_n (pc := 87) 2 rfl dX4_gatherUsed_87 rfl ?_
          obtain ⟨a50, x49, e51, h⟩ := iR h
          refine y_getR (pc := 88) flRX4_47 dX4_gatherUsed_88 rfl a50 e51 ?_
          refine z_iload_n (pc := 91) 0 rfl dX4_gatherUsed_91 rfl ?_
          refine z_iload_n (pc := 92) 1 rfl dX4_gatherUsed_92 rfl ?_
          obtain ⟨a53, q52, e54, h⟩ := iC h
          refine y_V (pc := 93) (M2 := mX6_put) (As := [.int (l1 + (-1)), .int q28.1]) (okX6_put e54) mvX6_put mlRX4_88 dX4_gatherUsed_93 ⟨by decide, by decide⟩ rfl rfl rfl zrest0 a53 ?_
          exact z_sub [2, 0, 3] rfl (bX4_gatherUsed_96 (fun h => ih h) h)
def fX4_gatherUsed (l0 : Nat) (s : zS) : Option zS :=
  bnd (wI s 4 l0 15 0) fun s1 =>
  bnd (qI s1 4 l0 16) fun x4 =>
  if x4 = 0 then
    some s1
  else
    bnd (qR s1 4 l0 10) fun x7 =>
    bnd (cl s1 6 x7 (fX6_fill x7 0 s1)) fun q10 =>
    bnd (qI q10 4 l0 16) fun x13 =>
    bnd (cl q10 4 l0 (fX4_wantOpposites l0 x13 q10)) fun q16 =>
    bnd (qI q16 4 l0 14) fun x19 =>
    bnd (qI q16 4 l0 14) fun x22 =>
    fX4_gatherUsed_41  zfu l0 x19 (x22 - 1) q16
set_option maxRecDepth 100000 in
set_option maxHeartbeats 4000000 in
theorem okX4_gatherUsed {E : zE} {l0 : Nat} {s : zS} {t : zS} (h : fX4_gatherUsed l0 s = some t) : Cv E mX4_gatherUsed [.ref l0] s t := by
  refine Ct.of (ls := [(0, .ref l0)]) (by decide) rfl (Nat.le_of_ble_eq_true rfl) ?_
  show Z E mX4_gatherUsed 0 [(0, .ref l0)] [] s (0, 0) (zRv E mX4_gatherUsed t)
  unfold fX4_gatherUsed at h
  refine z_aload_n (pc := 0) 0 rfl dX4_gatherUsed_0 rfl ?_
  refine z_iconst (pc := 1) (v := 0) dX4_gatherUsed_1 (by decide) ?_
  obtain ⟨a2, s1, e3, h⟩ := jI h
  refine y_putI (pc := 2) flRX4_60 dX4_gatherUsed_2 rfl (Or.inl rfl) a2 e3 ?_
  refine z_aload_n (pc := 5) 0 rfl dX4_gatherUsed_5 rfl ?_
  obtain ⟨a5, x4, e6, h⟩ := iI h
  refine y_getI (pc := 6) flRX4_63 dX4_gatherUsed_6 rfl a5 e6 ?_
  refine z_if_ne (pc := 9) (tgt := 13) dX4_gatherUsed_9 (by decide) (fun hc => ?_) (fun hc => ?_)
  · replace h := ifn hc h
    refine z_aload_n (pc := 13) 0 rfl dX4_gatherUsed_13 rfl ?_
    obtain ⟨a8, x7, e9, h⟩ := iR h
    refine y_getR (pc := 14) flRX4_44 dX4_gatherUsed_14 rfl a8 e9 ?_
    refine z_iconst (pc := 17) (v := 0) dX4_gatherUsed_17 (by decide) ?_
    obtain ⟨a11, q10, e12, h⟩ := iC h
    refine y_V (pc := 18) (M2 := mX6_fill) (As := [.int 0]) (okX6_fill e12) mvX6_fill mlRX4_76 dX4_gatherUsed_18 ⟨by decide, by decide⟩ rfl rfl rfl zrest0 a11 ?_
    refine z_aload_n (pc := 21) 0 rfl dX4_gatherUsed_21 rfl ?_
    refine z_aload_n (pc := 22) 0 rfl dX4_gatherUsed_22 rfl ?_
    obtain ⟨a14, x13, e15, h⟩ := iI h
    refine y_getI (pc := 23) flRX4_63 dX4_gatherUsed_23 rfl a14 e15 ?_
    obtain ⟨a17, q16, e18, h⟩ := iC h
    refine y_V (pc := 26) (M2 := mX4_wantOpposites) (As := [.int x13]) (okX4_wantOpposites e18) mvX4_wantOpposites mlRX4_126 dX4_gatherUsed_26 ⟨by decide, by decide⟩ rfl rfl rfl zrest0 a17 ?_
    refine z_aload_n (pc := 29) 0 rfl dX4_gatherUsed_29 rfl ?_
    obtain ⟨a20, x19, e21, h⟩ := iI h
    refine y_getI (pc := 30) flRX4_57 dX4_gatherUsed_30 rfl a20 e21 ?_
    refine z_istore_n (pc := 33) (ls' := [(1, .int x19), (0, .ref l0)]) dX4_gatherUsed_33 rfl (by decide) (fun _ => rfl) ?_
    refine z_aload_n (pc := 34) 1 rfl dX4_gatherUsed_34 rfl ?_
    obtain ⟨a23, x22, e24, h⟩ := iI h
    refine y_getI (pc := 35) flRX4_57 dX4_gatherUsed_35 rfl a23 e24 ?_
    refine z_iconst (pc := 38) (v := 1) dX4_gatherUsed_38 (by decide) ?_
    refine z_isub (pc := 39) dX4_gatherUsed_39 ?_
    refine z_istore_n (pc := 40) (ls' := [(2, .int (x22 - 1)), (1, .int x19), (0, .ref l0)]) dX4_gatherUsed_40 rfl (by decide) (fun _ => rfl) ?_
    exact z_sub [2, 1, 0] rfl (bX4_gatherUsed_41  _ h)
  · replace h := ifp hc h
    exact y_ret (pc := 12) dX4_gatherUsed_12 rfl h
def fX4_isActive (l0 : Nat) (l1 : Int32) (s : zS) : Option (Int32 × zS) :=
  bnd (qR s 4 l0 1) fun x1 =>
  bnd (cl s 6 x1 (fX6_at x1 l1 s)) fun q4 =>
  if q4.1 = 0 then
    gd ((0 : Int32) = 0 ∨ 0 = 1) (some (0, q4.2))
  else
    gd ((1 : Int32) = 0 ∨ 1 = 1) (some (1, q4.2))
set_option maxRecDepth 100000 in
set_option maxHeartbeats 4000000 in
theorem okX4_isActive {E : zE} {l0 : Nat} {l1 : Int32} {s : zS} {q : Int32 × zS} (h : fX4_isActive l0 l1 s = some q) : Ci E mX4_isActive [.ref l0, .int l1] s q.1 q.2 := by
  refine Ct.of (ls := [(0, .ref l0), (1, .int l1)]) (by decide) rfl (Nat.le_of_ble_eq_true rfl) ?_
  show Z E mX4_isActive 0 [(0, .ref l0), (1, .int l1)] [] s (0, 0) (zRi E mX4_isActive q.1 q.2)
  unfold fX4_isActive at h
  refine z_aload_n (pc := 0) 0 rfl dX4_isActive_0 rfl ?_
  obtain ⟨a2, x1, e3, h⟩ := iR h
  refine y_getR (pc := 1) flRX4_16 dX4_isActive_1 rfl a2 e3 ?_
  refine z_iload_n (pc := 4) 1 rfl dX4_isActive_4 rfl ?_
  obtain ⟨a5, q4, e6, h⟩ := iC h
  refine y_Vi (pc := 5) (M2 := mX6_at) (As := [.int l1]) (okX6_at e6) mvX6_at mlRX4_96 dX4_isActive_5 ⟨by decide, by decide⟩ rfl rfl rfl zrest0 a5 ?_
  refine z_if_eq (pc := 8) (tgt := 15) dX4_isActive_8 (by decide) (fun hc => ?_) (fun hc => ?_)
  · replace h := ifp hc h
    refine z_iconst (pc := 15) (v := 0) dX4_isActive_15 (by decide) ?_
    exact y_zret (pc := 16) dX4_isActive_16 rfl h
  · replace h := ifn hc h
    refine z_iconst (pc := 11) (v := 1) dX4_isActive_11 (by decide) ?_
    refine z_goto (pc := 12) (tgt := 16) dX4_isActive_12 (by decide) ?_
    exact y_zret (pc := 16) dX4_isActive_16 rfl h
def fX4_makeReady_31  (l0 : Nat) (t0 : Int32) (s : zS) : Option zS :=
  bnd (qR s 4 l0 5) fun x13 =>
  bnd (qR s 4 l0 5) fun x16 =>
  bnd (cl s 6 x16 (fX6_at x16 (t0 / 32) s)) fun q19 =>
  bnd (cl q19.2 6 x13 (fX6_put x13 (t0 / 32) (q19.1 ||| (1 <<< ((t0 - t0 / 32 * 32) &&& 31))) q19.2)) fun q22 =>
  some q22
set_option maxRecDepth 100000 in
set_option maxHeartbeats 4000000 in
theorem bX4_makeReady_31 {E : zE}   {l0 : Nat} {t0 : Int32} {s : zS} {q : zS} (h : fX4_makeReady_31  l0 t0 s = some q) : Z E mX4_makeReady 31 [(0, .ref l0)] [.int t0] s (0, 0) (zRv E mX4_makeReady q) := by
  unfold fX4_makeReady_31 at h
  refine z_istore_n (pc := 31) (ls' := [(2, .int t0), (0, .ref l0)]) dX4_makeReady_31 rfl (by decide) (fun _ => rfl) ?_
  refine z_iload_n (pc := 32) 0 rfl dX4_makeReady_32 rfl ?_
  refine z_bipush (pc := 33) (v := 32) dX4_makeReady_33 (by decide) ?_
  refine z_idiv (pc := 35) (by decide) dX4_makeReady_35 ?_
  refine z_istore_n (pc := 36) (ls' := [(3, .int (t0 / 32)), (2, .int t0), (0, .ref l0)]) dX4_makeReady_36 rfl (by decide) (fun _ => rfl) ?_
  refine z_aload_n (pc := 37) 2 rfl dX4_makeReady_37 rfl ?_
  obtain ⟨a14, x13, e15, h⟩ := iR h
  refine y_getR (pc := 38) flRX4_29 dX4_makeReady_38 rfl a14 e15 ?_
  refine z_iload_n (pc := 41) 0 rfl dX4_makeReady_41 rfl ?_
  refine z_aload_n (pc := 42) 2 rfl dX4_makeReady_42 rfl ?_
  obtain ⟨a17, x16, e18, h⟩ := iR h
  refine y_getR (pc := 43) flRX4_29 dX4_makeReady_43 rfl a17 e18 ?_
  refine z_iload_n (pc := 46) 0 rfl dX4_makeReady_46 rfl ?_
  obtain ⟨a20, q19, e21, h⟩ := iC h
  refine y_Vi (pc := 47) (M2 := mX6_at) (As := [.int (t0 / 32)]) (okX6_at e21) mvX6_at mlRX4_96 dX4_makeReady_47 ⟨by decide, by decide⟩ rfl rfl rfl (fun _ => Nat.le_of_ble_eq_true rfl) a20 ?_
  refine z_iconst (pc := 50) (v := 1) dX4_makeReady_50 (by decide) ?_
  refine z_iload_n (pc := 51) 1 rfl dX4_makeReady_51 rfl ?_
  refine z_bipush (pc := 52) (v := 32) dX4_makeReady_52 (by decide) ?_
  refine z_irem (pc := 54) (by decide) dX4_makeReady_54 ?_
  refine z_ishl (pc := 55) dX4_makeReady_55 ?_
  refine z_ior (pc := 56) dX4_makeReady_56 ?_
  obtain ⟨a23, q22, e24, h⟩ := iC h
  refine y_V (pc := 57) (M2 := mX6_put) (As := [.int (t0 / 32), .int (q19.1 ||| (1 <<< ((t0 - t0 / 32 * 32) &&& 31)))]) (okX6_put e24) mvX6_put mlRX4_88 dX4_makeReady_57 ⟨by decide, by decide⟩ rfl rfl rfl zrest0 a23 ?_
  exact y_ret (pc := 60) dX4_makeReady_60 rfl h
def fX4_makeReady (l0 : Nat) (l1 : Int32) (s : zS) : Option zS :=
  bnd (qR s 4 l0 1) fun x1 =>
  bnd (cl s 6 x1 (fX6_at x1 l1 s)) fun q4 =>
  if q4.1 = 0 then
    some q4.2
  else
    bnd (qR q4.2 4 l0 2) fun x7 =>
    bnd (cl q4.2 6 x7 (fX6_at x7 l1 q4.2)) fun q10 =>
    if q10.1 = 0 then
      fX4_makeReady_31  l0 (608 + l1) q10.2
    else
      fX4_makeReady_31  l0 l1 q10.2
set_option maxRecDepth 100000 in
set_option maxHeartbeats 4000000 in
theorem okX4_makeReady {E : zE} {l0 : Nat} {l1 : Int32} {s : zS} {t : zS} (h : fX4_makeReady l0 l1 s = some t) : Cv E mX4_makeReady [.ref l0, .int l1] s t := by
  refine Ct.of (ls := [(0, .ref l0), (1, .int l1)]) (by decide) rfl (Nat.le_of_ble_eq_true rfl) ?_
  show Z E mX4_makeReady 0 [(0, .ref l0), (1, .int l1)] [] s (0, 0) (zRv E mX4_makeReady t)
  unfold fX4_makeReady at h
  refine z_aload_n (pc := 0) 0 rfl dX4_makeReady_0 rfl ?_
  obtain ⟨a2, x1, e3, h⟩ := iR h
  refine y_getR (pc := 1) flRX4_16 dX4_makeReady_1 rfl a2 e3 ?_
  refine z_iload_n (pc := 4) 1 rfl dX4_makeReady_4 rfl ?_
  obtain ⟨a5, q4, e6, h⟩ := iC h
  refine y_Vi (pc := 5) (M2 := mX6_at) (As := [.int l1]) (okX6_at e6) mvX6_at mlRX4_96 dX4_makeReady_5 ⟨by decide, by decide⟩ rfl rfl rfl zrest0 a5 ?_
  refine z_if_eq (pc := 8) (tgt := 60) dX4_makeReady_8 (by decide) (fun hc => ?_) (fun hc => ?_)
  · replace h := ifp hc h
    exact y_ret (pc := 60) dX4_makeReady_60 rfl h
  · replace h := ifn hc h
    refine z_aload_n (pc := 11) 0 rfl dX4_makeReady_11 rfl ?_
    obtain ⟨a8, x7, e9, h⟩ := iR h
    refine y_getR (pc := 12) flRX4_20 dX4_makeReady_12 rfl a8 e9 ?_
    refine z_iload_n (pc := 15) 1 rfl dX4_makeReady_15 rfl ?_
    obtain ⟨a11, q10, e12, h⟩ := iC h
    refine y_Vi (pc := 16) (M2 := mX6_at) (As := [.int l1]) (okX6_at e12) mvX6_at mlRX4_96 dX4_makeReady_16 ⟨by decide, by decide⟩ rfl rfl rfl zrest0 a11 ?_
    refine z_if_eq (pc := 19) (tgt := 26) dX4_makeReady_19 (by decide) (fun hc => ?_) (fun hc => ?_)
    · replace h := ifp hc h
      refine z_sipush (pc := 26) (v := 608) dX4_makeReady_26 (by decide) ?_
      refine z_iload_n (pc := 29) 1 rfl dX4_makeReady_29 rfl ?_
      refine z_iadd (pc := 30) dX4_makeReady_30 ?_
      exact z_sub [0] rfl (bX4_makeReady_31  h)
    · replace h := ifn hc h
      refine z_iload_n (pc := 22) 1 rfl dX4_makeReady_22 rfl ?_
      refine z_goto (pc := 23) (tgt := 31) dX4_makeReady_23 (by decide) ?_
      exact z_sub [0] rfl (bX4_makeReady_31  h)
def fX4_takeBack_32  (n : Nat) : Nat → Int32 → Int32 → zS → Option zS := match n with
  | 0 => fun _ _ _ _ => none
  | n + 1 => fun l0 l2 l3 s =>
    if l2 ≤ l3 then
      some s
    else
      bnd (qR s 4 l0 0) fun x19 =>
      bnd (cl s 1 x19 (fX1_user x19 l3 s)) fun q22 =>
      bnd (qR q22.2 4 l0 3) fun x25 =>
      bnd (qR q22.2 4 l0 3) fun x28 =>
      bnd (cl q22.2 6 x28 (fX6_at x28 q22.1 q22.2)) fun q31 =>
      bnd (cl q31.2 6 x25 (fX6_put x25 q22.1 (q31.1 + 1) q31.2)) fun q34 =>
      (fX4_takeBack_32  n) l0 l2 (l3 + 1) q34
set_option maxRecDepth 100000 in
set_option maxHeartbeats 4000000 in
theorem bX4_takeBack_32 {E : zE}  : ∀ (n : Nat) {l0 : Nat} {l2 : Int32} {l3 : Int32} {s : zS} {q : zS}, fX4_takeBack_32  n l0 l2 l3 s = some q → Z E mX4_takeBack 32 [(0, .ref l0), (2, .int l2), (3, .int l3)] [] s (0, 0) (zRv E mX4_takeBack q) := by
  intro n
  induction n with
  | zero => intro l0 l2 l3 s q h; cases h
  | succ n ih =>
    intro l0 l2 l3 s q h
    unfold fX4_takeBack_32 at h
    refine z_iload_n (pc := 32) 2 rfl dX4_takeBack_32 rfl ?_
    refine z_iload_n (pc := 33) 1 rfl dX4_takeBack_33 rfl ?_
    refine z_icmp_ge (pc := 34) (tgt := 73) dX4_takeBack_34 (by decide) (fun hc => ?_) (fun hc => ?_)
    · replace h := ifp hc h
      exact y_ret (pc := 73) dX4_takeBack_73 rfl h
    · replace h := ifn hc h
      refine z_aload_n (pc := 37) 0 rfl dX4_takeBack_37 rfl ?_
      obtain ⟨a20, x19, e21, h⟩ := iR h
      refine y_getR (pc := 38) flRX4_69 dX4_takeBack_38 rfl a20 e21 ?_
      refine z_iload_n (pc := 41) 2 rfl dX4_takeBack_41 rfl ?_
      obtain ⟨a23, q22, e24, h⟩ := iC h
      refine y_Vi (pc := 42) (M2 := mX1_user) (As := [.int l3]) (okX1_user e24) mvX1_user mlRX4_143 dX4_takeBack_42 ⟨by decide, by decide⟩ rfl rfl rfl zrest0 a23 ?_
      refine z_istore (pc := 45) (ls' := [(4, .int q22.1), (0, .ref l0), (2, .int l2), (3, .int l3)]) dX4_takeBack_45 (by decide) (fun _ => rfl) ?_
      refine z_aload_n (pc := 47) 1 rfl dX4_takeBack_47 rfl ?_
      obtain ⟨a26, x25, e27, h⟩ := iR h
      refine y_getR (pc := 48) flRX4_23 dX4_takeBack_48 rfl a26 e27 ?_
      refine z_iload (pc := 51) 0 rfl dX4_takeBack_51 ?_
      refine z_aload_n (pc := 53) 1 rfl dX4_takeBack_53 rfl ?_
      obtain ⟨a29, x28, e30, h⟩ := iR h
      refine y_getR (pc := 54) flRX4_23 dX4_takeBack_54 rfl a29 e30 ?_
      refine z_iload (pc := 57) 0 rfl dX4_takeBack_57 ?_
      obtain ⟨a32, q31, e33, h⟩ := iC h
      refine y_Vi (pc := 59) (M2 := mX6_at) (As := [.int q22.1]) (okX6_at e33) mvX6_at mlRX4_96 dX4_takeBack_59 ⟨by decide, by decide⟩ rfl rfl rfl (fun _ => Nat.le_of_ble_eq_true rfl) a32 ?_
      refine z_iconst (pc := 62) (v := 1) dX4_takeBack_62 (by decide) ?_
      refine z_iadd (pc := 63) dX4_takeBack_63 ?_
      obtain ⟨a35, q34, e36, h⟩ := iC h
      refine y_V (pc := 64) (M2 := mX6_put) (As := [.int q22.1, .int (q31.1 + 1)]) (okX6_put e36) mvX6_put mlRX4_88 dX4_takeBack_64 ⟨by decide, by decide⟩ rfl rfl rfl zrest0 a35 ?_
      refine z_iinc (pc := 67) (v := (l3 + 1)) (ls' := [(3, .int (l3 + 1)), (4, .int q22.1), (0, .ref l0), (2, .int l2)]) 3 rfl rfl dX4_takeBack_67 (by decide) (fun _ => rfl) ?_
      refine z_goto (pc := 70) (tgt := 32) dX4_takeBack_70 (by decide) ?_
      exact z_sub [2, 3, 0] rfl (ih h)
def fX4_takeBack (l0 : Nat) (l1 : Int32) (s : zS) : Option zS :=
  bnd (qR s 4 l0 6) fun x1 =>
  bnd (cl s 6 x1 (fX6_put x1 (zab l1) 0 s)) fun q4 =>
  bnd (qR q4 4 l0 0) fun x7 =>
  bnd (cl q4 1 x7 (fX1_endOfUses x7 (-l1) q4)) fun q10 =>
  bnd (qR q10.2 4 l0 0) fun x13 =>
  bnd (cl q10.2 1 x13 (fX1_firstUse x13 (-l1) q10.2)) fun q16 =>
  fX4_takeBack_32  zfu l0 q10.1 q16.1 q16.2
set_option maxRecDepth 100000 in
set_option maxHeartbeats 4000000 in
theorem okX4_takeBack {E : zE} {l0 : Nat} {l1 : Int32} {s : zS} {t : zS} (h : fX4_takeBack l0 l1 s = some t) : Cv E mX4_takeBack [.ref l0, .int l1] s t := by
  refine Ct.of (ls := [(0, .ref l0), (1, .int l1)]) (by decide) rfl (Nat.le_of_ble_eq_true rfl) ?_
  show Z E mX4_takeBack 0 [(0, .ref l0), (1, .int l1)] [] s (0, 0) (zRv E mX4_takeBack t)
  unfold fX4_takeBack at h
  refine z_aload_n (pc := 0) 0 rfl dX4_takeBack_0 rfl ?_
  obtain ⟨a2, x1, e3, h⟩ := iR h
  refine y_getR (pc := 1) flRX4_32 dX4_takeBack_1 rfl a2 e3 ?_
  refine z_iload_n (pc := 4) 1 rfl dX4_takeBack_4 rfl ?_
  refine z_abs (pc := 5) mlRX4_132 ma_st_abs ma_in ma_co_abs dX4_takeBack_5 (Nat.le_of_ble_eq_true rfl) (Nat.le_of_ble_eq_true rfl) (fun _ => Nat.le_of_ble_eq_true rfl) ?_
  refine z_iconst (pc := 8) (v := 0) dX4_takeBack_8 (by decide) ?_
  obtain ⟨a5, q4, e6, h⟩ := iC h
  refine y_V (pc := 9) (M2 := mX6_put) (As := [.int (zab l1), .int 0]) (okX6_put e6) mvX6_put mlRX4_88 dX4_takeBack_9 ⟨by decide, by decide⟩ rfl rfl rfl zrest0 a5 ?_
  refine z_aload_n (pc := 12) 0 rfl dX4_takeBack_12 rfl ?_
  obtain ⟨a8, x7, e9, h⟩ := iR h
  refine y_getR (pc := 13) flRX4_69 dX4_takeBack_13 rfl a8 e9 ?_
  refine z_iload_n (pc := 16) 1 rfl dX4_takeBack_16 rfl ?_
  refine z_ineg (pc := 17) dX4_takeBack_17 ?_
  obtain ⟨a11, q10, e12, h⟩ := iC h
  refine y_Vi (pc := 18) (M2 := mX1_endOfUses) (As := [.int (-l1)]) (okX1_endOfUses e12) mvX1_endOfUses mlRX4_137 dX4_takeBack_18 ⟨by decide, by decide⟩ rfl rfl rfl zrest0 a11 ?_
  refine z_istore_n (pc := 21) (ls' := [(2, .int q10.1), (0, .ref l0), (1, .int l1)]) dX4_takeBack_21 rfl (by decide) (fun _ => rfl) ?_
  refine z_aload_n (pc := 22) 1 rfl dX4_takeBack_22 rfl ?_
  obtain ⟨a14, x13, e15, h⟩ := iR h
  refine y_getR (pc := 23) flRX4_69 dX4_takeBack_23 rfl a14 e15 ?_
  refine z_iload_n (pc := 26) 2 rfl dX4_takeBack_26 rfl ?_
  refine z_ineg (pc := 27) dX4_takeBack_27 ?_
  obtain ⟨a17, q16, e18, h⟩ := iC h
  refine y_Vi (pc := 28) (M2 := mX1_firstUse) (As := [.int (-l1)]) (okX1_firstUse e18) mvX1_firstUse mlRX4_140 dX4_takeBack_28 ⟨by decide, by decide⟩ rfl rfl rfl zrest0 a17 ?_
  refine z_istore_n (pc := 31) (ls' := [(3, .int q16.1), (2, .int q10.1), (0, .ref l0), (1, .int l1)]) dX4_takeBack_31 rfl (by decide) (fun _ => rfl) ?_
  exact z_sub [2, 1, 0] rfl (bX4_takeBack_32  _ h)
def fX4_restart_53  (n : Nat) : Nat → Int32 → zS → Option zS := match n with
  | 0 => fun _ _ _ => none
  | n + 1 => fun l0 l1 s =>
    bnd (qI s 4 l0 12) fun x19 =>
    if x19 ≤ l1 then
      some s
    else
      bnd (qR s 4 l0 4) fun x22 =>
      bnd (cl s 6 x22 (fX6_at x22 l1 s)) fun q25 =>
      bnd (cl q25.2 4 l0 (fX4_makeReady l0 q25.1 q25.2)) fun q28 =>
      (fX4_restart_53  n) l0 (l1 + 1) q28
set_option maxRecDepth 100000 in
set_option maxHeartbeats 4000000 in
theorem bX4_restart_53 {E : zE}  : ∀ (n : Nat) {l0 : Nat} {l1 : Int32} {s : zS} {q : zS}, fX4_restart_53  n l0 l1 s = some q → Z E mX4_restart 53 [(0, .ref l0), (1, .int l1)] [] s (0, 0) (zRv E mX4_restart q) := by
  intro n
  induction n with
  | zero => intro l0 l1 s q h; cases h
  | succ n ih =>
    intro l0 l1 s q h
    unfold fX4_restart_53 at h
    refine z_iload_n (pc := 53) 1 rfl dX4_restart_53 rfl ?_
    refine z_aload_n (pc := 54) 0 rfl dX4_restart_54 rfl ?_
    obtain ⟨a20, x19, e21, h⟩ := iI h
    refine y_getI (pc := 55) flRX4_50 dX4_restart_55 rfl a20 e21 ?_
    refine z_icmp_ge (pc := 58) (tgt := 79) dX4_restart_58 (by decide) (fun hc => ?_) (fun hc => ?_)
    · replace h := ifp hc h
      exact y_ret (pc := 79) dX4_restart_79 rfl h
    · replace h := ifn hc h
      refine z_aload_n (pc := 61) 0 rfl dX4_restart_61 rfl ?_
      refine z_aload_n (pc := 62) 0 rfl dX4_restart_62 rfl ?_
      obtain ⟨a23, x22, e24, h⟩ := iR h
      refine y_getR (pc := 63) flRX4_26 dX4_restart_63 rfl a23 e24 ?_
      refine z_iload_n (pc := 66) 1 rfl dX4_restart_66 rfl ?_
      obtain ⟨a26, q25, e27, h⟩ := iC h
      refine y_Vi (pc := 67) (M2 := mX6_at) (As := [.int l1]) (okX6_at e27) mvX6_at mlRX4_96 dX4_restart_67 ⟨by decide, by decide⟩ rfl rfl rfl (fun _ => Nat.le_of_ble_eq_true rfl) a26 ?_
      obtain ⟨a29, q28, e30, h⟩ := iC h
      refine y_V (pc := 70) (M2 := mX4_makeReady) (As := [.int q25.1]) (okX4_makeReady e30) mvX4_makeReady mlRX4_102 dX4_restart_70 ⟨by decide, by decide⟩ rfl rfl rfl zrest0 a29 ?_
      refine z_iinc (pc := 73) (v := (l1 + 1)) (ls' := [(1, .int (l1 + 1)), (0, .ref l0)]) 1 rfl rfl dX4_restart_73 (by decide) (fun _ => rfl) ?_
      refine z_goto (pc := 76) (tgt := 53) dX4_restart_76 (by decide) ?_
      exact z_sub [1, 0] rfl (ih h)
def fX4_restart_2  (n : Nat) : Nat → Int32 → zS → Option zS := match n with
  | 0 => fun _ _ _ => none
  | n + 1 => fun l0 l1 s =>
    bnd (qI s 4 l0 14) fun x1 =>
    if x1 ≤ l1 then
      bnd (wI s 4 l0 14 0) fun s4 =>
      bnd (wI s4 4 l0 13 0) fun s7 =>
      bnd (wI s7 4 l0 16 0) fun s10 =>
      bnd (qR s10 4 l0 5) fun x13 =>
      bnd (cl s10 6 x13 (fX6_fill x13 0 s10)) fun q16 =>
      fX4_restart_53  zfu l0 0 q16
    else
      bnd (qR s 4 l0 8) fun x19 =>
      bnd (cl s 6 x19 (fX6_at x19 l1 s)) fun q22 =>
      bnd (cl q22.2 4 l0 (fX4_takeBack l0 q22.1 q22.2)) fun q25 =>
      (fX4_restart_2  n) l0 (l1 + 1) q25
set_option maxRecDepth 100000 in
set_option maxHeartbeats 4000000 in
theorem bX4_restart_2 {E : zE}  : ∀ (n : Nat) {l0 : Nat} {l1 : Int32} {s : zS} {q : zS}, fX4_restart_2  n l0 l1 s = some q → Z E mX4_restart 2 [(0, .ref l0), (1, .int l1)] [] s (0, 0) (zRv E mX4_restart q) := by
  intro n
  induction n with
  | zero => intro l0 l1 s q h; cases h
  | succ n ih =>
    intro l0 l1 s q h
    unfold fX4_restart_2 at h
    refine z_iload_n (pc := 2) 1 rfl dX4_restart_2 rfl ?_
    refine z_aload_n (pc := 3) 0 rfl dX4_restart_3 rfl ?_
    obtain ⟨a2, x1, e3, h⟩ := iI h
    refine y_getI (pc := 4) flRX4_57 dX4_restart_4 rfl a2 e3 ?_
    refine z_icmp_ge (pc := 7) (tgt := 28) dX4_restart_7 (by decide) (fun hc => ?_) (fun hc => ?_)
    · replace h := ifp hc h
      refine z_aload_n (pc := 28) 0 rfl dX4_restart_28 rfl ?_
      refine z_iconst (pc := 29) (v := 0) dX4_restart_29 (by decide) ?_
      obtain ⟨a5, s4, e6, h⟩ := jI h
      refine y_putI (pc := 30) flRX4_57 dX4_restart_30 rfl (Or.inl rfl) a5 e6 ?_
      refine z_aload_n (pc := 33) 0 rfl dX4_restart_33 rfl ?_
      refine z_iconst (pc := 34) (v := 0) dX4_restart_34 (by decide) ?_
      obtain ⟨a8, s7, e9, h⟩ := jI h
      refine y_putI (pc := 35) flRX4_54 dX4_restart_35 rfl (Or.inl rfl) a8 e9 ?_
      refine z_aload_n (pc := 38) 0 rfl dX4_restart_38 rfl ?_
      refine z_iconst (pc := 39) (v := 0) dX4_restart_39 (by decide) ?_
      obtain ⟨a11, s10, e12, h⟩ := jI h
      refine y_putI (pc := 40) flRX4_63 dX4_restart_40 rfl (Or.inl rfl) a11 e12 ?_
      refine z_aload_n (pc := 43) 0 rfl dX4_restart_43 rfl ?_
      obtain ⟨a14, x13, e15, h⟩ := iR h
      refine y_getR (pc := 44) flRX4_29 dX4_restart_44 rfl a14 e15 ?_
      refine z_iconst (pc := 47) (v := 0) dX4_restart_47 (by decide) ?_
      obtain ⟨a17, q16, e18, h⟩ := iC h
      refine y_V (pc := 48) (M2 := mX6_fill) (As := [.int 0]) (okX6_fill e18) mvX6_fill mlRX4_76 dX4_restart_48 ⟨by decide, by decide⟩ rfl rfl rfl zrest0 a17 ?_
      refine z_iconst (pc := 51) (v := 0) dX4_restart_51 (by decide) ?_
      refine z_istore_n (pc := 52) (ls' := [(1, .int 0), (0, .ref l0)]) dX4_restart_52 rfl (by decide) (fun _ => rfl) ?_
      exact z_sub [1, 0] rfl (bX4_restart_53  _ h)
    · replace h := ifn hc h
      refine z_aload_n (pc := 10) 0 rfl dX4_restart_10 rfl ?_
      refine z_aload_n (pc := 11) 0 rfl dX4_restart_11 rfl ?_
      obtain ⟨a20, x19, e21, h⟩ := iR h
      refine y_getR (pc := 12) flRX4_38 dX4_restart_12 rfl a20 e21 ?_
      refine z_iload_n (pc := 15) 1 rfl dX4_restart_15 rfl ?_
      obtain ⟨a23, q22, e24, h⟩ := iC h
      refine y_Vi (pc := 16) (M2 := mX6_at) (As := [.int l1]) (okX6_at e24) mvX6_at mlRX4_96 dX4_restart_16 ⟨by decide, by decide⟩ rfl rfl rfl (fun _ => Nat.le_of_ble_eq_true rfl) a23 ?_
      obtain ⟨a26, q25, e27, h⟩ := iC h
      refine y_V (pc := 19) (M2 := mX4_takeBack) (As := [.int q22.1]) (okX4_takeBack e27) mvX4_takeBack mlRX4_99 dX4_restart_19 ⟨by decide, by decide⟩ rfl rfl rfl zrest0 a26 ?_
      refine z_iinc (pc := 22) (v := (l1 + 1)) (ls' := [(1, .int (l1 + 1)), (0, .ref l0)]) 1 rfl rfl dX4_restart_22 (by decide) (fun _ => rfl) ?_
      refine z_goto (pc := 25) (tgt := 2) dX4_restart_25 (by decide) ?_
      exact z_sub [1, 0] rfl (ih h)
def fX4_restart (l0 : Nat) (s : zS) : Option zS :=
  fX4_restart_2  zfu l0 0 s
set_option maxRecDepth 100000 in
set_option maxHeartbeats 4000000 in
theorem okX4_restart {E : zE} {l0 : Nat} {s : zS} {t : zS} (h : fX4_restart l0 s = some t) : Cv E mX4_restart [.ref l0] s t := by
  refine Ct.of (ls := [(0, .ref l0)]) (by decide) rfl (Nat.le_of_ble_eq_true rfl) ?_
  show Z E mX4_restart 0 [(0, .ref l0)] [] s (0, 0) (zRv E mX4_restart t)
  unfold fX4_restart at h
  refine z_iconst (pc := 0) (v := 0) dX4_restart_0 (by decide) ?_
  refine z_istore_n (pc := 1) (ls' := [(1, .int 0), (0, .ref l0)]) dX4_restart_1 rfl (by decide) (fun _ => rfl) ?_
  exact z_sub [1, 0] rfl (bX4_restart_2  _ h)
def fX4_truthOf (l0 : Nat) (l1 : Int32) (s : zS) : Option (Int32 × zS) :=
  bnd (qR s 4 l0 6) fun x1 =>
  bnd (cl s 6 x1 (fX6_at x1 (zab l1) s)) fun q4 =>
  if l1 ≤ 0 then
    some ((-q4.1), q4.2)
  else
    some (q4.1, q4.2)
set_option maxRecDepth 100000 in
set_option maxHeartbeats 4000000 in
theorem okX4_truthOf {E : zE} {l0 : Nat} {l1 : Int32} {s : zS} {q : Int32 × zS} (h : fX4_truthOf l0 l1 s = some q) : Ci E mX4_truthOf [.ref l0, .int l1] s q.1 q.2 := by
  refine Ct.of (ls := [(0, .ref l0), (1, .int l1)]) (by decide) rfl (Nat.le_of_ble_eq_true rfl) ?_
  show Z E mX4_truthOf 0 [(0, .ref l0), (1, .int l1)] [] s (0, 0) (zRi E mX4_truthOf q.1 q.2)
  unfold fX4_truthOf at h
  refine z_aload_n (pc := 0) 0 rfl dX4_truthOf_0 rfl ?_
  obtain ⟨a2, x1, e3, h⟩ := iR h
  refine y_getR (pc := 1) flRX4_32 dX4_truthOf_1 rfl a2 e3 ?_
  refine z_iload_n (pc := 4) 1 rfl dX4_truthOf_4 rfl ?_
  refine z_abs (pc := 5) mlRX4_132 ma_st_abs ma_in ma_co_abs dX4_truthOf_5 (Nat.le_of_ble_eq_true rfl) (Nat.le_of_ble_eq_true rfl) (fun _ => Nat.le_of_ble_eq_true rfl) ?_
  obtain ⟨a5, q4, e6, h⟩ := iC h
  refine y_Vi (pc := 8) (M2 := mX6_at) (As := [.int (zab l1)]) (okX6_at e6) mvX6_at mlRX4_96 dX4_truthOf_8 ⟨by decide, by decide⟩ rfl rfl rfl zrest0 a5 ?_
  refine z_istore_n (pc := 11) (ls' := [(2, .int q4.1), (0, .ref l0), (1, .int l1)]) dX4_truthOf_11 rfl (by decide) (fun _ => rfl) ?_
  refine z_iload_n (pc := 12) 2 rfl dX4_truthOf_12 rfl ?_
  refine z_if_le (pc := 13) (tgt := 20) dX4_truthOf_13 (by decide) (fun hc => ?_) (fun hc => ?_)
  · replace h := ifp hc h
    refine z_iload_n (pc := 20) 0 rfl dX4_truthOf_20 rfl ?_
    refine z_ineg (pc := 21) dX4_truthOf_21 ?_
    exact y_iret (pc := 22) dX4_truthOf_22 rfl h
  · replace h := ifn hc h
    refine z_iload_n (pc := 16) 0 rfl dX4_truthOf_16 rfl ?_
    refine z_goto (pc := 17) (tgt := 22) dX4_truthOf_17 (by decide) ?_
    exact y_iret (pc := 22) dX4_truthOf_22 rfl h
def fX4_isSatisfied_11  (n : Nat) : Nat → Int32 → Int32 → Int32 → zS → Option (Int32 × zS) := match n with
  | 0 => fun _ _ _ _ _ => none
  | n + 1 => fun l0 l1 l2 l3 s =>
    if l2 ≤ l3 then
      gd ((0 : Int32) = 0 ∨ 0 = 1) (some (0, s))
    else
      bnd (qR s 4 l0 0) fun x7 =>
      bnd (cl s 1 x7 (fX1_literal x7 l1 l3 s)) fun q10 =>
      bnd (cl q10.2 4 l0 (fX4_truthOf l0 q10.1 q10.2)) fun q13 =>
      if q13.1 ≤ 0 then
        (fX4_isSatisfied_11  n) l0 l1 l2 (l3 + 1) q13.2
      else
        gd ((1 : Int32) = 0 ∨ 1 = 1) (some (1, q13.2))
set_option maxRecDepth 100000 in
set_option maxHeartbeats 4000000 in
theorem bX4_isSatisfied_11 {E : zE}  : ∀ (n : Nat) {l0 : Nat} {l1 : Int32} {l2 : Int32} {l3 : Int32} {s : zS} {q : Int32 × zS}, fX4_isSatisfied_11  n l0 l1 l2 l3 s = some q → Z E mX4_isSatisfied 11 [(0, .ref l0), (1, .int l1), (2, .int l2), (3, .int l3)] [] s (0, 0) (zRi E mX4_isSatisfied q.1 q.2) := by
  intro n
  induction n with
  | zero => intro l0 l1 l2 l3 s q h; cases h
  | succ n ih =>
    intro l0 l1 l2 l3 s q h
    unfold fX4_isSatisfied_11 at h
    refine z_iload_n (pc := 11) 3 rfl dX4_isSatisfied_11 rfl ?_
    refine z_iload_n (pc := 12) 2 rfl dX4_isSatisfied_12 rfl ?_
    refine z_icmp_ge (pc := 13) (tgt := 40) dX4_isSatisfied_13 (by decide) (fun hc => ?_) (fun hc => ?_)
    · replace h := ifp hc h
      refine z_iconst (pc := 40) (v := 0) dX4_isSatisfied_40 (by decide) ?_
      exact y_zret (pc := 41) dX4_isSatisfied_41 rfl h
    · replace h := ifn hc h
      refine z_aload_n (pc := 16) 0 rfl dX4_isSatisfied_16 rfl ?_
      refine z_aload_n (pc := 17) 0 rfl dX4_isSatisfied_17 rfl ?_
      obtain ⟨a8, x7, e9, h⟩ := iR h
      refine y_getR (pc := 18) flRX4_69 dX4_isSatisfied_18 rfl a8 e9 ?_
      refine z_iload_n (pc := 21) 1 rfl dX4_isSatisfied_21 rfl ?_
      refine z_iload_n (pc := 22) 3 rfl dX4_isSatisfied_22 rfl ?_
      obtain ⟨a11, q10, e12, h⟩ := iC h
      refine y_Vi (pc := 23) (M2 := mX1_literal) (As := [.int l1, .int l3]) (okX1_literal e12) mvX1_literal mlRX4_105 dX4_isSatisfied_23 ⟨by decide, by decide⟩ rfl rfl rfl (fun _ => Nat.le_of_ble_eq_true rfl) a11 ?_
      obtain ⟨a14, q13, e15, h⟩ := iC h
      refine y_Vi (pc := 26) (M2 := mX4_truthOf) (As := [.int q10.1]) (okX4_truthOf e15) mvX4_truthOf mlRX4_109 dX4_isSatisfied_26 ⟨by decide, by decide⟩ rfl rfl rfl zrest0 a14 ?_
      refine z_if_le (pc := 29) (tgt := 34) dX4_isSatisfied_29 (by decide) (fun hc => ?_) (fun hc => ?_)
      · replace h := ifp hc h
        refine z_iinc (pc := 34) (v := (l3 + 1)) (ls' := [(3, .int (l3 + 1)), (0, .ref l0), (1, .int l1), (2, .int l2)]) 3 rfl rfl dX4_isSatisfied_34 (by decide) (fun _ => rfl) ?_
        refine z_goto (pc := 37) (tgt := 11) dX4_isSatisfied_37 (by decide) ?_
        exact z_sub [1, 2, 3, 0] rfl (ih h)
      · replace h := ifn hc h
        refine z_iconst (pc := 32) (v := 1) dX4_isSatisfied_32 (by decide) ?_
        exact y_zret (pc := 33) dX4_isSatisfied_33 rfl h
def fX4_isSatisfied (l0 : Nat) (l1 : Int32) (s : zS) : Option (Int32 × zS) :=
  bnd (qR s 4 l0 0) fun x1 =>
  bnd (cl s 1 x1 (fX1_size x1 l1 s)) fun q4 =>
  fX4_isSatisfied_11  zfu l0 l1 q4.1 0 q4.2
set_option maxRecDepth 100000 in
set_option maxHeartbeats 4000000 in
theorem okX4_isSatisfied {E : zE} {l0 : Nat} {l1 : Int32} {s : zS} {q : Int32 × zS} (h : fX4_isSatisfied l0 l1 s = some q) : Ci E mX4_isSatisfied [.ref l0, .int l1] s q.1 q.2 := by
  refine Ct.of (ls := [(0, .ref l0), (1, .int l1)]) (by decide) rfl (Nat.le_of_ble_eq_true rfl) ?_
  show Z E mX4_isSatisfied 0 [(0, .ref l0), (1, .int l1)] [] s (0, 0) (zRi E mX4_isSatisfied q.1 q.2)
  unfold fX4_isSatisfied at h
  refine z_aload_n (pc := 0) 0 rfl dX4_isSatisfied_0 rfl ?_
  obtain ⟨a2, x1, e3, h⟩ := iR h
  refine y_getR (pc := 1) flRX4_69 dX4_isSatisfied_1 rfl a2 e3 ?_
  refine z_iload_n (pc := 4) 1 rfl dX4_isSatisfied_4 rfl ?_
  obtain ⟨a5, q4, e6, h⟩ := iC h
  refine y_Vi (pc := 5) (M2 := mX1_size) (As := [.int l1]) (okX1_size e6) mvX1_size mlRX4_92 dX4_isSatisfied_5 ⟨by decide, by decide⟩ rfl rfl rfl zrest0 a5 ?_
  refine z_istore_n (pc := 8) (ls' := [(2, .int q4.1), (0, .ref l0), (1, .int l1)]) dX4_isSatisfied_8 rfl (by decide) (fun _ => rfl) ?_
  refine z_iconst (pc := 9) (v := 0) dX4_isSatisfied_9 (by decide) ?_
  refine z_istore_n (pc := 10) (ls' := [(3, .int 0), (2, .int q4.1), (0, .ref l0), (1, .int l1)]) dX4_isSatisfied_10 rfl (by decide) (fun _ => rfl) ?_
  exact z_sub [2, 3, 1, 0] rfl (bX4_isSatisfied_11  _ h)
def fX4_makeTrue_147 (k94 : Nat → Int32 → Int32 → zS → Option (Int32 × zS)) (l0 : Nat) (l3 : Int32) (l4 : Int32) (s : zS) : Option (Int32 × zS) :=
  k94 l0 l3 (l4 + 1) s
set_option maxRecDepth 100000 in
set_option maxHeartbeats 4000000 in
theorem bX4_makeTrue_147 {E : zE} {k94 : Nat → Int32 → Int32 → zS → Option (Int32 × zS)} (hk94 : ∀ {l0 : Nat} {l3 : Int32} {l4 : Int32} {s : zS} {q : Int32 × zS}, k94 l0 l3 l4 s = some q → Z E mX4_makeTrue 94 [(0, .ref l0), (3, .int l3), (4, .int l4)] [] s (0, 0) (zRi E mX4_makeTrue q.1 q.2)) {l0 : Nat} {l3 : Int32} {l4 : Int32} {s : zS} {q : Int32 × zS} (h : fX4_makeTrue_147 k94 l0 l3 l4 s = some q) : Z E mX4_makeTrue 147 [(0, .ref l0), (3, .int l3), (4, .int l4)] [] s (0, 0) (zRi E mX4_makeTrue q.1 q.2) := by
  unfold fX4_makeTrue_147 at h
  refine z_iinc (pc := 147) (v := (l4 + 1)) (ls' := [(4, .int (l4 + 1)), (0, .ref l0), (3, .int l3)]) 2 rfl rfl dX4_makeTrue_147 (by decide) (fun _ => rfl) ?_
  refine z_goto (pc := 150) (tgt := 94) dX4_makeTrue_150 (by decide) ?_
  exact z_sub [1, 2, 0] rfl (hk94 h)
def fX4_makeTrue_94  (n : Nat) : Nat → Int32 → Int32 → zS → Option (Int32 × zS) := match n with
  | 0 => fun _ _ _ _ => none
  | n + 1 => fun l0 l3 l4 s =>
    if l3 ≤ l4 then
      gd ((1 : Int32) = 0 ∨ 1 = 1) (some (1, s))
    else
      bnd (qR s 4 l0 0) fun x52 =>
      bnd (cl s 1 x52 (fX1_user x52 l4 s)) fun q55 =>
      bnd (qR q55.2 4 l0 3) fun x58 =>
      bnd (cl q55.2 6 x58 (fX6_at x58 q55.1 q55.2)) fun q61 =>
      bnd (qR q61.2 4 l0 3) fun x64 =>
      bnd (cl q61.2 6 x64 (fX6_put x64 q55.1 (q61.1 - 1) q61.2)) fun q67 =>
      if (q61.1 - 1) = 1 then
        bnd (cl q67 4 l0 (fX4_makeReady l0 q55.1 q67)) fun q70 =>
        fX4_makeTrue_147 ((fX4_makeTrue_94  n)) l0 l3 l4 q70
      else
        fX4_makeTrue_147 ((fX4_makeTrue_94  n)) l0 l3 l4 q67
set_option maxRecDepth 100000 in
set_option maxHeartbeats 4000000 in
theorem bX4_makeTrue_94 {E : zE}  : ∀ (n : Nat) {l0 : Nat} {l3 : Int32} {l4 : Int32} {s : zS} {q : Int32 × zS}, fX4_makeTrue_94  n l0 l3 l4 s = some q → Z E mX4_makeTrue 94 [(0, .ref l0), (3, .int l3), (4, .int l4)] [] s (0, 0) (zRi E mX4_makeTrue q.1 q.2) := by
  intro n
  induction n with
  | zero => intro l0 l3 l4 s q h; cases h
  | succ n ih =>
    intro l0 l3 l4 s q h
    unfold fX4_makeTrue_94 at h
    refine z_iload (pc := 94) 2 rfl dX4_makeTrue_94 ?_
    refine z_iload_n (pc := 96) 1 rfl dX4_makeTrue_96 rfl ?_
    refine z_icmp_ge (pc := 97) (tgt := 153) dX4_makeTrue_97 (by decide) (fun hc => ?_) (fun hc => ?_)
    · replace h := ifp hc h
      refine z_iconst (pc := 153) (v := 1) dX4_makeTrue_153 (by decide) ?_
      exact y_zret (pc := 154) dX4_makeTrue_154 rfl h
    · replace h := ifn hc h
      refine z_aload_n (pc := 100) 0 rfl dX4_makeTrue_100 rfl ?_
      obtain ⟨a53, x52, e54, h⟩ := iR h
      refine y_getR (pc := 101) flRX4_69 dX4_makeTrue_101 rfl a53 e54 ?_
      refine z_iload (pc := 104) 2 rfl dX4_makeTrue_104 ?_
      obtain ⟨a56, q55, e57, h⟩ := iC h
      refine y_Vi (pc := 106) (M2 := mX1_user) (As := [.int l4]) (okX1_user e57) mvX1_user mlRX4_143 dX4_makeTrue_106 ⟨by decide, by decide⟩ rfl rfl rfl zrest0 a56 ?_
      refine z_istore (pc := 109) (ls' := [(5, .int q55.1), (0, .ref l0), (3, .int l3), (4, .int l4)]) dX4_makeTrue_109 (by decide) (fun _ => rfl) ?_
      refine z_aload_n (pc := 111) 1 rfl dX4_makeTrue_111 rfl ?_
      obtain ⟨a59, x58, e60, h⟩ := iR h
      refine y_getR (pc := 112) flRX4_23 dX4_makeTrue_112 rfl a59 e60 ?_
      refine z_iload (pc := 115) 0 rfl dX4_makeTrue_115 ?_
      obtain ⟨a62, q61, e63, h⟩ := iC h
      refine y_Vi (pc := 117) (M2 := mX6_at) (As := [.int q55.1]) (okX6_at e63) mvX6_at mlRX4_96 dX4_makeTrue_117 ⟨by decide, by decide⟩ rfl rfl rfl zrest0 a62 ?_
      refine z_iconst (pc := 120) (v := 1) dX4_makeTrue_120 (by decide) ?_
      refine z_isub (pc := 121) dX4_makeTrue_121 ?_
      refine z_istore (pc := 122) (ls' := [(6, .int (q61.1 - 1)), (5, .int q55.1), (0, .ref l0), (3, .int l3), (4, .int l4)]) dX4_makeTrue_122 (by decide) (fun _ => rfl) ?_
      refine z_aload_n (pc := 124) 2 rfl dX4_makeTrue_124 rfl ?_
      obtain ⟨a65, x64, e66, h⟩ := iR h
      refine y_getR (pc := 125) flRX4_23 dX4_makeTrue_125 rfl a65 e66 ?_
      refine z_iload (pc := 128) 1 rfl dX4_makeTrue_128 ?_
      refine z_iload (pc := 130) 0 rfl dX4_makeTrue_130 ?_
      obtain ⟨a68, q67, e69, h⟩ := iC h
      refine y_V (pc := 132) (M2 := mX6_put) (As := [.int q55.1, .int (q61.1 - 1)]) (okX6_put e69) mvX6_put mlRX4_88 dX4_makeTrue_132 ⟨by decide, by decide⟩ rfl rfl rfl zrest0 a68 ?_
      refine z_iload (pc := 135) 0 rfl dX4_makeTrue_135 ?_
      refine z_iconst (pc := 137) (v := 1) dX4_makeTrue_137 (by decide) ?_
      refine z_icmp_ne (pc := 138) (tgt := 147) dX4_makeTrue_138 (by decide) (fun hc => ?_) (fun hc => ?_)
      · replace h := ifn hc h
        exact z_sub [2, 3, 4] rfl (bX4_makeTrue_147 (fun h => ih h) h)
      · replace h := ifp hc h
        refine z_aload_n (pc := 141) 2 rfl dX4_makeTrue_141 rfl ?_
        refine z_iload (pc := 142) 1 rfl dX4_makeTrue_142 ?_
        obtain ⟨a71, q70, e72, h⟩ := iC h
        refine y_V (pc := 144) (M2 := mX4_makeReady) (As := [.int q55.1]) (okX4_makeReady e72) mvX4_makeReady mlRX4_102 dX4_makeTrue_144 ⟨by decide, by decide⟩ rfl rfl rfl zrest0 a71 ?_
        exact z_sub [2, 3, 4] rfl (bX4_makeTrue_147 (fun h => ih h) h)
def fX4_makeTrue_36  (l0 : Nat) (l1 : Int32) (l2 : Int32) (t0 : Int32) (t1 : Int32) (t2 : Nat) (s : zS) : Option (Int32 × zS) :=
  bnd (cl s 6 t2 (fX6_put t2 t1 t0 s)) fun q13 =>
  bnd (qR q13 4 l0 8) fun x16 =>
  bnd (qI q13 4 l0 14) fun x19 =>
  bnd (cl q13 6 x16 (fX6_put x16 x19 l1 q13)) fun q22 =>
  bnd (qR q22 4 l0 9) fun x25 =>
  bnd (qI q22 4 l0 14) fun x28 =>
  bnd (cl q22 6 x25 (fX6_put x25 x28 l2 q22)) fun q31 =>
  bnd (qI q31 4 l0 14) fun x34 =>
  bnd (wI q31 4 l0 14 (x34 + 1)) fun s37 =>
  bnd (qR s37 4 l0 0) fun x40 =>
  bnd (cl s37 1 x40 (fX1_endOfUses x40 (-l1) s37)) fun q43 =>
  bnd (qR q43.2 4 l0 0) fun x46 =>
  bnd (cl q43.2 1 x46 (fX1_firstUse x46 (-l1) q43.2)) fun q49 =>
  fX4_makeTrue_94  zfu l0 q43.1 q49.1 q49.2
set_option maxRecDepth 100000 in
set_option maxHeartbeats 4000000 in
theorem bX4_makeTrue_36 {E : zE}   {l0 : Nat} {l1 : Int32} {l2 : Int32} {t0 : Int32} {t1 : Int32} {t2 : Nat} {s : zS} {q : Int32 × zS} (h : fX4_makeTrue_36  l0 l1 l2 t0 t1 t2 s = some q) : Z E mX4_makeTrue 36 [(0, .ref l0), (1, .int l1), (2, .int l2)] [.int t0, .int t1, .ref t2] s (0, 0) (zRi E mX4_makeTrue q.1 q.2) := by
  unfold fX4_makeTrue_36 at h
  obtain ⟨a14, q13, e15, h⟩ := iC h
  refine y_V (pc := 36) (M2 := mX6_put) (As := [.int t1, .int t0]) (okX6_put e15) mvX6_put mlRX4_88 dX4_makeTrue_36 ⟨by decide, by decide⟩ rfl rfl rfl zrest0 a14 ?_
  refine z_aload_n (pc := 39) 0 rfl dX4_makeTrue_39 rfl ?_
  obtain ⟨a17, x16, e18, h⟩ := iR h
  refine y_getR (pc := 40) flRX4_38 dX4_makeTrue_40 rfl a17 e18 ?_
  refine z_aload_n (pc := 43) 0 rfl dX4_makeTrue_43 rfl ?_
  obtain ⟨a20, x19, e21, h⟩ := iI h
  refine y_getI (pc := 44) flRX4_57 dX4_makeTrue_44 rfl a20 e21 ?_
  refine z_iload_n (pc := 47) 1 rfl dX4_makeTrue_47 rfl ?_
  obtain ⟨a23, q22, e24, h⟩ := iC h
  refine y_V (pc := 48) (M2 := mX6_put) (As := [.int x19, .int l1]) (okX6_put e24) mvX6_put mlRX4_88 dX4_makeTrue_48 ⟨by decide, by decide⟩ rfl rfl rfl zrest0 a23 ?_
  refine z_aload_n (pc := 51) 0 rfl dX4_makeTrue_51 rfl ?_
  obtain ⟨a26, x25, e27, h⟩ := iR h
  refine y_getR (pc := 52) flRX4_41 dX4_makeTrue_52 rfl a26 e27 ?_
  refine z_aload_n (pc := 55) 0 rfl dX4_makeTrue_55 rfl ?_
  obtain ⟨a29, x28, e30, h⟩ := iI h
  refine y_getI (pc := 56) flRX4_57 dX4_makeTrue_56 rfl a29 e30 ?_
  refine z_iload_n (pc := 59) 2 rfl dX4_makeTrue_59 rfl ?_
  obtain ⟨a32, q31, e33, h⟩ := iC h
  refine y_V (pc := 60) (M2 := mX6_put) (As := [.int x28, .int l2]) (okX6_put e33) mvX6_put mlRX4_88 dX4_makeTrue_60 ⟨by decide, by decide⟩ rfl rfl rfl zrest0 a32 ?_
  refine z_aload_n (pc := 63) 0 rfl dX4_makeTrue_63 rfl ?_
  refine z_dup (pc := 64) dX4_makeTrue_64 (fun _ => rfl) ?_
  obtain ⟨a35, x34, e36, h⟩ := iI h
  refine y_getI (pc := 65) flRX4_57 dX4_makeTrue_65 rfl a35 e36 ?_
  refine z_iconst (pc := 68) (v := 1) dX4_makeTrue_68 (by decide) ?_
  refine z_iadd (pc := 69) dX4_makeTrue_69 ?_
  obtain ⟨a38, s37, e39, h⟩ := jI h
  refine y_putI (pc := 70) flRX4_57 dX4_makeTrue_70 rfl (Or.inl rfl) a38 e39 ?_
  refine z_aload_n (pc := 73) 0 rfl dX4_makeTrue_73 rfl ?_
  obtain ⟨a41, x40, e42, h⟩ := iR h
  refine y_getR (pc := 74) flRX4_69 dX4_makeTrue_74 rfl a41 e42 ?_
  refine z_iload_n (pc := 77) 1 rfl dX4_makeTrue_77 rfl ?_
  refine z_ineg (pc := 78) dX4_makeTrue_78 ?_
  obtain ⟨a44, q43, e45, h⟩ := iC h
  refine y_Vi (pc := 79) (M2 := mX1_endOfUses) (As := [.int (-l1)]) (okX1_endOfUses e45) mvX1_endOfUses mlRX4_137 dX4_makeTrue_79 ⟨by decide, by decide⟩ rfl rfl rfl zrest0 a44 ?_
  refine z_istore_n (pc := 82) (ls' := [(3, .int q43.1), (0, .ref l0), (1, .int l1), (2, .int l2)]) dX4_makeTrue_82 rfl (by decide) (fun _ => rfl) ?_
  refine z_aload_n (pc := 83) 1 rfl dX4_makeTrue_83 rfl ?_
  obtain ⟨a47, x46, e48, h⟩ := iR h
  refine y_getR (pc := 84) flRX4_69 dX4_makeTrue_84 rfl a47 e48 ?_
  refine z_iload_n (pc := 87) 2 rfl dX4_makeTrue_87 rfl ?_
  refine z_ineg (pc := 88) dX4_makeTrue_88 ?_
  obtain ⟨a50, q49, e51, h⟩ := iC h
  refine y_Vi (pc := 89) (M2 := mX1_firstUse) (As := [.int (-l1)]) (okX1_firstUse e51) mvX1_firstUse mlRX4_140 dX4_makeTrue_89 ⟨by decide, by decide⟩ rfl rfl rfl zrest0 a50 ?_
  refine z_istore (pc := 92) (ls' := [(4, .int q49.1), (3, .int q43.1), (0, .ref l0), (1, .int l1), (2, .int l2)]) dX4_makeTrue_92 (by decide) (fun _ => rfl) ?_
  exact z_sub [2, 1, 0] rfl (bX4_makeTrue_94  _ h)
def fX4_makeTrue (l0 : Nat) (l1 : Int32) (l2 : Int32) (s : zS) : Option (Int32 × zS) :=
  bnd (qI s 4 l0 17) fun x1 =>
  if 0 < x1 then
    bnd (qI s 4 l0 17) fun x4 =>
    bnd (wI s 4 l0 17 (x4 - 1)) fun s7 =>
    bnd (qR s7 4 l0 6) fun x10 =>
    if l1 ≤ 0 then
      fX4_makeTrue_36  l0 l1 l2 (-1) (zab l1) x10 s7
    else
      fX4_makeTrue_36  l0 l1 l2 1 (zab l1) x10 s7
  else
    gd ((0 : Int32) = 0 ∨ 0 = 1) (some (0, s))
set_option maxRecDepth 100000 in
set_option maxHeartbeats 4000000 in
theorem okX4_makeTrue {E : zE} {l0 : Nat} {l1 : Int32} {l2 : Int32} {s : zS} {q : Int32 × zS} (h : fX4_makeTrue l0 l1 l2 s = some q) : Ci E mX4_makeTrue [.ref l0, .int l1, .int l2] s q.1 q.2 := by
  refine Ct.of (ls := [(0, .ref l0), (1, .int l1), (2, .int l2)]) (by decide) rfl (Nat.le_of_ble_eq_true rfl) ?_
  show Z E mX4_makeTrue 0 [(0, .ref l0), (1, .int l1), (2, .int l2)] [] s (0, 0) (zRi E mX4_makeTrue q.1 q.2)
  unfold fX4_makeTrue at h
  refine z_aload_n (pc := 0) 0 rfl dX4_makeTrue_0 rfl ?_
  obtain ⟨a2, x1, e3, h⟩ := iI h
  refine y_getI (pc := 1) flRX4_66 dX4_makeTrue_1 rfl a2 e3 ?_
  refine z_if_gt (pc := 4) (tgt := 9) dX4_makeTrue_4 (by decide) (fun hc => ?_) (fun hc => ?_)
  · replace h := ifp hc h
    refine z_aload_n (pc := 9) 0 rfl dX4_makeTrue_9 rfl ?_
    refine z_dup (pc := 10) dX4_makeTrue_10 (fun _ => rfl) ?_
    obtain ⟨a5, x4, e6, h⟩ := iI h
    refine y_getI (pc := 11) flRX4_66 dX4_makeTrue_11 rfl a5 e6 ?_
    refine z_iconst (pc := 14) (v := 1) dX4_makeTrue_14 (by decide) ?_
    refine z_isub (pc := 15) dX4_makeTrue_15 ?_
    obtain ⟨a8, s7, e9, h⟩ := jI h
    refine y_putI (pc := 16) flRX4_66 dX4_makeTrue_16 rfl (Or.inl rfl) a8 e9 ?_
    refine z_aload_n (pc := 19) 0 rfl dX4_makeTrue_19 rfl ?_
    obtain ⟨a11, x10, e12, h⟩ := iR h
    refine y_getR (pc := 20) flRX4_32 dX4_makeTrue_20 rfl a11 e12 ?_
    refine z_iload_n (pc := 23) 1 rfl dX4_makeTrue_23 rfl ?_
    refine z_abs (pc := 24) mlRX4_132 ma_st_abs ma_in ma_co_abs dX4_makeTrue_24 (Nat.le_of_ble_eq_true rfl) (Nat.le_of_ble_eq_true rfl) (fun _ => Nat.le_of_ble_eq_true rfl) ?_
    refine z_iload_n (pc := 27) 1 rfl dX4_makeTrue_27 rfl ?_
    refine z_if_le (pc := 28) (tgt := 35) dX4_makeTrue_28 (by decide) (fun hc => ?_) (fun hc => ?_)
    · replace h := ifp hc h
      refine z_iconst (pc := 35) (v := (-1)) dX4_makeTrue_35 (by decide) ?_
      exact z_sub [0, 1, 2] rfl (bX4_makeTrue_36  h)
    · replace h := ifn hc h
      refine z_iconst (pc := 31) (v := 1) dX4_makeTrue_31 (by decide) ?_
      refine z_goto (pc := 32) (tgt := 36) dX4_makeTrue_32 (by decide) ?_
      exact z_sub [0, 1, 2] rfl (bX4_makeTrue_36  h)
  · replace h := ifn hc h
    refine z_iconst (pc := 7) (v := 0) dX4_makeTrue_7 (by decide) ?_
    exact y_zret (pc := 8) dX4_makeTrue_8 rfl h
def fX4_openLiteral_11  (n : Nat) : Nat → Int32 → Int32 → Int32 → zS → Option (Int32 × zS) := match n with
  | 0 => fun _ _ _ _ _ => none
  | n + 1 => fun l0 l1 l2 l3 s =>
    if l2 ≤ l3 then
      some (0, s)
    else
      bnd (qR s 4 l0 0) fun x7 =>
      bnd (cl s 1 x7 (fX1_literal x7 l1 l3 s)) fun q10 =>
      bnd (cl q10.2 4 l0 (fX4_truthOf l0 q10.1 q10.2)) fun q13 =>
      if q13.1 = 0 then
        some (q10.1, q13.2)
      else
        (fX4_openLiteral_11  n) l0 l1 l2 (l3 + 1) q13.2
set_option maxRecDepth 100000 in
set_option maxHeartbeats 4000000 in
theorem bX4_openLiteral_11 {E : zE}  : ∀ (n : Nat) {l0 : Nat} {l1 : Int32} {l2 : Int32} {l3 : Int32} {s : zS} {q : Int32 × zS}, fX4_openLiteral_11  n l0 l1 l2 l3 s = some q → Z E mX4_openLiteral 11 [(0, .ref l0), (1, .int l1), (2, .int l2), (3, .int l3)] [] s (0, 0) (zRi E mX4_openLiteral q.1 q.2) := by
  intro n
  induction n with
  | zero => intro l0 l1 l2 l3 s q h; cases h
  | succ n ih =>
    intro l0 l1 l2 l3 s q h
    unfold fX4_openLiteral_11 at h
    refine z_iload_n (pc := 11) 3 rfl dX4_openLiteral_11 rfl ?_
    refine z_iload_n (pc := 12) 2 rfl dX4_openLiteral_12 rfl ?_
    refine z_icmp_ge (pc := 13) (tgt := 45) dX4_openLiteral_13 (by decide) (fun hc => ?_) (fun hc => ?_)
    · replace h := ifp hc h
      refine z_iconst (pc := 45) (v := 0) dX4_openLiteral_45 (by decide) ?_
      exact y_iret (pc := 46) dX4_openLiteral_46 rfl h
    · replace h := ifn hc h
      refine z_aload_n (pc := 16) 0 rfl dX4_openLiteral_16 rfl ?_
      obtain ⟨a8, x7, e9, h⟩ := iR h
      refine y_getR (pc := 17) flRX4_69 dX4_openLiteral_17 rfl a8 e9 ?_
      refine z_iload_n (pc := 20) 1 rfl dX4_openLiteral_20 rfl ?_
      refine z_iload_n (pc := 21) 3 rfl dX4_openLiteral_21 rfl ?_
      obtain ⟨a11, q10, e12, h⟩ := iC h
      refine y_Vi (pc := 22) (M2 := mX1_literal) (As := [.int l1, .int l3]) (okX1_literal e12) mvX1_literal mlRX4_105 dX4_openLiteral_22 ⟨by decide, by decide⟩ rfl rfl rfl zrest0 a11 ?_
      refine z_istore (pc := 25) (ls' := [(4, .int q10.1), (0, .ref l0), (1, .int l1), (2, .int l2), (3, .int l3)]) dX4_openLiteral_25 (by decide) (fun _ => rfl) ?_
      refine z_aload_n (pc := 27) 1 rfl dX4_openLiteral_27 rfl ?_
      refine z_iload (pc := 28) 0 rfl dX4_openLiteral_28 ?_
      obtain ⟨a14, q13, e15, h⟩ := iC h
      refine y_Vi (pc := 30) (M2 := mX4_truthOf) (As := [.int q10.1]) (okX4_truthOf e15) mvX4_truthOf mlRX4_109 dX4_openLiteral_30 ⟨by decide, by decide⟩ rfl rfl rfl zrest0 a14 ?_
      refine z_if_ne (pc := 33) (tgt := 39) dX4_openLiteral_33 (by decide) (fun hc => ?_) (fun hc => ?_)
      · replace h := ifn hc h
        refine z_iinc (pc := 39) (v := (l3 + 1)) (ls' := [(3, .int (l3 + 1)), (4, .int q10.1), (0, .ref l0), (1, .int l1), (2, .int l2)]) 4 rfl rfl dX4_openLiteral_39 (by decide) (fun _ => rfl) ?_
        refine z_goto (pc := 42) (tgt := 11) dX4_openLiteral_42 (by decide) ?_
        exact z_sub [2, 3, 4, 0] rfl (ih h)
      · replace h := ifp hc h
        refine z_iload (pc := 36) 0 rfl dX4_openLiteral_36 ?_
        exact y_iret (pc := 38) dX4_openLiteral_38 rfl h
def fX4_openLiteral (l0 : Nat) (l1 : Int32) (s : zS) : Option (Int32 × zS) :=
  bnd (qR s 4 l0 0) fun x1 =>
  bnd (cl s 1 x1 (fX1_size x1 l1 s)) fun q4 =>
  fX4_openLiteral_11  zfu l0 l1 q4.1 0 q4.2
set_option maxRecDepth 100000 in
set_option maxHeartbeats 4000000 in
theorem okX4_openLiteral {E : zE} {l0 : Nat} {l1 : Int32} {s : zS} {q : Int32 × zS} (h : fX4_openLiteral l0 l1 s = some q) : Ci E mX4_openLiteral [.ref l0, .int l1] s q.1 q.2 := by
  refine Ct.of (ls := [(0, .ref l0), (1, .int l1)]) (by decide) rfl (Nat.le_of_ble_eq_true rfl) ?_
  show Z E mX4_openLiteral 0 [(0, .ref l0), (1, .int l1)] [] s (0, 0) (zRi E mX4_openLiteral q.1 q.2)
  unfold fX4_openLiteral at h
  refine z_aload_n (pc := 0) 0 rfl dX4_openLiteral_0 rfl ?_
  obtain ⟨a2, x1, e3, h⟩ := iR h
  refine y_getR (pc := 1) flRX4_69 dX4_openLiteral_1 rfl a2 e3 ?_
  refine z_iload_n (pc := 4) 1 rfl dX4_openLiteral_4 rfl ?_
  obtain ⟨a5, q4, e6, h⟩ := iC h
  refine y_Vi (pc := 5) (M2 := mX1_size) (As := [.int l1]) (okX1_size e6) mvX1_size mlRX4_92 dX4_openLiteral_5 ⟨by decide, by decide⟩ rfl rfl rfl zrest0 a5 ?_
  refine z_istore_n (pc := 8) (ls' := [(2, .int q4.1), (0, .ref l0), (1, .int l1)]) dX4_openLiteral_8 rfl (by decide) (fun _ => rfl) ?_
  refine z_iconst (pc := 9) (v := 0) dX4_openLiteral_9 (by decide) ?_
  refine z_istore_n (pc := 10) (ls' := [(3, .int 0), (2, .int q4.1), (0, .ref l0), (1, .int l1)]) dX4_openLiteral_10 rfl (by decide) (fun _ => rfl) ?_
  exact z_sub [2, 3, 1, 0] rfl (bX4_openLiteral_11  _ h)
def fJ6_bitCount_0f7a4 (l0 : Int32) (s : zS) : Option (Int32 × zS) :=
  some (((((((((l0 - ((zushr l0 1) &&& 1431655765)) &&& 858993459) + ((zushr (l0 - ((zushr l0 1) &&& 1431655765)) 2) &&& 858993459)) + (zushr (((l0 - ((zushr l0 1) &&& 1431655765)) &&& 858993459) + ((zushr (l0 - ((zushr l0 1) &&& 1431655765)) 2) &&& 858993459)) 4)) &&& 252645135) + (zushr (((((l0 - ((zushr l0 1) &&& 1431655765)) &&& 858993459) + ((zushr (l0 - ((zushr l0 1) &&& 1431655765)) 2) &&& 858993459)) + (zushr (((l0 - ((zushr l0 1) &&& 1431655765)) &&& 858993459) + ((zushr (l0 - ((zushr l0 1) &&& 1431655765)) 2) &&& 858993459)) 4)) &&& 252645135) 8)) + (zushr ((((((l0 - ((zushr l0 1) &&& 1431655765)) &&& 858993459) + ((zushr (l0 - ((zushr l0 1) &&& 1431655765)) 2) &&& 858993459)) + (zushr (((l0 - ((zushr l0 1) &&& 1431655765)) &&& 858993459) + ((zushr (l0 - ((zushr l0 1) &&& 1431655765)) 2) &&& 858993459)) 4)) &&& 252645135) + (zushr (((((l0 - ((zushr l0 1) &&& 1431655765)) &&& 858993459) + ((zushr (l0 - ((zushr l0 1) &&& 1431655765)) 2) &&& 858993459)) + (zushr (((l0 - ((zushr l0 1) &&& 1431655765)) &&& 858993459) + ((zushr (l0 - ((zushr l0 1) &&& 1431655765)) 2) &&& 858993459)) 4)) &&& 252645135) 8)) 16)) &&& 63), s)
set_option maxRecDepth 100000 in
set_option maxHeartbeats 4000000 in
theorem okJ6_bitCount_0f7a4 {E : zE} {l0 : Int32} {s : zS} {q : Int32 × zS} (h : fJ6_bitCount_0f7a4 l0 s = some q) : Ci E mJ6_bitCount_0f7a4 [.int l0] s q.1 q.2 := by
  refine Ct.of (ls := [(0, .int l0)]) (by decide) rfl (Nat.le_of_ble_eq_true rfl) ?_
  show Z E mJ6_bitCount_0f7a4 0 [(0, .int l0)] [] s (0, 0) (zRi E mJ6_bitCount_0f7a4 q.1 q.2)
  unfold fJ6_bitCount_0f7a4 at h
  refine z_iload_n (pc := 0) 0 rfl dJ6_bitCount_0f7a4_0 rfl ?_
  refine z_iload_n (pc := 1) 0 rfl dJ6_bitCount_0f7a4_1 rfl ?_
  refine z_iconst (pc := 2) (v := 1) dJ6_bitCount_0f7a4_2 (by decide) ?_
  refine z_iushr (pc := 3) dJ6_bitCount_0f7a4_3 ?_
  refine z_ldcw (pc := 4) ctRJ6_265 dJ6_bitCount_0f7a4_4 ?_
  refine z_iand (pc := 7) dJ6_bitCount_0f7a4_7 ?_
  refine z_isub (pc := 8) dJ6_bitCount_0f7a4_8 ?_
  refine z_istore_n (pc := 9) (ls' := [(0, .int (l0 - ((zushr l0 1) &&& 1431655765)))]) dJ6_bitCount_0f7a4_9 rfl (by decide) (fun _ => rfl) ?_
  refine z_iload_n (pc := 10) 0 rfl dJ6_bitCount_0f7a4_10 rfl ?_
  refine z_ldcw (pc := 11) ctRJ6_266 dJ6_bitCount_0f7a4_11 ?_
  refine z_iand (pc := 14) dJ6_bitCount_0f7a4_14 ?_
  refine z_iload_n (pc := 15) 0 rfl dJ6_bitCount_0f7a4_15 rfl ?_
  refine z_iconst (pc := 16) (v := 2) dJ6_bitCount_0f7a4_16 (by decide) ?_
  refine z_iushr (pc := 17) dJ6_bitCount_0f7a4_17 ?_
  refine z_ldcw (pc := 18) ctRJ6_266 dJ6_bitCount_0f7a4_18 ?_
  refine z_iand (pc := 21) dJ6_bitCount_0f7a4_21 ?_
  refine z_iadd (pc := 22) dJ6_bitCount_0f7a4_22 ?_
  refine z_istore_n (pc := 23) (ls' := [(0, .int (((l0 - ((zushr l0 1) &&& 1431655765)) &&& 858993459) + ((zushr (l0 - ((zushr l0 1) &&& 1431655765)) 2) &&& 858993459)))]) dJ6_bitCount_0f7a4_23 rfl (by decide) (fun _ => rfl) ?_
  refine z_iload_n (pc := 24) 0 rfl dJ6_bitCount_0f7a4_24 rfl ?_
  refine z_iload_n (pc := 25) 0 rfl dJ6_bitCount_0f7a4_25 rfl ?_
  refine z_iconst (pc := 26) (v := 4) dJ6_bitCount_0f7a4_26 (by decide) ?_
  refine z_iushr (pc := 27) dJ6_bitCount_0f7a4_27 ?_
  refine z_iadd (pc := 28) dJ6_bitCount_0f7a4_28 ?_
  refine z_ldcw (pc := 29) ctRJ6_267 dJ6_bitCount_0f7a4_29 ?_
  refine z_iand (pc := 32) dJ6_bitCount_0f7a4_32 ?_
  refine z_istore_n (pc := 33) (ls' := [(0, .int (((((l0 - ((zushr l0 1) &&& 1431655765)) &&& 858993459) + ((zushr (l0 - ((zushr l0 1) &&& 1431655765)) 2) &&& 858993459)) + (zushr (((l0 - ((zushr l0 1) &&& 1431655765)) &&& 858993459) + ((zushr (l0 - ((zushr l0 1) &&& 1431655765)) 2) &&& 858993459)) 4)) &&& 252645135))]) dJ6_bitCount_0f7a4_33 rfl (by decide) (fun _ => rfl) ?_
  refine z_iload_n (pc := 34) 0 rfl dJ6_bitCount_0f7a4_34 rfl ?_
  refine z_iload_n (pc := 35) 0 rfl dJ6_bitCount_0f7a4_35 rfl ?_
  refine z_bipush (pc := 36) (v := 8) dJ6_bitCount_0f7a4_36 (by decide) ?_
  refine z_iushr (pc := 38) dJ6_bitCount_0f7a4_38 ?_
  refine z_iadd (pc := 39) dJ6_bitCount_0f7a4_39 ?_
  refine z_istore_n (pc := 40) (ls' := [(0, .int ((((((l0 - ((zushr l0 1) &&& 1431655765)) &&& 858993459) + ((zushr (l0 - ((zushr l0 1) &&& 1431655765)) 2) &&& 858993459)) + (zushr (((l0 - ((zushr l0 1) &&& 1431655765)) &&& 858993459) + ((zushr (l0 - ((zushr l0 1) &&& 1431655765)) 2) &&& 858993459)) 4)) &&& 252645135) + (zushr (((((l0 - ((zushr l0 1) &&& 1431655765)) &&& 858993459) + ((zushr (l0 - ((zushr l0 1) &&& 1431655765)) 2) &&& 858993459)) + (zushr (((l0 - ((zushr l0 1) &&& 1431655765)) &&& 858993459) + ((zushr (l0 - ((zushr l0 1) &&& 1431655765)) 2) &&& 858993459)) 4)) &&& 252645135) 8)))]) dJ6_bitCount_0f7a4_40 rfl (by decide) (fun _ => rfl) ?_
  refine z_iload_n (pc := 41) 0 rfl dJ6_bitCount_0f7a4_41 rfl ?_
  refine z_iload_n (pc := 42) 0 rfl dJ6_bitCount_0f7a4_42 rfl ?_
  refine z_bipush (pc := 43) (v := 16) dJ6_bitCount_0f7a4_43 (by decide) ?_
  refine z_iushr (pc := 45) dJ6_bitCount_0f7a4_45 ?_
  refine z_iadd (pc := 46) dJ6_bitCount_0f7a4_46 ?_
  refine z_istore_n (pc := 47) (ls' := [(0, .int (((((((l0 - ((zushr l0 1) &&& 1431655765)) &&& 858993459) + ((zushr (l0 - ((zushr l0 1) &&& 1431655765)) 2) &&& 858993459)) + (zushr (((l0 - ((zushr l0 1) &&& 1431655765)) &&& 858993459) + ((zushr (l0 - ((zushr l0 1) &&& 1431655765)) 2) &&& 858993459)) 4)) &&& 252645135) + (zushr (((((l0 - ((zushr l0 1) &&& 1431655765)) &&& 858993459) + ((zushr (l0 - ((zushr l0 1) &&& 1431655765)) 2) &&& 858993459)) + (zushr (((l0 - ((zushr l0 1) &&& 1431655765)) &&& 858993459) + ((zushr (l0 - ((zushr l0 1) &&& 1431655765)) 2) &&& 858993459)) 4)) &&& 252645135) 8)) + (zushr ((((((l0 - ((zushr l0 1) &&& 1431655765)) &&& 858993459) + ((zushr (l0 - ((zushr l0 1) &&& 1431655765)) 2) &&& 858993459)) + (zushr (((l0 - ((zushr l0 1) &&& 1431655765)) &&& 858993459) + ((zushr (l0 - ((zushr l0 1) &&& 1431655765)) 2) &&& 858993459)) 4)) &&& 252645135) + (zushr (((((l0 - ((zushr l0 1) &&& 1431655765)) &&& 858993459) + ((zushr (l0 - ((zushr l0 1) &&& 1431655765)) 2) &&& 858993459)) + (zushr (((l0 - ((zushr l0 1) &&& 1431655765)) &&& 858993459) + ((zushr (l0 - ((zushr l0 1) &&& 1431655765)) 2) &&& 858993459)) 4)) &&& 252645135) 8)) 16)))]) dJ6_bitCount_0f7a4_47 rfl (by decide) (fun _ => rfl) ?_
  refine z_iload_n (pc := 48) 0 rfl dJ6_bitCount_0f7a4_48 rfl ?_
  refine z_bipush (pc := 49) (v := 63) dJ6_bitCount_0f7a4_49 (by decide) ?_
  refine z_iand (pc := 51) dJ6_bitCount_0f7a4_51 ?_
  exact y_iret (pc := 52) dJ6_bitCount_0f7a4_52 rfl h
def fX4_takeFirstReady_2  (n : Nat) : Nat → Int32 → zS → Option (Int32 × zS) := match n with
  | 0 => fun _ _ _ => none
  | n + 1 => fun l0 l1 s =>
    if 38 ≤ l1 then
      some (0, s)
    else
      bnd (qR s 4 l0 5) fun x1 =>
      bnd (cl s 6 x1 (fX6_at x1 l1 s)) fun q4 =>
      if q4.1 = 0 then
        (fX4_takeFirstReady_2  n) l0 (l1 + 1) q4.2
      else
        bnd (qR q4.2 4 l0 5) fun x7 =>
        bnd (cl q4.2 6 x7 (fX6_put x7 l1 (q4.1 ^^^ (q4.1 &&& (-q4.1))) q4.2)) fun q10 =>
        bnd (fJ6_bitCount_0f7a4 ((q4.1 &&& (-q4.1)) - 1) q10) fun q13 =>
        if ((l1 * 32) + q13.1) < 608 then
          some (((l1 * 32) + q13.1), q13.2)
        else
          some ((((l1 * 32) + q13.1) - 608), q13.2)
set_option maxRecDepth 100000 in
set_option maxHeartbeats 4000000 in
theorem bX4_takeFirstReady_2 {E : zE}  : ∀ (n : Nat) {l0 : Nat} {l1 : Int32} {s : zS} {q : Int32 × zS}, fX4_takeFirstReady_2  n l0 l1 s = some q → Z E mX4_takeFirstReady 2 [(0, .ref l0), (1, .int l1)] [] s (0, 0) (zRi E mX4_takeFirstReady q.1 q.2) := by
  intro n
  induction n with
  | zero => intro l0 l1 s q h; cases h
  | succ n ih =>
    intro l0 l1 s q h
    unfold fX4_takeFirstReady_2 at h
    refine z_iload_n (pc := 2) 1 rfl dX4_takeFirstReady_2 rfl ?_
    refine z_bipush (pc := 3) (v := 38) dX4_takeFirstReady_3 (by decide) ?_
    refine z_icmp_ge (pc := 5) (tgt := 76) dX4_takeFirstReady_5 (by decide) (fun hc => ?_) (fun hc => ?_)
    · replace h := ifp hc h
      refine z_iconst (pc := 76) (v := 0) dX4_takeFirstReady_76 (by decide) ?_
      exact y_iret (pc := 77) dX4_takeFirstReady_77 rfl h
    · replace h := ifn hc h
      refine z_aload_n (pc := 8) 0 rfl dX4_takeFirstReady_8 rfl ?_
      obtain ⟨a2, x1, e3, h⟩ := iR h
      refine y_getR (pc := 9) flRX4_29 dX4_takeFirstReady_9 rfl a2 e3 ?_
      refine z_iload_n (pc := 12) 1 rfl dX4_takeFirstReady_12 rfl ?_
      obtain ⟨a5, q4, e6, h⟩ := iC h
      refine y_Vi (pc := 13) (M2 := mX6_at) (As := [.int l1]) (okX6_at e6) mvX6_at mlRX4_96 dX4_takeFirstReady_13 ⟨by decide, by decide⟩ rfl rfl rfl zrest0 a5 ?_
      refine z_istore_n (pc := 16) (ls' := [(2, .int q4.1), (0, .ref l0), (1, .int l1)]) dX4_takeFirstReady_16 rfl (by decide) (fun _ => rfl) ?_
      refine z_iload_n (pc := 17) 0 rfl dX4_takeFirstReady_17 rfl ?_
      refine z_if_eq (pc := 18) (tgt := 70) dX4_takeFirstReady_18 (by decide) (fun hc => ?_) (fun hc => ?_)
      · replace h := ifp hc h
        refine z_iinc (pc := 70) (v := (l1 + 1)) (ls' := [(1, .int (l1 + 1)), (2, .int q4.1), (0, .ref l0)]) 2 rfl rfl dX4_takeFirstReady_70 (by decide) (fun _ => rfl) ?_
        refine z_goto (pc := 73) (tgt := 2) dX4_takeFirstReady_73 (by decide) ?_
        exact z_sub [2, 0] rfl (ih h)
      · replace h := ifn hc h
        refine z_iload_n (pc := 21) 0 rfl dX4_takeFirstReady_21 rfl ?_
        refine z_iload_n (pc := 22) 0 rfl dX4_takeFirstReady_22 rfl ?_
        refine z_ineg (pc := 23) dX4_takeFirstReady_23 ?_
        refine z_iand (pc := 24) dX4_takeFirstReady_24 ?_
        refine z_istore_n (pc := 25) (ls' := [(3, .int (q4.1 &&& (-q4.1))), (2, .int q4.1), (0, .ref l0), (1, .int l1)]) dX4_takeFirstReady_25 rfl (by decide) (fun _ => rfl) ?_
        refine z_aload_n (pc := 26) 2 rfl dX4_takeFirstReady_26 rfl ?_
        obtain ⟨a8, x7, e9, h⟩ := iR h
        refine y_getR (pc := 27) flRX4_29 dX4_takeFirstReady_27 rfl a8 e9 ?_
        refine z_iload_n (pc := 30) 3 rfl dX4_takeFirstReady_30 rfl ?_
        refine z_iload_n (pc := 31) 1 rfl dX4_takeFirstReady_31 rfl ?_
        refine z_iload_n (pc := 32) 0 rfl dX4_takeFirstReady_32 rfl ?_
        refine z_ixor (pc := 33) dX4_takeFirstReady_33 ?_
        obtain ⟨a11, q10, e12, h⟩ := iC h
        refine y_V (pc := 34) (M2 := mX6_put) (As := [.int l1, .int (q4.1 ^^^ (q4.1 &&& (-q4.1)))]) (okX6_put e12) mvX6_put mlRX4_88 dX4_takeFirstReady_34 ⟨by decide, by decide⟩ rfl rfl rfl zrest0 a11 ?_
        refine z_iload_n (pc := 37) 3 rfl dX4_takeFirstReady_37 rfl ?_
        refine z_bipush (pc := 38) (v := 32) dX4_takeFirstReady_38 (by decide) ?_
        refine z_imul (pc := 40) dX4_takeFirstReady_40 ?_
        refine z_iload_n (pc := 41) 0 rfl dX4_takeFirstReady_41 rfl ?_
        refine z_iconst (pc := 42) (v := 1) dX4_takeFirstReady_42 (by decide) ?_
        refine z_isub (pc := 43) dX4_takeFirstReady_43 ?_
        obtain ⟨q13, e15, h⟩ := bnd_i h
        refine y_Si (pc := 44) (M2 := mJ6_bitCount_0f7a4) (As := [.int ((q4.1 &&& (-q4.1)) - 1)]) (okJ6_bitCount_0f7a4 e15) mqJ6_bitCount_0f7a4 msJ6_bitCount_0f7a4 mlRX4_146 dX4_takeFirstReady_44 ⟨by decide, by decide⟩ rfl rfl rfl (fun _ => Nat.le_of_ble_eq_true rfl) ?_
        refine z_iadd (pc := 47) dX4_takeFirstReady_47 ?_
        refine z_istore (pc := 48) (ls' := [(4, .int ((l1 * 32) + q13.1)), (3, .int (q4.1 &&& (-q4.1))), (2, .int q4.1), (0, .ref l0), (1, .int l1)]) dX4_takeFirstReady_48 (by decide) (fun _ => rfl) ?_
        refine z_iload (pc := 50) 0 rfl dX4_takeFirstReady_50 ?_
        refine z_sipush (pc := 52) (v := 608) dX4_takeFirstReady_52 (by decide) ?_
        refine z_icmp_lt (pc := 55) (tgt := 67) dX4_takeFirstReady_55 (by decide) (fun hc => ?_) (fun hc => ?_)
        · replace h := ifp hc h
          refine z_iload (pc := 67) 0 rfl dX4_takeFirstReady_67 ?_
          exact y_iret (pc := 69) dX4_takeFirstReady_69 rfl h
        · replace h := ifn hc h
          refine z_iload (pc := 58) 0 rfl dX4_takeFirstReady_58 ?_
          refine z_sipush (pc := 60) (v := 608) dX4_takeFirstReady_60 (by decide) ?_
          refine z_isub (pc := 63) dX4_takeFirstReady_63 ?_
          refine z_goto (pc := 64) (tgt := 69) dX4_takeFirstReady_64 (by decide) ?_
          exact y_iret (pc := 69) dX4_takeFirstReady_69 rfl h
def fX4_takeFirstReady (l0 : Nat) (s : zS) : Option (Int32 × zS) :=
  fX4_takeFirstReady_2  zfu l0 0 s
set_option maxRecDepth 100000 in
set_option maxHeartbeats 4000000 in
theorem okX4_takeFirstReady {E : zE} {l0 : Nat} {s : zS} {q : Int32 × zS} (h : fX4_takeFirstReady l0 s = some q) : Ci E mX4_takeFirstReady [.ref l0] s q.1 q.2 := by
  refine Ct.of (ls := [(0, .ref l0)]) (by decide) rfl (Nat.le_of_ble_eq_true rfl) ?_
  show Z E mX4_takeFirstReady 0 [(0, .ref l0)] [] s (0, 0) (zRi E mX4_takeFirstReady q.1 q.2)
  unfold fX4_takeFirstReady at h
  refine z_iconst (pc := 0) (v := 0) dX4_takeFirstReady_0 (by decide) ?_
  refine z_istore_n (pc := 1) (ls' := [(1, .int 0), (0, .ref l0)]) dX4_takeFirstReady_1 rfl (by decide) (fun _ => rfl) ?_
  exact z_sub [1, 0] rfl (bX4_takeFirstReady_2  _ h)
def fX4_run_108 (k54 : Nat → Int32 → zS → Option (Int32 × zS)) (l0 : Nat) (l1 : Int32) (s : zS) : Option (Int32 × zS) :=
  k54 l0 (l1 + 1) s
set_option maxRecDepth 100000 in
set_option maxHeartbeats 4000000 in
theorem bX4_run_108 {E : zE} {k54 : Nat → Int32 → zS → Option (Int32 × zS)} (hk54 : ∀ {l0 : Nat} {l1 : Int32} {s : zS} {q : Int32 × zS}, k54 l0 l1 s = some q → Z E mX4_run 54 [(0, .ref l0), (1, .int l1)] [] s (0, 0) (zRi E mX4_run q.1 q.2)) {l0 : Nat} {l1 : Int32} {s : zS} {q : Int32 × zS} (h : fX4_run_108 k54 l0 l1 s = some q) : Z E mX4_run 108 [(0, .ref l0), (1, .int l1)] [] s (0, 0) (zRi E mX4_run q.1 q.2) := by
  unfold fX4_run_108 at h
  refine z_iinc (pc := 108) (v := (l1 + 1)) (ls' := [(1, .int (l1 + 1)), (0, .ref l0)]) 1 rfl rfl dX4_run_108 (by decide) (fun _ => rfl) ?_
  refine z_goto (pc := 111) (tgt := 54) dX4_run_111 (by decide) ?_
  exact z_sub [1, 0] rfl (hk54 h)
def fX4_run_54  (n : Nat) : Nat → Int32 → zS → Option (Int32 × zS) := match n with
  | 0 => fun _ _ _ => none
  | n + 1 => fun l0 l1 s =>
    if 600 < l1 then
      some (0, s)
    else
      bnd (cl s 4 l0 (fX4_takeFirstReady l0  s)) fun q4 =>
      if q4.1 = 0 then
        some (0, q4.2)
      else
        bnd (cl q4.2 4 l0 (fX4_isSatisfied l0 q4.1 q4.2)) fun q7 =>
        if q7.1 = 0 then
          bnd (cl q7.2 4 l0 (fX4_openLiteral l0 q4.1 q7.2)) fun q10 =>
          if q10.1 = 0 then
            bnd (wI q10.2 4 l0 16 q4.1) fun s16 =>
            some (1, s16)
          else
            bnd (cl q10.2 4 l0 (fX4_makeTrue l0 q10.1 q4.1 q10.2)) fun q13 =>
            if q13.1 = 0 then
              some (2, q13.2)
            else
              fX4_run_108 ((fX4_run_54  n)) l0 l1 q13.2
        else
          fX4_run_108 ((fX4_run_54  n)) l0 l1 q7.2
set_option maxRecDepth 100000 in
set_option maxHeartbeats 4000000 in
theorem bX4_run_54 {E : zE}  : ∀ (n : Nat) {l0 : Nat} {l1 : Int32} {s : zS} {q : Int32 × zS}, fX4_run_54  n l0 l1 s = some q → Z E mX4_run 54 [(0, .ref l0), (1, .int l1)] [] s (0, 0) (zRi E mX4_run q.1 q.2) := by
  intro n
  induction n with
  | zero => intro l0 l1 s q h; cases h
  | succ n ih =>
    intro l0 l1 s q h
    unfold fX4_run_54 at h
    refine z_iload_n (pc := 54) 1 rfl dX4_run_54 rfl ?_
    refine z_sipush (pc := 55) (v := 600) dX4_run_55 (by decide) ?_
    refine z_icmp_gt (pc := 58) (tgt := 114) dX4_run_58 (by decide) (fun hc => ?_) (fun hc => ?_)
    · replace h := ifp hc h
      refine z_iconst (pc := 114) (v := 0) dX4_run_114 (by decide) ?_
      exact y_iret (pc := 115) dX4_run_115 rfl h
    · replace h := ifn hc h
      refine z_aload_n (pc := 61) 0 rfl dX4_run_61 rfl ?_
      obtain ⟨a5, q4, e6, h⟩ := iC h
      refine y_Vi (pc := 62) (M2 := mX4_takeFirstReady) (As := []) (okX4_takeFirstReady e6) mvX4_takeFirstReady mlRX4_116 dX4_run_62 ⟨by decide, by decide⟩ rfl rfl rfl zrest0 a5 ?_
      refine z_istore_n (pc := 65) (ls' := [(2, .int q4.1), (0, .ref l0), (1, .int l1)]) dX4_run_65 rfl (by decide) (fun _ => rfl) ?_
      refine z_iload_n (pc := 66) 0 rfl dX4_run_66 rfl ?_
      refine z_if_ne (pc := 67) (tgt := 72) dX4_run_67 (by decide) (fun hc => ?_) (fun hc => ?_)
      · replace h := ifn hc h
        refine z_aload_n (pc := 72) 1 rfl dX4_run_72 rfl ?_
        refine z_iload_n (pc := 73) 0 rfl dX4_run_73 rfl ?_
        obtain ⟨a8, q7, e9, h⟩ := iC h
        refine y_Vi (pc := 74) (M2 := mX4_isSatisfied) (As := [.int q4.1]) (okX4_isSatisfied e9) mvX4_isSatisfied mlRX4_119 dX4_run_74 ⟨by decide, by decide⟩ rfl rfl rfl zrest0 a8 ?_
        refine z_if_ne (pc := 77) (tgt := 108) dX4_run_77 (by decide) (fun hc => ?_) (fun hc => ?_)
        · replace h := ifn hc h
          exact z_sub [1, 2] rfl (bX4_run_108 (fun h => ih h) h)
        · replace h := ifp hc h
          refine z_aload_n (pc := 80) 1 rfl dX4_run_80 rfl ?_
          refine z_iload_n (pc := 81) 0 rfl dX4_run_81 rfl ?_
          obtain ⟨a11, q10, e12, h⟩ := iC h
          refine y_Vi (pc := 82) (M2 := mX4_openLiteral) (As := [.int q4.1]) (okX4_openLiteral e12) mvX4_openLiteral mlRX4_123 dX4_run_82 ⟨by decide, by decide⟩ rfl rfl rfl zrest0 a11 ?_
          refine z_istore_n (pc := 85) (ls' := [(3, .int q10.1), (2, .int q4.1), (0, .ref l0), (1, .int l1)]) dX4_run_85 rfl (by decide) (fun _ => rfl) ?_
          refine z_iload_n (pc := 86) 0 rfl dX4_run_86 rfl ?_
          refine z_if_ne (pc := 87) (tgt := 97) dX4_run_87 (by decide) (fun hc => ?_) (fun hc => ?_)
          · replace h := ifn hc h
            refine z_aload_n (pc := 97) 2 rfl dX4_run_97 rfl ?_
            refine z_iload_n (pc := 98) 0 rfl dX4_run_98 rfl ?_
            refine z_iload_n (pc := 99) 1 rfl dX4_run_99 rfl ?_
            obtain ⟨a14, q13, e15, h⟩ := iC h
            refine y_Vi (pc := 100) (M2 := mX4_makeTrue) (As := [.int q10.1, .int q4.1]) (okX4_makeTrue e15) mvX4_makeTrue mlRX4_112 dX4_run_100 ⟨by decide, by decide⟩ rfl rfl rfl zrest0 a14 ?_
            refine z_if_ne (pc := 103) (tgt := 108) dX4_run_103 (by decide) (fun hc => ?_) (fun hc => ?_)
            · replace h := ifn hc h
              exact z_sub [2, 3] rfl (bX4_run_108 (fun h => ih h) h)
            · replace h := ifp hc h
              refine z_iconst (pc := 106) (v := 2) dX4_run_106 (by decide) ?_
              exact y_iret (pc := 107) dX4_run_107 rfl h
          · replace h := ifp hc h
            refine z_aload_n (pc := 90) 2 rfl dX4_run_90 rfl ?_
            refine z_iload_n (pc := 91) 1 rfl dX4_run_91 rfl ?_
            obtain ⟨a17, s16, e18, h⟩ := jI h
            refine y_putI (pc := 92) flRX4_63 dX4_run_92 rfl (Or.inl rfl) a17 e18 ?_
            refine z_iconst (pc := 95) (v := 1) dX4_run_95 (by decide) ?_
            exact y_iret (pc := 96) dX4_run_96 rfl h
      · replace h := ifp hc h
        refine z_iconst (pc := 70) (v := 0) dX4_run_70 (by decide) ?_
        exact y_iret (pc := 71) dX4_run_71 rfl h
def fX4_run_46 (k2 : Nat → Int32 → zS → Option (Int32 × zS)) (l0 : Nat) (l1 : Int32) (s : zS) : Option (Int32 × zS) :=
  k2 l0 (l1 + 1) s
set_option maxRecDepth 100000 in
set_option maxHeartbeats 4000000 in
theorem bX4_run_46 {E : zE} {k2 : Nat → Int32 → zS → Option (Int32 × zS)} (hk2 : ∀ {l0 : Nat} {l1 : Int32} {s : zS} {q : Int32 × zS}, k2 l0 l1 s = some q → Z E mX4_run 2 [(0, .ref l0), (1, .int l1)] [] s (0, 0) (zRi E mX4_run q.1 q.2)) {l0 : Nat} {l1 : Int32} {s : zS} {q : Int32 × zS} (h : fX4_run_46 k2 l0 l1 s = some q) : Z E mX4_run 46 [(0, .ref l0), (1, .int l1)] [] s (0, 0) (zRi E mX4_run q.1 q.2) := by
  unfold fX4_run_46 at h
  refine z_iinc (pc := 46) (v := (l1 + 1)) (ls' := [(1, .int (l1 + 1)), (0, .ref l0)]) 1 rfl rfl dX4_run_46 (by decide) (fun _ => rfl) ?_
  refine z_goto (pc := 49) (tgt := 2) dX4_run_49 (by decide) ?_
  exact z_sub [1, 0] rfl (hk2 h)
def fX4_run_2  (n : Nat) : Nat → Int32 → zS → Option (Int32 × zS) := match n with
  | 0 => fun _ _ _ => none
  | n + 1 => fun l0 l1 s =>
    bnd (qI s 4 l0 13) fun x1 =>
    if x1 ≤ l1 then
      fX4_run_54  zfu l0 0 s
    else
      bnd (qR s 4 l0 7) fun x4 =>
      bnd (cl s 6 x4 (fX6_at x4 l1 s)) fun q7 =>
      bnd (cl q7.2 4 l0 (fX4_truthOf l0 q7.1 q7.2)) fun q10 =>
      if 0 ≤ q10.1 then
        if q10.1 = 0 then
          bnd (cl q10.2 4 l0 (fX4_makeTrue l0 q7.1 0 q10.2)) fun q13 =>
          if q13.1 = 0 then
            some (2, q13.2)
          else
            fX4_run_46 ((fX4_run_2  n)) l0 l1 q13.2
        else
          fX4_run_46 ((fX4_run_2  n)) l0 l1 q10.2
      else
        some (1, q10.2)
set_option maxRecDepth 100000 in
set_option maxHeartbeats 4000000 in
theorem bX4_run_2 {E : zE}  : ∀ (n : Nat) {l0 : Nat} {l1 : Int32} {s : zS} {q : Int32 × zS}, fX4_run_2  n l0 l1 s = some q → Z E mX4_run 2 [(0, .ref l0), (1, .int l1)] [] s (0, 0) (zRi E mX4_run q.1 q.2) := by
  intro n
  induction n with
  | zero => intro l0 l1 s q h; cases h
  | succ n ih =>
    intro l0 l1 s q h
    unfold fX4_run_2 at h
    refine z_iload_n (pc := 2) 1 rfl dX4_run_2 rfl ?_
    refine z_aload_n (pc := 3) 0 rfl dX4_run_3 rfl ?_
    obtain ⟨a2, x1, e3, h⟩ := iI h
    refine y_getI (pc := 4) flRX4_54 dX4_run_4 rfl a2 e3 ?_
    refine z_icmp_ge (pc := 7) (tgt := 52) dX4_run_7 (by decide) (fun hc => ?_) (fun hc => ?_)
    · replace h := ifp hc h
      refine z_iconst (pc := 52) (v := 0) dX4_run_52 (by decide) ?_
      refine z_istore_n (pc := 53) (ls' := [(1, .int 0), (0, .ref l0)]) dX4_run_53 rfl (by decide) (fun _ => rfl) ?_
      exact z_sub [1, 0] rfl (bX4_run_54  _ h)
    · replace h := ifn hc h
      refine z_aload_n (pc := 10) 0 rfl dX4_run_10 rfl ?_
      obtain ⟨a5, x4, e6, h⟩ := iR h
      refine y_getR (pc := 11) flRX4_35 dX4_run_11 rfl a5 e6 ?_
      refine z_iload_n (pc := 14) 1 rfl dX4_run_14 rfl ?_
      obtain ⟨a8, q7, e9, h⟩ := iC h
      refine y_Vi (pc := 15) (M2 := mX6_at) (As := [.int l1]) (okX6_at e9) mvX6_at mlRX4_96 dX4_run_15 ⟨by decide, by decide⟩ rfl rfl rfl zrest0 a8 ?_
      refine z_istore_n (pc := 18) (ls' := [(2, .int q7.1), (0, .ref l0), (1, .int l1)]) dX4_run_18 rfl (by decide) (fun _ => rfl) ?_
      refine z_aload_n (pc := 19) 1 rfl dX4_run_19 rfl ?_
      refine z_iload_n (pc := 20) 0 rfl dX4_run_20 rfl ?_
      obtain ⟨a11, q10, e12, h⟩ := iC h
      refine y_Vi (pc := 21) (M2 := mX4_truthOf) (As := [.int q7.1]) (okX4_truthOf e12) mvX4_truthOf mlRX4_109 dX4_run_21 ⟨by decide, by decide⟩ rfl rfl rfl zrest0 a11 ?_
      refine z_istore_n (pc := 24) (ls' := [(3, .int q10.1), (2, .int q7.1), (0, .ref l0), (1, .int l1)]) dX4_run_24 rfl (by decide) (fun _ => rfl) ?_
      refine z_iload_n (pc := 25) 0 rfl dX4_run_25 rfl ?_
      refine z_if_ge (pc := 26) (tgt := 31) dX4_run_26 (by decide) (fun hc => ?_) (fun hc => ?_)
      · replace h := ifp hc h
        refine z_iload_n (pc := 31) 0 rfl dX4_run_31 rfl ?_
        refine z_if_ne (pc := 32) (tgt := 46) dX4_run_32 (by decide) (fun hc => ?_) (fun hc => ?_)
        · replace h := ifn hc h
          exact z_sub [2, 3] rfl (bX4_run_46 (fun h => ih h) h)
        · replace h := ifp hc h
          refine z_aload_n (pc := 35) 2 rfl dX4_run_35 rfl ?_
          refine z_iload_n (pc := 36) 1 rfl dX4_run_36 rfl ?_
          refine z_iconst (pc := 37) (v := 0) dX4_run_37 (by decide) ?_
          obtain ⟨a14, q13, e15, h⟩ := iC h
          refine y_Vi (pc := 38) (M2 := mX4_makeTrue) (As := [.int q7.1, .int 0]) (okX4_makeTrue e15) mvX4_makeTrue mlRX4_112 dX4_run_38 ⟨by decide, by decide⟩ rfl rfl rfl zrest0 a14 ?_
          refine z_if_ne (pc := 41) (tgt := 46) dX4_run_41 (by decide) (fun hc => ?_) (fun hc => ?_)
          · replace h := ifn hc h
            exact z_sub [2, 3] rfl (bX4_run_46 (fun h => ih h) h)
          · replace h := ifp hc h
            refine z_iconst (pc := 44) (v := 2) dX4_run_44 (by decide) ?_
            exact y_iret (pc := 45) dX4_run_45 rfl h
      · replace h := ifn hc h
        refine z_iconst (pc := 29) (v := 1) dX4_run_29 (by decide) ?_
        exact y_iret (pc := 30) dX4_run_30 rfl h
def fX4_run (l0 : Nat) (s : zS) : Option (Int32 × zS) :=
  fX4_run_2  zfu l0 0 s
set_option maxRecDepth 100000 in
set_option maxHeartbeats 4000000 in
theorem okX4_run {E : zE} {l0 : Nat} {s : zS} {q : Int32 × zS} (h : fX4_run l0 s = some q) : Ci E mX4_run [.ref l0] s q.1 q.2 := by
  refine Ct.of (ls := [(0, .ref l0)]) (by decide) rfl (Nat.le_of_ble_eq_true rfl) ?_
  show Z E mX4_run 0 [(0, .ref l0)] [] s (0, 0) (zRi E mX4_run q.1 q.2)
  unfold fX4_run at h
  refine z_iconst (pc := 0) (v := 0) dX4_run_0 (by decide) ?_
  refine z_istore_n (pc := 1) (ls' := [(1, .int 0), (0, .ref l0)]) dX4_run_1 rfl (by decide) (fun _ => rfl) ?_
  exact z_sub [1, 0] rfl (bX4_run_2  _ h)
def fX3_weighPartners_135 (k30 : Nat → Int32 → Int32 → Int32 → Int32 → zS → Option (Int32 × zS)) (l0 : Nat) (l1 : Int32) (l2 : Int32) (l3 : Int32) (l4 : Int32) (s : zS) : Option (Int32 × zS) :=
  k30 l0 l1 l2 l3 (l4 + 1) s
set_option maxRecDepth 100000 in
set_option maxHeartbeats 4000000 in
theorem bX3_weighPartners_135 {E : zE} {k30 : Nat → Int32 → Int32 → Int32 → Int32 → zS → Option (Int32 × zS)} (hk30 : ∀ {l0 : Nat} {l1 : Int32} {l2 : Int32} {l3 : Int32} {l4 : Int32} {s : zS} {q : Int32 × zS}, k30 l0 l1 l2 l3 l4 s = some q → Z E mX3_weighPartners 30 [(0, .ref l0), (1, .int l1), (2, .int l2), (3, .int l3), (4, .int l4)] [] s (0, 0) (zRi E mX3_weighPartners q.1 q.2)) {l0 : Nat} {l1 : Int32} {l2 : Int32} {l3 : Int32} {l4 : Int32} {s : zS} {q : Int32 × zS} (h : fX3_weighPartners_135 k30 l0 l1 l2 l3 l4 s = some q) : Z E mX3_weighPartners 135 [(0, .ref l0), (1, .int l1), (2, .int l2), (3, .int l3), (4, .int l4)] [] s (0, 0) (zRi E mX3_weighPartners q.1 q.2) := by
  unfold fX3_weighPartners_135 at h
  refine z_iinc (pc := 135) (v := (l4 + 1)) (ls' := [(4, .int (l4 + 1)), (0, .ref l0), (1, .int l1), (2, .int l2), (3, .int l3)]) 4 rfl rfl dX3_weighPartners_135 (by decide) (fun _ => rfl) ?_
  refine z_goto (pc := 138) (tgt := 30) dX3_weighPartners_138 (by decide) ?_
  exact z_sub [1, 2, 3, 4, 0] rfl (hk30 h)
def fX3_weighPartners_30  (n : Nat) : Nat → Int32 → Int32 → Int32 → Int32 → zS → Option (Int32 × zS) := match n with
  | 0 => fun _ _ _ _ _ _ => none
  | n + 1 => fun l0 l1 l2 l3 l4 s =>
    if l3 ≤ l4 then
      some (1, s)
    else
      bnd (qR s 3 l0 0) fun x19 =>
      bnd (cl s 1 x19 (fX1_user x19 l4 s)) fun q22 =>
      bnd (qR q22.2 3 l0 1) fun x25 =>
      bnd (cl q22.2 4 x25 (fX4_isActive x25 q22.1 q22.2)) fun q28 =>
      if q28.1 = 0 then
        fX3_weighPartners_135 ((fX3_weighPartners_30  n)) l0 l1 l2 l3 l4 q28.2
      else
        bnd (qR q28.2 3 l0 1) fun x31 =>
        bnd (cl q28.2 4 x31 (fX4_restart x31  q28.2)) fun q34 =>
        bnd (qR q34 3 l0 1) fun x37 =>
        bnd (cl q34 4 x37 (fX4_assumeOpposites x37 l1 0 q34)) fun q40 =>
        bnd (qR q40 3 l0 1) fun x43 =>
        bnd (cl q40 4 x43 (fX4_assumeOpposites x43 q22.1 l2 q40)) fun q46 =>
        bnd (qR q46 3 l0 1) fun x49 =>
        bnd (cl q46 4 x49 (fX4_run x49  q46)) fun q52 =>
        if q52.1 = 1 then
          bnd (qR q52.2 3 l0 2) fun x55 =>
          bnd (cl q52.2 2 x55 (fX2_add x55 l1 (-q22.1) q52.2)) fun q58 =>
          bnd (qR q58 3 l0 1) fun x61 =>
          bnd (cl q58 4 x61 (fX4_gatherUsed x61  q58)) fun q64 =>
          bnd (cl q64 3 l0 (fX3_keepUsed l0 l1 q64)) fun q67 =>
          bnd (qR q67 3 l0 1) fun x70 =>
          bnd (cl q67 4 x70 (fX4_mark x70 q22.1 q67)) fun q73 =>
          fX3_weighPartners_135 ((fX3_weighPartners_30  n)) l0 l1 l2 l3 l4 q73
        else
          some (q52.1, q52.2)
set_option maxRecDepth 100000 in
set_option maxHeartbeats 4000000 in
theorem bX3_weighPartners_30 {E : zE}  : ∀ (n : Nat) {l0 : Nat} {l1 : Int32} {l2 : Int32} {l3 : Int32} {l4 : Int32} {s : zS} {q : Int32 × zS}, fX3_weighPartners_30  n l0 l1 l2 l3 l4 s = some q → Z E mX3_weighPartners 30 [(0, .ref l0), (1, .int l1), (2, .int l2), (3, .int l3), (4, .int l4)] [] s (0, 0) (zRi E mX3_weighPartners q.1 q.2) := by
  intro n
  induction n with
  | zero => intro l0 l1 l2 l3 l4 s q h; cases h
  | succ n ih =>
    intro l0 l1 l2 l3 l4 s q h
    unfold fX3_weighPartners_30 at h
    refine z_iload (pc := 30) 4 rfl dX3_weighPartners_30 ?_
    refine z_iload_n (pc := 32) 3 rfl dX3_weighPartners_32 rfl ?_
    refine z_icmp_ge (pc := 33) (tgt := 141) dX3_weighPartners_33 (by decide) (fun hc => ?_) (fun hc => ?_)
    · replace h := ifp hc h
      refine z_iconst (pc := 141) (v := 1) dX3_weighPartners_141 (by decide) ?_
      exact y_iret (pc := 142) dX3_weighPartners_142 rfl h
    · replace h := ifn hc h
      refine z_aload_n (pc := 36) 0 rfl dX3_weighPartners_36 rfl ?_
      obtain ⟨a20, x19, e21, h⟩ := iR h
      refine y_getR (pc := 37) flRX3_50 dX3_weighPartners_37 rfl a20 e21 ?_
      refine z_iload (pc := 40) 4 rfl dX3_weighPartners_40 ?_
      obtain ⟨a23, q22, e24, h⟩ := iC h
      refine y_Vi (pc := 42) (M2 := mX1_user) (As := [.int l4]) (okX1_user e24) mvX1_user mlRX3_157 dX3_weighPartners_42 ⟨by decide, by decide⟩ rfl rfl rfl zrest0 a23 ?_
      refine z_istore (pc := 45) (ls' := [(5, .int q22.1), (0, .ref l0), (1, .int l1), (2, .int l2), (3, .int l3), (4, .int l4)]) dX3_weighPartners_45 (by decide) (fun _ => rfl) ?_
      refine z_aload_n (pc := 47) 1 rfl dX3_weighPartners_47 rfl ?_
      obtain ⟨a26, x25, e27, h⟩ := iR h
      refine y_getR (pc := 48) flRX3_59 dX3_weighPartners_48 rfl a26 e27 ?_
      refine z_iload (pc := 51) 0 rfl dX3_weighPartners_51 ?_
      obtain ⟨a29, q28, e30, h⟩ := iC h
      refine y_Vi (pc := 53) (M2 := mX4_isActive) (As := [.int q22.1]) (okX4_isActive e30) mvX4_isActive mlRX3_160 dX3_weighPartners_53 ⟨by decide, by decide⟩ rfl rfl rfl zrest0 a29 ?_
      refine z_if_eq (pc := 56) (tgt := 135) dX3_weighPartners_56 (by decide) (fun hc => ?_) (fun hc => ?_)
      · replace h := ifp hc h
        exact z_sub [1, 2, 3, 4, 5] rfl (bX3_weighPartners_135 (fun h => ih h) h)
      · replace h := ifn hc h
        refine z_aload_n (pc := 59) 1 rfl dX3_weighPartners_59 rfl ?_
        obtain ⟨a32, x31, e33, h⟩ := iR h
        refine y_getR (pc := 60) flRX3_59 dX3_weighPartners_60 rfl a32 e33 ?_
        obtain ⟨a35, q34, e36, h⟩ := iC h
        refine y_V (pc := 63) (M2 := mX4_restart) (As := []) (okX4_restart e36) mvX4_restart mlRX3_120 dX3_weighPartners_63 ⟨by decide, by decide⟩ rfl rfl rfl zrest0 a35 ?_
        refine z_aload_n (pc := 66) 1 rfl dX3_weighPartners_66 rfl ?_
        obtain ⟨a38, x37, e39, h⟩ := iR h
        refine y_getR (pc := 67) flRX3_59 dX3_weighPartners_67 rfl a38 e39 ?_
        refine z_iload_n (pc := 70) 2 rfl dX3_weighPartners_70 rfl ?_
        refine z_iconst (pc := 71) (v := 0) dX3_weighPartners_71 (by decide) ?_
        obtain ⟨a41, q40, e42, h⟩ := iC h
        refine y_V (pc := 72) (M2 := mX4_assumeOpposites) (As := [.int l1, .int 0]) (okX4_assumeOpposites e42) mvX4_assumeOpposites mlRX3_135 dX3_weighPartners_72 ⟨by decide, by decide⟩ rfl rfl rfl zrest0 a41 ?_
        refine z_aload_n (pc := 75) 1 rfl dX3_weighPartners_75 rfl ?_
        obtain ⟨a44, x43, e45, h⟩ := iR h
        refine y_getR (pc := 76) flRX3_59 dX3_weighPartners_76 rfl a44 e45 ?_
        refine z_iload (pc := 79) 0 rfl dX3_weighPartners_79 ?_
        refine z_iload_n (pc := 81) 3 rfl dX3_weighPartners_81 rfl ?_
        obtain ⟨a47, q46, e48, h⟩ := iC h
        refine y_V (pc := 82) (M2 := mX4_assumeOpposites) (As := [.int q22.1, .int l2]) (okX4_assumeOpposites e48) mvX4_assumeOpposites mlRX3_135 dX3_weighPartners_82 ⟨by decide, by decide⟩ rfl rfl rfl zrest0 a47 ?_
        refine z_aload_n (pc := 85) 1 rfl dX3_weighPartners_85 rfl ?_
        obtain ⟨a50, x49, e51, h⟩ := iR h
        refine y_getR (pc := 86) flRX3_59 dX3_weighPartners_86 rfl a50 e51 ?_
        obtain ⟨a53, q52, e54, h⟩ := iC h
        refine y_Vi (pc := 89) (M2 := mX4_run) (As := []) (okX4_run e54) mvX4_run mlRX3_123 dX3_weighPartners_89 ⟨by decide, by decide⟩ rfl rfl rfl zrest0 a53 ?_
        refine z_istore (pc := 92) (ls' := [(6, .int q52.1), (5, .int q22.1), (0, .ref l0), (1, .int l1), (2, .int l2), (3, .int l3), (4, .int l4)]) dX3_weighPartners_92 (by decide) (fun _ => rfl) ?_
        refine z_iload (pc := 94) 0 rfl dX3_weighPartners_94 ?_
        refine z_iconst (pc := 96) (v := 1) dX3_weighPartners_96 (by decide) ?_
        refine z_icmp_eq (pc := 97) (tgt := 103) dX3_weighPartners_97 (by decide) (fun hc => ?_) (fun hc => ?_)
        · replace h := ifp hc h
          refine z_aload_n (pc := 103) 2 rfl dX3_weighPartners_103 rfl ?_
          obtain ⟨a56, x55, e57, h⟩ := iR h
          refine y_getR (pc := 104) flRX3_12 dX3_weighPartners_104 rfl a56 e57 ?_
          refine z_iload_n (pc := 107) 3 rfl dX3_weighPartners_107 rfl ?_
          refine z_iload (pc := 108) 1 rfl dX3_weighPartners_108 ?_
          refine z_ineg (pc := 110) dX3_weighPartners_110 ?_
          obtain ⟨a59, q58, e60, h⟩ := iC h
          refine y_V (pc := 111) (M2 := mX2_add) (As := [.int l1, .int (-q22.1)]) (okX2_add e60) mvX2_add mlRX3_163 dX3_weighPartners_111 ⟨by decide, by decide⟩ rfl rfl rfl zrest0 a59 ?_
          refine z_aload_n (pc := 114) 2 rfl dX3_weighPartners_114 rfl ?_
          obtain ⟨a62, x61, e63, h⟩ := iR h
          refine y_getR (pc := 115) flRX3_59 dX3_weighPartners_115 rfl a62 e63 ?_
          obtain ⟨a65, q64, e66, h⟩ := iC h
          refine y_V (pc := 118) (M2 := mX4_gatherUsed) (As := []) (okX4_gatherUsed e66) mvX4_gatherUsed mlRX3_129 dX3_weighPartners_118 ⟨by decide, by decide⟩ rfl rfl rfl zrest0 a65 ?_
          refine z_aload_n (pc := 121) 2 rfl dX3_weighPartners_121 rfl ?_
          refine z_iload_n (pc := 122) 3 rfl dX3_weighPartners_122 rfl ?_
          obtain ⟨a68, q67, e69, h⟩ := iC h
          refine y_V (pc := 123) (M2 := mX3_keepUsed) (As := [.int l1]) (okX3_keepUsed e69) mvX3_keepUsed mlRX3_132 dX3_weighPartners_123 ⟨by decide, by decide⟩ rfl rfl rfl zrest0 a68 ?_
          refine z_aload_n (pc := 126) 2 rfl dX3_weighPartners_126 rfl ?_
          obtain ⟨a71, x70, e72, h⟩ := iR h
          refine y_getR (pc := 127) flRX3_59 dX3_weighPartners_127 rfl a71 e72 ?_
          refine z_iload (pc := 130) 1 rfl dX3_weighPartners_130 ?_
          obtain ⟨a74, q73, e75, h⟩ := iC h
          refine y_V (pc := 132) (M2 := mX4_mark) (As := [.int q22.1]) (okX4_mark e75) mvX4_mark mlRX3_166 dX3_weighPartners_132 ⟨by decide, by decide⟩ rfl rfl rfl zrest0 a74 ?_
          exact z_sub [2, 3, 4, 5, 6] rfl (bX3_weighPartners_135 (fun h => ih h) h)
        · replace h := ifn hc h
          refine z_iload (pc := 100) 0 rfl dX3_weighPartners_100 ?_
          exact y_iret (pc := 102) dX3_weighPartners_102 rfl h
def fX3_weighPartners (l0 : Nat) (l1 : Int32) (s : zS) : Option (Int32 × zS) :=
  bnd (qR s 3 l0 0) fun x1 =>
  bnd (cl s 1 x1 (fX1_literal x1 l1 0 s)) fun q4 =>
  bnd (qR q4.2 3 l0 0) fun x7 =>
  bnd (cl q4.2 1 x7 (fX1_endOfUses x7 (-q4.1) q4.2)) fun q10 =>
  bnd (qR q10.2 3 l0 0) fun x13 =>
  bnd (cl q10.2 1 x13 (fX1_firstUse x13 (-q4.1) q10.2)) fun q16 =>
  fX3_weighPartners_30  zfu l0 l1 (-q4.1) q10.1 q16.1 q16.2
set_option maxRecDepth 100000 in
set_option maxHeartbeats 4000000 in
theorem okX3_weighPartners {E : zE} {l0 : Nat} {l1 : Int32} {s : zS} {q : Int32 × zS} (h : fX3_weighPartners l0 l1 s = some q) : Ci E mX3_weighPartners [.ref l0, .int l1] s q.1 q.2 := by
  refine Ct.of (ls := [(0, .ref l0), (1, .int l1)]) (by decide) rfl (Nat.le_of_ble_eq_true rfl) ?_
  show Z E mX3_weighPartners 0 [(0, .ref l0), (1, .int l1)] [] s (0, 0) (zRi E mX3_weighPartners q.1 q.2)
  unfold fX3_weighPartners at h
  refine z_aload_n (pc := 0) 0 rfl dX3_weighPartners_0 rfl ?_
  obtain ⟨a2, x1, e3, h⟩ := iR h
  refine y_getR (pc := 1) flRX3_50 dX3_weighPartners_1 rfl a2 e3 ?_
  refine z_iload_n (pc := 4) 1 rfl dX3_weighPartners_4 rfl ?_
  refine z_iconst (pc := 5) (v := 0) dX3_weighPartners_5 (by decide) ?_
  obtain ⟨a5, q4, e6, h⟩ := iC h
  refine y_Vi (pc := 6) (M2 := mX1_literal) (As := [.int l1, .int 0]) (okX1_literal e6) mvX1_literal mlRX3_148 dX3_weighPartners_6 ⟨by decide, by decide⟩ rfl rfl rfl zrest0 a5 ?_
  refine z_ineg (pc := 9) dX3_weighPartners_9 ?_
  refine z_istore_n (pc := 10) (ls' := [(2, .int (-q4.1)), (0, .ref l0), (1, .int l1)]) dX3_weighPartners_10 rfl (by decide) (fun _ => rfl) ?_
  refine z_aload_n (pc := 11) 1 rfl dX3_weighPartners_11 rfl ?_
  obtain ⟨a8, x7, e9, h⟩ := iR h
  refine y_getR (pc := 12) flRX3_50 dX3_weighPartners_12 rfl a8 e9 ?_
  refine z_iload_n (pc := 15) 0 rfl dX3_weighPartners_15 rfl ?_
  obtain ⟨a11, q10, e12, h⟩ := iC h
  refine y_Vi (pc := 16) (M2 := mX1_endOfUses) (As := [.int (-q4.1)]) (okX1_endOfUses e12) mvX1_endOfUses mlRX3_151 dX3_weighPartners_16 ⟨by decide, by decide⟩ rfl rfl rfl zrest0 a11 ?_
  refine z_istore_n (pc := 19) (ls' := [(3, .int q10.1), (2, .int (-q4.1)), (0, .ref l0), (1, .int l1)]) dX3_weighPartners_19 rfl (by decide) (fun _ => rfl) ?_
  refine z_aload_n (pc := 20) 2 rfl dX3_weighPartners_20 rfl ?_
  obtain ⟨a14, x13, e15, h⟩ := iR h
  refine y_getR (pc := 21) flRX3_50 dX3_weighPartners_21 rfl a14 e15 ?_
  refine z_iload_n (pc := 24) 1 rfl dX3_weighPartners_24 rfl ?_
  obtain ⟨a17, q16, e18, h⟩ := iC h
  refine y_Vi (pc := 25) (M2 := mX1_firstUse) (As := [.int (-q4.1)]) (okX1_firstUse e18) mvX1_firstUse mlRX3_154 dX3_weighPartners_25 ⟨by decide, by decide⟩ rfl rfl rfl zrest0 a17 ?_
  refine z_istore (pc := 28) (ls' := [(4, .int q16.1), (3, .int q10.1), (2, .int (-q4.1)), (0, .ref l0), (1, .int l1)]) dX3_weighPartners_28 (by decide) (fun _ => rfl) ?_
  exact z_sub [3, 4, 2, 1, 0] rfl (bX3_weighPartners_30  _ h)
def fX3_holds_130  (t0 : Int32) (t1 : Nat) (s : zS) : Option (Int32 × zS) :=
  bnd (wI s 3 t1 6 t0) fun s34 =>
  gd ((0 : Int32) = 0 ∨ 0 = 1) (some (0, s34))
set_option maxRecDepth 100000 in
set_option maxHeartbeats 4000000 in
theorem bX3_holds_130 {E : zE}   {t0 : Int32} {t1 : Nat} {s : zS} {q : Int32 × zS} (h : fX3_holds_130  t0 t1 s = some q) : Z E mX3_holds 130 [] [.int t0, .ref t1] s (0, 0) (zRi E mX3_holds q.1 q.2) := by
  unfold fX3_holds_130 at h
  obtain ⟨a35, s34, e36, h⟩ := jI h
  refine y_putI (pc := 130) flRX3_34 dX3_holds_130 rfl (Or.inl rfl) a35 e36 ?_
  refine z_iconst (pc := 133) (v := 0) dX3_holds_133 (by decide) ?_
  exact y_zret (pc := 134) dX3_holds_134 rfl h
def fX3_holds_106  (l0 : Nat) (l1 : Int32) (l2 : Int32) (l3 : Int32) (s : zS) : Option (Int32 × zS) :=
  bnd (qR s 3 l0 2) fun x25 =>
  bnd (cl s 2 x25 (fX2_drop x25 l2 s)) fun q28 =>
  bnd (wI q28 3 l0 7 l1) fun s31 =>
  if l3 = 2 then
    fX3_holds_130  2 l0 s31
  else
    fX3_holds_130  1 l0 s31
set_option maxRecDepth 100000 in
set_option maxHeartbeats 4000000 in
theorem bX3_holds_106 {E : zE}   {l0 : Nat} {l1 : Int32} {l2 : Int32} {l3 : Int32} {s : zS} {q : Int32 × zS} (h : fX3_holds_106  l0 l1 l2 l3 s = some q) : Z E mX3_holds 106 [(0, .ref l0), (1, .int l1), (2, .int l2), (3, .int l3)] [] s (0, 0) (zRi E mX3_holds q.1 q.2) := by
  unfold fX3_holds_106 at h
  refine z_aload_n (pc := 106) 0 rfl dX3_holds_106 rfl ?_
  obtain ⟨a26, x25, e27, h⟩ := iR h
  refine y_getR (pc := 107) flRX3_12 dX3_holds_107 rfl a26 e27 ?_
  refine z_iload_n (pc := 110) 2 rfl dX3_holds_110 rfl ?_
  obtain ⟨a29, q28, e30, h⟩ := iC h
  refine y_V (pc := 111) (M2 := mX2_drop) (As := [.int l2]) (okX2_drop e30) mvX2_drop mlRX3_145 dX3_holds_111 ⟨by decide, by decide⟩ rfl rfl rfl zrest0 a29 ?_
  refine z_aload_n (pc := 114) 0 rfl dX3_holds_114 rfl ?_
  refine z_iload_n (pc := 115) 1 rfl dX3_holds_115 rfl ?_
  obtain ⟨a32, s31, e33, h⟩ := jI h
  refine y_putI (pc := 116) flRX3_38 dX3_holds_116 rfl (Or.inl rfl) a32 e33 ?_
  refine z_aload_n (pc := 119) 0 rfl dX3_holds_119 rfl ?_
  refine z_iload_n (pc := 120) 3 rfl dX3_holds_120 rfl ?_
  refine z_iconst (pc := 121) (v := 2) dX3_holds_121 (by decide) ?_
  refine z_icmp_ne (pc := 122) (tgt := 129) dX3_holds_122 (by decide) (fun hc => ?_) (fun hc => ?_)
  · replace h := ifn hc h
    refine z_iconst (pc := 129) (v := 1) dX3_holds_129 (by decide) ?_
    exact z_sub [] rfl (bX3_holds_130  h)
  · replace h := ifp hc h
    refine z_iconst (pc := 125) (v := 2) dX3_holds_125 (by decide) ?_
    refine z_goto (pc := 126) (tgt := 130) dX3_holds_126 (by decide) ?_
    exact z_sub [] rfl (bX3_holds_130  h)
def fX3_holds (l0 : Nat) (l1 : Int32) (l2 : Int32) (s : zS) : Option (Int32 × zS) :=
  bnd (qR s 3 l0 2) fun x1 =>
  bnd (cl s 2 x1 (fX2_open x1 l2 s)) fun q4 =>
  bnd (qR q4 3 l0 1) fun x7 =>
  bnd (cl q4 4 x7 (fX4_restart x7  q4)) fun q10 =>
  bnd (qR q10 3 l0 1) fun x13 =>
  bnd (cl q10 4 x13 (fX4_assumeOpposites x13 l2 0 q10)) fun q16 =>
  bnd (qR q16 3 l0 1) fun x19 =>
  bnd (cl q16 4 x19 (fX4_run x19  q16)) fun q22 =>
  if q22.1 = 1 then
    bnd (qR q22.2 3 l0 1) fun x43 =>
    bnd (cl q22.2 4 x43 (fX4_gatherUsed x43  q22.2)) fun q46 =>
    bnd (cl q46 3 l0 (fX3_keepUsed l0 l2 q46)) fun q49 =>
    bnd (qI q49 3 l0 9) fun x52 =>
    bnd (wI q49 3 l0 9 (x52 + 1)) fun s55 =>
    gd ((1 : Int32) = 0 ∨ 1 = 1) (some (1, s55))
  else
    if q22.1 = 0 then
      bnd (qI q22.2 3 l0 4) fun x25 =>
      if x25 = 0 then
        fX3_holds_106  l0 l1 l2 q22.1 q22.2
      else
        bnd (qR q22.2 3 l0 0) fun x28 =>
        bnd (cl q22.2 1 x28 (fX1_size x28 l2 q22.2)) fun q31 =>
        if q31.1 ≤ 0 then
          fX3_holds_106  l0 l1 l2 q22.1 q31.2
        else
          bnd (cl q31.2 3 l0 (fX3_weighPartners l0 l2 q31.2)) fun q34 =>
          if q34.1 = 1 then
            bnd (qI q34.2 3 l0 10) fun x37 =>
            bnd (wI q34.2 3 l0 10 (x37 + 1)) fun s40 =>
            gd ((1 : Int32) = 0 ∨ 1 = 1) (some (1, s40))
          else
            fX3_holds_106  l0 l1 l2 q34.1 q34.2
    else
      fX3_holds_106  l0 l1 l2 q22.1 q22.2
set_option maxRecDepth 100000 in
set_option maxHeartbeats 4000000 in
theorem okX3_holds {E : zE} {l0 : Nat} {l1 : Int32} {l2 : Int32} {s : zS} {q : Int32 × zS} (h : fX3_holds l0 l1 l2 s = some q) : Ci E mX3_holds [.ref l0, .int l1, .int l2] s q.1 q.2 := by
  refine Ct.of (ls := [(0, .ref l0), (1, .int l1), (2, .int l2)]) (by decide) rfl (Nat.le_of_ble_eq_true rfl) ?_
  show Z E mX3_holds 0 [(0, .ref l0), (1, .int l1), (2, .int l2)] [] s (0, 0) (zRi E mX3_holds q.1 q.2)
  unfold fX3_holds at h
  refine z_aload_n (pc := 0) 0 rfl dX3_holds_0 rfl ?_
  obtain ⟨a2, x1, e3, h⟩ := iR h
  refine y_getR (pc := 1) flRX3_12 dX3_holds_1 rfl a2 e3 ?_
  refine z_iload_n (pc := 4) 2 rfl dX3_holds_4 rfl ?_
  obtain ⟨a5, q4, e6, h⟩ := iC h
  refine y_V (pc := 5) (M2 := mX2_open) (As := [.int l2]) (okX2_open e6) mvX2_open mlRX3_126 dX3_holds_5 ⟨by decide, by decide⟩ rfl rfl rfl zrest0 a5 ?_
  refine z_aload_n (pc := 8) 0 rfl dX3_holds_8 rfl ?_
  obtain ⟨a8, x7, e9, h⟩ := iR h
  refine y_getR (pc := 9) flRX3_59 dX3_holds_9 rfl a8 e9 ?_
  obtain ⟨a11, q10, e12, h⟩ := iC h
  refine y_V (pc := 12) (M2 := mX4_restart) (As := []) (okX4_restart e12) mvX4_restart mlRX3_120 dX3_holds_12 ⟨by decide, by decide⟩ rfl rfl rfl zrest0 a11 ?_
  refine z_aload_n (pc := 15) 0 rfl dX3_holds_15 rfl ?_
  obtain ⟨a14, x13, e15, h⟩ := iR h
  refine y_getR (pc := 16) flRX3_59 dX3_holds_16 rfl a14 e15 ?_
  refine z_iload_n (pc := 19) 2 rfl dX3_holds_19 rfl ?_
  refine z_iconst (pc := 20) (v := 0) dX3_holds_20 (by decide) ?_
  obtain ⟨a17, q16, e18, h⟩ := iC h
  refine y_V (pc := 21) (M2 := mX4_assumeOpposites) (As := [.int l2, .int 0]) (okX4_assumeOpposites e18) mvX4_assumeOpposites mlRX3_135 dX3_holds_21 ⟨by decide, by decide⟩ rfl rfl rfl zrest0 a17 ?_
  refine z_aload_n (pc := 24) 0 rfl dX3_holds_24 rfl ?_
  obtain ⟨a20, x19, e21, h⟩ := iR h
  refine y_getR (pc := 25) flRX3_59 dX3_holds_25 rfl a20 e21 ?_
  obtain ⟨a23, q22, e24, h⟩ := iC h
  refine y_Vi (pc := 28) (M2 := mX4_run) (As := []) (okX4_run e24) mvX4_run mlRX3_123 dX3_holds_28 ⟨by decide, by decide⟩ rfl rfl rfl zrest0 a23 ?_
  refine z_istore_n (pc := 31) (ls' := [(3, .int q22.1), (0, .ref l0), (1, .int l1), (2, .int l2)]) dX3_holds_31 rfl (by decide) (fun _ => rfl) ?_
  refine z_iload_n (pc := 32) 0 rfl dX3_holds_32 rfl ?_
  refine z_iconst (pc := 33) (v := 1) dX3_holds_33 (by decide) ?_
  refine z_icmp_ne (pc := 34) (tgt := 61) dX3_holds_34 (by decide) (fun hc => ?_) (fun hc => ?_)
  · replace h := ifn hc h
    refine z_iload_n (pc := 61) 0 rfl dX3_holds_61 rfl ?_
    refine z_if_ne (pc := 62) (tgt := 106) dX3_holds_62 (by decide) (fun hc => ?_) (fun hc => ?_)
    · replace h := ifn hc h
      exact z_sub [1, 2, 3, 0] rfl (bX3_holds_106  h)
    · replace h := ifp hc h
      refine z_aload_n (pc := 65) 1 rfl dX3_holds_65 rfl ?_
      obtain ⟨a26, x25, e27, h⟩ := iI h
      refine y_getI (pc := 66) flRX3_27 dX3_holds_66 rfl a26 e27 ?_
      refine z_if_eq (pc := 69) (tgt := 106) dX3_holds_69 (by decide) (fun hc => ?_) (fun hc => ?_)
      · replace h := ifp hc h
        exact z_sub [1, 2, 3, 0] rfl (bX3_holds_106  h)
      · replace h := ifn hc h
        refine z_aload_n (pc := 72) 1 rfl dX3_holds_72 rfl ?_
        obtain ⟨a29, x28, e30, h⟩ := iR h
        refine y_getR (pc := 73) flRX3_50 dX3_holds_73 rfl a29 e30 ?_
        refine z_iload_n (pc := 76) 3 rfl dX3_holds_76 rfl ?_
        obtain ⟨a32, q31, e33, h⟩ := iC h
        refine y_Vi (pc := 77) (M2 := mX1_size) (As := [.int l2]) (okX1_size e33) mvX1_size mlRX3_139 dX3_holds_77 ⟨by decide, by decide⟩ rfl rfl rfl zrest0 a32 ?_
        refine z_if_le (pc := 80) (tgt := 106) dX3_holds_80 (by decide) (fun hc => ?_) (fun hc => ?_)
        · replace h := ifp hc h
          exact z_sub [1, 2, 3, 0] rfl (bX3_holds_106  h)
        · replace h := ifn hc h
          refine z_aload_n (pc := 83) 1 rfl dX3_holds_83 rfl ?_
          refine z_iload_n (pc := 84) 3 rfl dX3_holds_84 rfl ?_
          obtain ⟨a35, q34, e36, h⟩ := iC h
          refine y_Vi (pc := 85) (M2 := mX3_weighPartners) (As := [.int l2]) (okX3_weighPartners e36) mvX3_weighPartners mlRX3_142 dX3_holds_85 ⟨by decide, by decide⟩ rfl rfl rfl zrest0 a35 ?_
          refine z_istore_n (pc := 88) (ls' := [(3, .int q34.1), (0, .ref l0), (1, .int l1), (2, .int l2)]) dX3_holds_88 rfl (by decide) (fun _ => rfl) ?_
          refine z_iload_n (pc := 89) 0 rfl dX3_holds_89 rfl ?_
          refine z_iconst (pc := 90) (v := 1) dX3_holds_90 (by decide) ?_
          refine z_icmp_ne (pc := 91) (tgt := 106) dX3_holds_91 (by decide) (fun hc => ?_) (fun hc => ?_)
          · replace h := ifn hc h
            exact z_sub [1, 2, 3, 0] rfl (bX3_holds_106  h)
          · replace h := ifp hc h
            refine z_aload_n (pc := 94) 1 rfl dX3_holds_94 rfl ?_
            refine z_dup (pc := 95) dX3_holds_95 (fun _ => rfl) ?_
            obtain ⟨a38, x37, e39, h⟩ := iI h
            refine y_getI (pc := 96) flRX3_47 dX3_holds_96 rfl a38 e39 ?_
            refine z_iconst (pc := 99) (v := 1) dX3_holds_99 (by decide) ?_
            refine z_iadd (pc := 100) dX3_holds_100 ?_
            obtain ⟨a41, s40, e42, h⟩ := jI h
            refine y_putI (pc := 101) flRX3_47 dX3_holds_101 rfl (Or.inl rfl) a41 e42 ?_
            refine z_iconst (pc := 104) (v := 1) dX3_holds_104 (by decide) ?_
            exact y_zret (pc := 105) dX3_holds_105 rfl h
  · replace h := ifp hc h
    refine z_aload_n (pc := 37) 1 rfl dX3_holds_37 rfl ?_
    obtain ⟨a44, x43, e45, h⟩ := iR h
    refine y_getR (pc := 38) flRX3_59 dX3_holds_38 rfl a44 e45 ?_
    obtain ⟨a47, q46, e48, h⟩ := iC h
    refine y_V (pc := 41) (M2 := mX4_gatherUsed) (As := []) (okX4_gatherUsed e48) mvX4_gatherUsed mlRX3_129 dX3_holds_41 ⟨by decide, by decide⟩ rfl rfl rfl zrest0 a47 ?_
    refine z_aload_n (pc := 44) 1 rfl dX3_holds_44 rfl ?_
    refine z_iload_n (pc := 45) 3 rfl dX3_holds_45 rfl ?_
    obtain ⟨a50, q49, e51, h⟩ := iC h
    refine y_V (pc := 46) (M2 := mX3_keepUsed) (As := [.int l2]) (okX3_keepUsed e51) mvX3_keepUsed mlRX3_132 dX3_holds_46 ⟨by decide, by decide⟩ rfl rfl rfl zrest0 a50 ?_
    refine z_aload_n (pc := 49) 1 rfl dX3_holds_49 rfl ?_
    refine z_dup (pc := 50) dX3_holds_50 (fun _ => rfl) ?_
    obtain ⟨a53, x52, e54, h⟩ := iI h
    refine y_getI (pc := 51) flRX3_44 dX3_holds_51 rfl a53 e54 ?_
    refine z_iconst (pc := 54) (v := 1) dX3_holds_54 (by decide) ?_
    refine z_iadd (pc := 55) dX3_holds_55 ?_
    obtain ⟨a56, s55, e57, h⟩ := jI h
    refine y_putI (pc := 56) flRX3_44 dX3_holds_56 rfl (Or.inl rfl) a56 e57 ?_
    refine z_iconst (pc := 59) (v := 1) dX3_holds_59 (by decide) ?_
    exact y_zret (pc := 60) dX3_holds_60 rfl h
def fX3_lookFromNothing (l0 : Nat) (l1 : Int32) (s : zS) : Option zS :=
  bnd (qR s 3 l0 1) fun x1 =>
  bnd (cl s 4 x1 (fX4_restart x1  s)) fun q4 =>
  bnd (qR q4 3 l0 1) fun x7 =>
  bnd (cl q4 4 x7 (fX4_run x7  q4)) fun q10 =>
  if q10.1 = 2 then
    bnd (wI q10.2 3 l0 6 2) fun s34 =>
    bnd (wI s34 3 l0 7 0) fun s37 =>
    some s37
  else
    if q10.1 = 1 then
      bnd (wI q10.2 3 l0 6 0) fun s13 =>
      bnd (wI s13 3 l0 8 l1) fun s16 =>
      bnd (qR s16 3 l0 2) fun x19 =>
      bnd (cl s16 2 x19 (fX2_open x19 0 s16)) fun q22 =>
      bnd (qR q22 3 l0 1) fun x25 =>
      bnd (cl q22 4 x25 (fX4_gatherUsed x25  q22)) fun q28 =>
      bnd (cl q28 3 l0 (fX3_keepUsed l0 0 q28)) fun q31 =>
      some q31
    else
      some q10.2
set_option maxRecDepth 100000 in
set_option maxHeartbeats 4000000 in
theorem okX3_lookFromNothing {E : zE} {l0 : Nat} {l1 : Int32} {s : zS} {t : zS} (h : fX3_lookFromNothing l0 l1 s = some t) : Cv E mX3_lookFromNothing [.ref l0, .int l1] s t := by
  refine Ct.of (ls := [(0, .ref l0), (1, .int l1)]) (by decide) rfl (Nat.le_of_ble_eq_true rfl) ?_
  show Z E mX3_lookFromNothing 0 [(0, .ref l0), (1, .int l1)] [] s (0, 0) (zRv E mX3_lookFromNothing t)
  unfold fX3_lookFromNothing at h
  refine z_aload_n (pc := 0) 0 rfl dX3_lookFromNothing_0 rfl ?_
  obtain ⟨a2, x1, e3, h⟩ := iR h
  refine y_getR (pc := 1) flRX3_59 dX3_lookFromNothing_1 rfl a2 e3 ?_
  obtain ⟨a5, q4, e6, h⟩ := iC h
  refine y_V (pc := 4) (M2 := mX4_restart) (As := []) (okX4_restart e6) mvX4_restart mlRX3_120 dX3_lookFromNothing_4 ⟨by decide, by decide⟩ rfl rfl rfl zrest0 a5 ?_
  refine z_aload_n (pc := 7) 0 rfl dX3_lookFromNothing_7 rfl ?_
  obtain ⟨a8, x7, e9, h⟩ := iR h
  refine y_getR (pc := 8) flRX3_59 dX3_lookFromNothing_8 rfl a8 e9 ?_
  obtain ⟨a11, q10, e12, h⟩ := iC h
  refine y_Vi (pc := 11) (M2 := mX4_run) (As := []) (okX4_run e12) mvX4_run mlRX3_123 dX3_lookFromNothing_11 ⟨by decide, by decide⟩ rfl rfl rfl zrest0 a11 ?_
  refine z_istore_n (pc := 14) (ls' := [(2, .int q10.1), (0, .ref l0), (1, .int l1)]) dX3_lookFromNothing_14 rfl (by decide) (fun _ => rfl) ?_
  refine z_iload_n (pc := 15) 0 rfl dX3_lookFromNothing_15 rfl ?_
  refine z_iconst (pc := 16) (v := 2) dX3_lookFromNothing_16 (by decide) ?_
  refine z_icmp_ne (pc := 17) (tgt := 33) dX3_lookFromNothing_17 (by decide) (fun hc => ?_) (fun hc => ?_)
  · replace h := ifn hc h
    refine z_iload_n (pc := 33) 0 rfl dX3_lookFromNothing_33 rfl ?_
    refine z_iconst (pc := 34) (v := 1) dX3_lookFromNothing_34 (by decide) ?_
    refine z_icmp_ne (pc := 35) (tgt := 68) dX3_lookFromNothing_35 (by decide) (fun hc => ?_) (fun hc => ?_)
    · replace h := ifn hc h
      exact y_ret (pc := 68) dX3_lookFromNothing_68 rfl h
    · replace h := ifp hc h
      refine z_aload_n (pc := 38) 1 rfl dX3_lookFromNothing_38 rfl ?_
      refine z_iconst (pc := 39) (v := 0) dX3_lookFromNothing_39 (by decide) ?_
      obtain ⟨a14, s13, e15, h⟩ := jI h
      refine y_putI (pc := 40) flRX3_34 dX3_lookFromNothing_40 rfl (Or.inl rfl) a14 e15 ?_
      refine z_aload_n (pc := 43) 1 rfl dX3_lookFromNothing_43 rfl ?_
      refine z_iload_n (pc := 44) 2 rfl dX3_lookFromNothing_44 rfl ?_
      obtain ⟨a17, s16, e18, h⟩ := jI h
      refine y_putI (pc := 45) flRX3_41 dX3_lookFromNothing_45 rfl (Or.inl rfl) a17 e18 ?_
      refine z_aload_n (pc := 48) 1 rfl dX3_lookFromNothing_48 rfl ?_
      obtain ⟨a20, x19, e21, h⟩ := iR h
      refine y_getR (pc := 49) flRX3_12 dX3_lookFromNothing_49 rfl a20 e21 ?_
      refine z_iconst (pc := 52) (v := 0) dX3_lookFromNothing_52 (by decide) ?_
      obtain ⟨a23, q22, e24, h⟩ := iC h
      refine y_V (pc := 53) (M2 := mX2_open) (As := [.int 0]) (okX2_open e24) mvX2_open mlRX3_126 dX3_lookFromNothing_53 ⟨by decide, by decide⟩ rfl rfl rfl zrest0 a23 ?_
      refine z_aload_n (pc := 56) 1 rfl dX3_lookFromNothing_56 rfl ?_
      obtain ⟨a26, x25, e27, h⟩ := iR h
      refine y_getR (pc := 57) flRX3_59 dX3_lookFromNothing_57 rfl a26 e27 ?_
      obtain ⟨a29, q28, e30, h⟩ := iC h
      refine y_V (pc := 60) (M2 := mX4_gatherUsed) (As := []) (okX4_gatherUsed e30) mvX4_gatherUsed mlRX3_129 dX3_lookFromNothing_60 ⟨by decide, by decide⟩ rfl rfl rfl zrest0 a29 ?_
      refine z_aload_n (pc := 63) 1 rfl dX3_lookFromNothing_63 rfl ?_
      refine z_iconst (pc := 64) (v := 0) dX3_lookFromNothing_64 (by decide) ?_
      obtain ⟨a32, q31, e33, h⟩ := iC h
      refine y_V (pc := 65) (M2 := mX3_keepUsed) (As := [.int 0]) (okX3_keepUsed e33) mvX3_keepUsed mlRX3_132 dX3_lookFromNothing_65 ⟨by decide, by decide⟩ rfl rfl rfl zrest0 a32 ?_
      exact y_ret (pc := 68) dX3_lookFromNothing_68 rfl h
  · replace h := ifp hc h
    refine z_aload_n (pc := 20) 1 rfl dX3_lookFromNothing_20 rfl ?_
    refine z_iconst (pc := 21) (v := 2) dX3_lookFromNothing_21 (by decide) ?_
    obtain ⟨a35, s34, e36, h⟩ := jI h
    refine y_putI (pc := 22) flRX3_34 dX3_lookFromNothing_22 rfl (Or.inl rfl) a35 e36 ?_
    refine z_aload_n (pc := 25) 1 rfl dX3_lookFromNothing_25 rfl ?_
    refine z_iconst (pc := 26) (v := 0) dX3_lookFromNothing_26 (by decide) ?_
    obtain ⟨a38, s37, e39, h⟩ := jI h
    refine y_putI (pc := 27) flRX3_38 dX3_lookFromNothing_27 rfl (Or.inl rfl) a38 e39 ?_
    refine z_goto (pc := 30) (tgt := 68) dX3_lookFromNothing_30 (by decide) ?_
    exact y_ret (pc := 68) dX3_lookFromNothing_68 rfl h
def fX4_isReason_2  (n : Nat) : Nat → Int32 → Int32 → zS → Option (Int32 × zS) := match n with
  | 0 => fun _ _ _ _ => none
  | n + 1 => fun l0 l1 l2 s =>
    bnd (qI s 4 l0 14) fun x1 =>
    if x1 ≤ l2 then
      gd ((0 : Int32) = 0 ∨ 0 = 1) (some (0, s))
    else
      bnd (qR s 4 l0 9) fun x4 =>
      bnd (cl s 6 x4 (fX6_at x4 l2 s)) fun q7 =>
      if q7.1 = l1 then
        gd ((1 : Int32) = 0 ∨ 1 = 1) (some (1, q7.2))
      else
        (fX4_isReason_2  n) l0 l1 (l2 + 1) q7.2
set_option maxRecDepth 100000 in
set_option maxHeartbeats 4000000 in
theorem bX4_isReason_2 {E : zE}  : ∀ (n : Nat) {l0 : Nat} {l1 : Int32} {l2 : Int32} {s : zS} {q : Int32 × zS}, fX4_isReason_2  n l0 l1 l2 s = some q → Z E mX4_isReason 2 [(0, .ref l0), (1, .int l1), (2, .int l2)] [] s (0, 0) (zRi E mX4_isReason q.1 q.2) := by
  intro n
  induction n with
  | zero => intro l0 l1 l2 s q h; cases h
  | succ n ih =>
    intro l0 l1 l2 s q h
    unfold fX4_isReason_2 at h
    refine z_iload_n (pc := 2) 2 rfl dX4_isReason_2 rfl ?_
    refine z_aload_n (pc := 3) 0 rfl dX4_isReason_3 rfl ?_
    obtain ⟨a2, x1, e3, h⟩ := iI h
    refine y_getI (pc := 4) flRX4_57 dX4_isReason_4 rfl a2 e3 ?_
    refine z_icmp_ge (pc := 7) (tgt := 30) dX4_isReason_7 (by decide) (fun hc => ?_) (fun hc => ?_)
    · replace h := ifp hc h
      refine z_iconst (pc := 30) (v := 0) dX4_isReason_30 (by decide) ?_
      exact y_zret (pc := 31) dX4_isReason_31 rfl h
    · replace h := ifn hc h
      refine z_aload_n (pc := 10) 0 rfl dX4_isReason_10 rfl ?_
      obtain ⟨a5, x4, e6, h⟩ := iR h
      refine y_getR (pc := 11) flRX4_41 dX4_isReason_11 rfl a5 e6 ?_
      refine z_iload_n (pc := 14) 2 rfl dX4_isReason_14 rfl ?_
      obtain ⟨a8, q7, e9, h⟩ := iC h
      refine y_Vi (pc := 15) (M2 := mX6_at) (As := [.int l2]) (okX6_at e9) mvX6_at mlRX4_96 dX4_isReason_15 ⟨by decide, by decide⟩ rfl rfl rfl zrest0 a8 ?_
      refine z_iload_n (pc := 18) 1 rfl dX4_isReason_18 rfl ?_
      refine z_icmp_ne (pc := 19) (tgt := 24) dX4_isReason_19 (by decide) (fun hc => ?_) (fun hc => ?_)
      · replace h := ifn hc h
        refine z_iinc (pc := 24) (v := (l2 + 1)) (ls' := [(2, .int (l2 + 1)), (0, .ref l0), (1, .int l1)]) 2 rfl rfl dX4_isReason_24 (by decide) (fun _ => rfl) ?_
        refine z_goto (pc := 27) (tgt := 2) dX4_isReason_27 (by decide) ?_
        exact z_sub [1, 2, 0] rfl (ih h)
      · replace h := ifp hc h
        refine z_iconst (pc := 22) (v := 1) dX4_isReason_22 (by decide) ?_
        exact y_zret (pc := 23) dX4_isReason_23 rfl h
def fX4_isReason (l0 : Nat) (l1 : Int32) (s : zS) : Option (Int32 × zS) :=
  fX4_isReason_2  zfu l0 l1 0 s
set_option maxRecDepth 100000 in
set_option maxHeartbeats 4000000 in
theorem okX4_isReason {E : zE} {l0 : Nat} {l1 : Int32} {s : zS} {q : Int32 × zS} (h : fX4_isReason l0 l1 s = some q) : Ci E mX4_isReason [.ref l0, .int l1] s q.1 q.2 := by
  refine Ct.of (ls := [(0, .ref l0), (1, .int l1)]) (by decide) rfl (Nat.le_of_ble_eq_true rfl) ?_
  show Z E mX4_isReason 0 [(0, .ref l0), (1, .int l1)] [] s (0, 0) (zRi E mX4_isReason q.1 q.2)
  unfold fX4_isReason at h
  refine z_iconst (pc := 0) (v := 0) dX4_isReason_0 (by decide) ?_
  refine z_istore_n (pc := 1) (ls' := [(2, .int 0), (0, .ref l0), (1, .int l1)]) dX4_isReason_1 rfl (by decide) (fun _ => rfl) ?_
  exact z_sub [1, 2, 0] rfl (bX4_isReason_2  _ h)
