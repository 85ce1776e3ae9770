def fX0_init (l0 : Nat) (l1 : Int32) (s : zS) : Option zS :=
  bnd (wI s 0 l0 1 0) fun s1 =>
  bnd (nA s1 11 (zmx l1 0) 6000) fun s4 =>
  bnd (wR s4 0 l0 0 (zn s1 + 1)) fun s7 =>
  some s7
set_option maxRecDepth 100000 in
set_option maxHeartbeats 4000000 in
theorem okX0_init {E : zE} {l0 : Nat} {l1 : Int32} {s : zS} {t : zS} (h : fX0_init l0 l1 s = some t) : Cv E mX0_init [.ref l0, .int l1] s t := by
  refine Ct.of (ls := [(0, .ref l0), (1, .int l1)]) (by decide) rfl (Nat.le_of_ble_eq_true rfl) ?_
  show Z E mX0_init 0 [(0, .ref l0), (1, .int l1)] [] s (1, 6000) (zRv E mX0_init t)
  unfold fX0_init at h
  refine z_aload_n (pc := 0) 0 rfl dX0_init_0 rfl ?_
  refine z_objInit (pc := 1) mlRX0_1 ob_i ob_c dX0_init_1 (Nat.le_of_ble_eq_true rfl) (Nat.le_of_ble_eq_true rfl) zrest0 ?_
  refine z_aload_n (pc := 4) 0 rfl dX0_init_4 rfl ?_
  refine z_iconst (pc := 5) (v := 0) dX0_init_5 (by decide) ?_
  obtain ⟨a2, s1, e3, h⟩ := jI h
  refine y_putI (pc := 6) flRX0_7 dX0_init_6 rfl (Or.inl rfl) a2 e3 ?_
  refine z_aload_n (pc := 9) 0 rfl dX0_init_9 rfl ?_
  refine z_iload_n (pc := 10) 1 rfl dX0_init_10 rfl ?_
  refine z_iconst (pc := 11) (v := 0) dX0_init_11 (by decide) ?_
  refine z_max (pc := 12) mlRX0_13 ma_st_max ma_in ma_co_max dX0_init_12 (Nat.le_of_ble_eq_true rfl) (Nat.le_of_ble_eq_true rfl) (fun _ => Nat.le_of_ble_eq_true rfl) ?_
  obtain ⟨a5, s4, e6, h⟩ := iNA h
  refine y_newB (pc := 15) (m := 6000) (b1 := 0) (b2 := 0) ac_byte dX0_init_15 (by decide) a5 rfl rfl e6 ?_
  obtain ⟨a8, s7, e9, h⟩ := jR h
  refine y_putR (pc := 17) flRX0_19 dX0_init_17 rfl (Or.inr ⟨rfl, rfl, rfl⟩) a8 e9 ?_
  exact y_ret (pc := 20) dX0_init_20 rfl h
def fX0_clear (l0 : Nat) (s : zS) : Option zS :=
  bnd (wI s 0 l0 1 0) fun s1 =>
  some s1
set_option maxRecDepth 100000 in
set_option maxHeartbeats 4000000 in
theorem okX0_clear {E : zE} {l0 : Nat} {s : zS} {t : zS} (h : fX0_clear l0 s = some t) : Cv E mX0_clear [.ref l0] s t := by
  refine Ct.of (ls := [(0, .ref l0)]) (by decide) rfl (Nat.le_of_ble_eq_true rfl) ?_
  show Z E mX0_clear 0 [(0, .ref l0)] [] s (0, 0) (zRv E mX0_clear t)
  unfold fX0_clear at h
  refine z_aload_n (pc := 0) 0 rfl dX0_clear_0 rfl ?_
  refine z_iconst (pc := 1) (v := 0) dX0_clear_1 (by decide) ?_
  obtain ⟨a2, s1, e3, h⟩ := jI h
  refine y_putI (pc := 2) flRX0_7 dX0_clear_2 rfl (Or.inl rfl) a2 e3 ?_
  exact y_ret (pc := 5) dX0_clear_5 rfl h
def fX0_written (l0 : Nat) (s : zS) : Option (Int32 × zS) :=
  bnd (qI s 0 l0 1) fun x1 =>
  some (x1, s)
set_option maxRecDepth 100000 in
set_option maxHeartbeats 4000000 in
theorem okX0_written {E : zE} {l0 : Nat} {s : zS} {q : Int32 × zS} (h : fX0_written l0 s = some q) : Ci E mX0_written [.ref l0] s q.1 q.2 := by
  refine Ct.of (ls := [(0, .ref l0)]) (by decide) rfl (Nat.le_of_ble_eq_true rfl) ?_
  show Z E mX0_written 0 [(0, .ref l0)] [] s (0, 0) (zRi E mX0_written q.1 q.2)
  unfold fX0_written at h
  refine z_aload_n (pc := 0) 0 rfl dX0_written_0 rfl ?_
  obtain ⟨a2, x1, e3, h⟩ := iI h
  refine y_getI (pc := 1) flRX0_7 dX0_written_1 rfl a2 e3 ?_
  exact y_iret (pc := 4) dX0_written_4 rfl h
def fX0_kept (l0 : Nat) (s : zS) : Option (Int32 × zS) :=
  bnd (qI s 0 l0 1) fun x1 =>
  bnd (qR s 0 l0 0) fun x4 =>
  bnd (qL s 11 x4) fun x7 =>
  some ((zmn x1 x7), s)
set_option maxRecDepth 100000 in
set_option maxHeartbeats 4000000 in
theorem okX0_kept {E : zE} {l0 : Nat} {s : zS} {q : Int32 × zS} (h : fX0_kept l0 s = some q) : Ci E mX0_kept [.ref l0] s q.1 q.2 := by
  refine Ct.of (ls := [(0, .ref l0)]) (by decide) rfl (Nat.le_of_ble_eq_true rfl) ?_
  show Z E mX0_kept 0 [(0, .ref l0)] [] s (0, 0) (zRi E mX0_kept q.1 q.2)
  unfold fX0_kept at h
  refine z_aload_n (pc := 0) 0 rfl dX0_kept_0 rfl ?_
  obtain ⟨a2, x1, e3, h⟩ := iI h
  refine y_getI (pc := 1) flRX0_7 dX0_kept_1 rfl a2 e3 ?_
  refine z_aload_n (pc := 4) 0 rfl dX0_kept_4 rfl ?_
  obtain ⟨a5, x4, e6, h⟩ := iR h
  refine y_getR (pc := 5) flRX0_19 dX0_kept_5 rfl a5 e6 ?_
  obtain ⟨a8, x7, e9, h⟩ := iL h
  refine y_alen (pc := 8) (c := 11) (by decide) dX0_kept_8 a8 e9 ?_
  refine z_min (pc := 9) mlRX0_23 ma_st_min ma_in ma_co_min dX0_kept_9 (Nat.le_of_ble_eq_true rfl) (Nat.le_of_ble_eq_true rfl) (fun _ => Nat.le_of_ble_eq_true rfl) ?_
  exact y_iret (pc := 12) dX0_kept_12 rfl h
def fX0_at (l0 : Nat) (l1 : Int32) (s : zS) : Option (Int32 × zS) :=
  if l1 < 0 then
    some (0, s)
  else
    bnd (qI s 0 l0 1) fun x1 =>
    if x1 ≤ l1 then
      some (0, s)
    else
      bnd (qR s 0 l0 0) fun x4 =>
      bnd (qL s 11 x4) fun x7 =>
      if x7 ≤ l1 then
        some (0, s)
      else
        bnd (qR s 0 l0 0) fun x10 =>
        bnd (qA s 11 x10 l1) fun x13 =>
        some ((x13 &&& 255), s)
set_option maxRecDepth 100000 in
set_option maxHeartbeats 4000000 in
theorem okX0_at {E : zE} {l0 : Nat} {l1 : Int32} {s : zS} {q : Int32 × zS} (h : fX0_at l0 l1 s = some q) : Ci E mX0_at [.ref l0, .int l1] s q.1 q.2 := by
  refine Ct.of (ls := [(0, .ref l0), (1, .int l1)]) (by decide) rfl (Nat.le_of_ble_eq_true rfl) ?_
  show Z E mX0_at 0 [(0, .ref l0), (1, .int l1)] [] s (0, 0) (zRi E mX0_at q.1 q.2)
  unfold fX0_at at h
  refine z_iload_n (pc := 0) 1 rfl dX0_at_0 rfl ?_
  refine z_if_lt (pc := 1) (tgt := 34) dX0_at_1 (by decide) (fun hc => ?_) (fun hc => ?_)
  · replace h := ifp hc h
    refine z_iconst (pc := 34) (v := 0) dX0_at_34 (by decide) ?_
    exact y_iret (pc := 35) dX0_at_35 rfl h
  · replace h := ifn hc h
    refine z_iload_n (pc := 4) 1 rfl dX0_at_4 rfl ?_
    refine z_aload_n (pc := 5) 0 rfl dX0_at_5 rfl ?_
    obtain ⟨a2, x1, e3, h⟩ := iI h
    refine y_getI (pc := 6) flRX0_7 dX0_at_6 rfl a2 e3 ?_
    refine z_icmp_ge (pc := 9) (tgt := 34) dX0_at_9 (by decide) (fun hc => ?_) (fun hc => ?_)
    · replace h := ifp hc h
      refine z_iconst (pc := 34) (v := 0) dX0_at_34 (by decide) ?_
      exact y_iret (pc := 35) dX0_at_35 rfl h
    · replace h := ifn hc h
      refine z_iload_n (pc := 12) 1 rfl dX0_at_12 rfl ?_
      refine z_aload_n (pc := 13) 0 rfl dX0_at_13 rfl ?_
      obtain ⟨a5, x4, e6, h⟩ := iR h
      refine y_getR (pc := 14) flRX0_19 dX0_at_14 rfl a5 e6 ?_
      obtain ⟨a8, x7, e9, h⟩ := iL h
      refine y_alen (pc := 17) (c := 11) (by decide) dX0_at_17 a8 e9 ?_
      refine z_icmp_ge (pc := 18) (tgt := 34) dX0_at_18 (by decide) (fun hc => ?_) (fun hc => ?_)
      · replace h := ifp hc h
        refine z_iconst (pc := 34) (v := 0) dX0_at_34 (by decide) ?_
        exact y_iret (pc := 35) dX0_at_35 rfl h
      · replace h := ifn hc h
        refine z_aload_n (pc := 21) 0 rfl dX0_at_21 rfl ?_
        obtain ⟨a11, x10, e12, h⟩ := iR h
        refine y_getR (pc := 22) flRX0_19 dX0_at_22 rfl a11 e12 ?_
        refine z_iload_n (pc := 25) 1 rfl dX0_at_25 rfl ?_
        obtain ⟨a14, x13, e15, h⟩ := iA h
        refine y_bald (pc := 26) dX0_at_26 a14 e15 ?_
        refine z_sipush (pc := 27) (v := 255) dX0_at_27 (by decide) ?_
        refine z_iand (pc := 30) dX0_at_30 ?_
        refine z_goto (pc := 31) (tgt := 35) dX0_at_31 (by decide) ?_
        exact y_iret (pc := 35) dX0_at_35 rfl h
def fX0_add_30  (l0 : Nat) (s : zS) : Option zS :=
  bnd (qI s 0 l0 1) fun x4 =>
  bnd (wI s 0 l0 1 (x4 + 1)) fun s7 =>
  some s7
set_option maxRecDepth 100000 in
set_option maxHeartbeats 4000000 in
theorem bX0_add_30 {E : zE}   {l0 : Nat} {s : zS} {q : zS} (h : fX0_add_30  l0 s = some q) : Z E mX0_add 30 [(0, .ref l0)] [] s (0, 0) (zRv E mX0_add q) := by
  unfold fX0_add_30 at h
  refine z_aload_n (pc := 30) 0 rfl dX0_add_30 rfl ?_
  refine z_dup (pc := 31) dX0_add_31 (fun _ => rfl) ?_
  obtain ⟨a5, x4, e6, h⟩ := iI h
  refine y_getI (pc := 32) flRX0_7 dX0_add_32 rfl a5 e6 ?_
  refine z_iconst (pc := 35) (v := 1) dX0_add_35 (by decide) ?_
  refine z_iadd (pc := 36) dX0_add_36 ?_
  obtain ⟨a8, s7, e9, h⟩ := jI h
  refine y_putI (pc := 37) flRX0_7 dX0_add_37 rfl (Or.inl rfl) a8 e9 ?_
  exact y_ret (pc := 40) dX0_add_40 rfl h
def fX0_add (l0 : Nat) (l1 : Int32) (s : zS) : Option zS :=
  bnd (qI s 0 l0 1) fun x1 =>
  if x1 < 0 then
    fX0_add_30  l0 s
  else
    bnd (qI s 0 l0 1) fun x4 =>
    bnd (qR s 0 l0 0) fun x7 =>
    bnd (qL s 11 x7) fun x10 =>
    if x10 ≤ x4 then
      fX0_add_30  l0 s
    else
      bnd (qR s 0 l0 0) fun x13 =>
      bnd (qI s 0 l0 1) fun x16 =>
      bnd (uB s x13 x16 (l1.toInt8.toInt32)) fun s19 =>
      fX0_add_30  l0 s19
set_option maxRecDepth 100000 in
set_option maxHeartbeats 4000000 in
theorem okX0_add {E : zE} {l0 : Nat} {l1 : Int32} {s : zS} {t : zS} (h : fX0_add l0 l1 s = some t) : Cv E mX0_add [.ref l0, .int l1] s t := by
  refine Ct.of (ls := [(0, .ref l0), (1, .int l1)]) (by decide) rfl (Nat.le_of_ble_eq_true rfl) ?_
  show Z E mX0_add 0 [(0, .ref l0), (1, .int l1)] [] s (0, 0) (zRv E mX0_add t)
  unfold fX0_add at h
  refine z_aload_n (pc := 0) 0 rfl dX0_add_0 rfl ?_
  obtain ⟨a2, x1, e3, h⟩ := iI h
  refine y_getI (pc := 1) flRX0_7 dX0_add_1 rfl a2 e3 ?_
  refine z_if_lt (pc := 4) (tgt := 30) dX0_add_4 (by decide) (fun hc => ?_) (fun hc => ?_)
  · replace h := ifp hc h
    exact z_sub [0] rfl (bX0_add_30  h)
  · replace h := ifn hc h
    refine z_aload_n (pc := 7) 0 rfl dX0_add_7 rfl ?_
    obtain ⟨a5, x4, e6, h⟩ := iI h
    refine y_getI (pc := 8) flRX0_7 dX0_add_8 rfl a5 e6 ?_
    refine z_aload_n (pc := 11) 0 rfl dX0_add_11 rfl ?_
    obtain ⟨a8, x7, e9, h⟩ := iR h
    refine y_getR (pc := 12) flRX0_19 dX0_add_12 rfl a8 e9 ?_
    obtain ⟨a11, x10, e12, h⟩ := iL h
    refine y_alen (pc := 15) (c := 11) (by decide) dX0_add_15 a11 e12 ?_
    refine z_icmp_ge (pc := 16) (tgt := 30) dX0_add_16 (by decide) (fun hc => ?_) (fun hc => ?_)
    · replace h := ifp hc h
      exact z_sub [0] rfl (bX0_add_30  h)
    · replace h := ifn hc h
      refine z_aload_n (pc := 19) 0 rfl dX0_add_19 rfl ?_
      obtain ⟨a14, x13, e15, h⟩ := iR h
      refine y_getR (pc := 20) flRX0_19 dX0_add_20 rfl a14 e15 ?_
      refine z_aload_n (pc := 23) 0 rfl dX0_add_23 rfl ?_
      obtain ⟨a17, x16, e18, h⟩ := iI h
      refine y_getI (pc := 24) flRX0_7 dX0_add_24 rfl a17 e18 ?_
      refine z_iload_n (pc := 27) 1 rfl dX0_add_27 rfl ?_
      refine z_i2b (pc := 28) dX0_add_28 ?_
      obtain ⟨a20, s19, e21, h⟩ := kB h
      refine y_bast (pc := 29) dX0_add_29 a20 e21 ?_
      exact z_sub [0] rfl (bX0_add_30  h)
def fX0_addWord (l0 : Nat) (l1 : Int32) (s : zS) : Option zS :=
  bnd (cl s 0 l0 (fX0_add l0 (zushr l1 24) s)) fun q1 =>
  bnd (cl q1 0 l0 (fX0_add l0 (zushr l1 16) q1)) fun q4 =>
  bnd (cl q4 0 l0 (fX0_add l0 (zushr l1 8) q4)) fun q7 =>
  bnd (cl q7 0 l0 (fX0_add l0 l1 q7)) fun q10 =>
  some q10
set_option maxRecDepth 100000 in
set_option maxHeartbeats 4000000 in
theorem okX0_addWord {E : zE} {l0 : Nat} {l1 : Int32} {s : zS} {t : zS} (h : fX0_addWord l0 l1 s = some t) : Cv E mX0_addWord [.ref l0, .int l1] s t := by
  refine Ct.of (ls := [(0, .ref l0), (1, .int l1)]) (by decide) rfl (Nat.le_of_ble_eq_true rfl) ?_
  show Z E mX0_addWord 0 [(0, .ref l0), (1, .int l1)] [] s (0, 0) (zRv E mX0_addWord t)
  unfold fX0_addWord at h
  refine z_aload_n (pc := 0) 0 rfl dX0_addWord_0 rfl ?_
  refine z_iload_n (pc := 1) 1 rfl dX0_addWord_1 rfl ?_
  refine z_bipush (pc := 2) (v := 24) dX0_addWord_2 (by decide) ?_
  refine z_iushr (pc := 4) dX0_addWord_4 ?_
  obtain ⟨a2, q1, e3, h⟩ := iC h
  refine y_V (pc := 5) (M2 := mX0_add) (As := [.int (zushr l1 24)]) (okX0_add e3) mvX0_add mlRX0_26 dX0_addWord_5 ⟨by decide, by decide⟩ rfl rfl rfl zrest0 a2 ?_
  refine z_aload_n (pc := 8) 0 rfl dX0_addWord_8 rfl ?_
  refine z_iload_n (pc := 9) 1 rfl dX0_addWord_9 rfl ?_
  refine z_bipush (pc := 10) (v := 16) dX0_addWord_10 (by decide) ?_
  refine z_iushr (pc := 12) dX0_addWord_12 ?_
  obtain ⟨a5, q4, e6, h⟩ := iC h
  refine y_V (pc := 13) (M2 := mX0_add) (As := [.int (zushr l1 16)]) (okX0_add e6) mvX0_add mlRX0_26 dX0_addWord_13 ⟨by decide, by decide⟩ rfl rfl rfl zrest0 a5 ?_
  refine z_aload_n (pc := 16) 0 rfl dX0_addWord_16 rfl ?_
  refine z_iload_n (pc := 17) 1 rfl dX0_addWord_17 rfl ?_
  refine z_bipush (pc := 18) (v := 8) dX0_addWord_18 (by decide) ?_
  refine z_iushr (pc := 20) dX0_addWord_20 ?_
  obtain ⟨a8, q7, e9, h⟩ := iC h
  refine y_V (pc := 21) (M2 := mX0_add) (As := [.int (zushr l1 8)]) (okX0_add e9) mvX0_add mlRX0_26 dX0_addWord_21 ⟨by decide, by decide⟩ rfl rfl rfl zrest0 a8 ?_
  refine z_aload_n (pc := 24) 0 rfl dX0_addWord_24 rfl ?_
  refine z_iload_n (pc := 25) 1 rfl dX0_addWord_25 rfl ?_
  obtain ⟨a11, q10, e12, h⟩ := iC h
  refine y_V (pc := 26) (M2 := mX0_add) (As := [.int l1]) (okX0_add e12) mvX0_add mlRX0_26 dX0_addWord_26 ⟨by decide, by decide⟩ rfl rfl rfl zrest0 a11 ?_
  exact y_ret (pc := 29) dX0_addWord_29 rfl h
def fX0_addDigits_55  (l0 : Nat) (l2 : Int32) (s : zS) : Option zS :=
  bnd (cl s 0 l0 (fX0_add l0 (48 + (l2 - l2 / 10 * 10)) s)) fun q1 =>
  some q1
set_option maxRecDepth 100000 in
set_option maxHeartbeats 4000000 in
theorem bX0_addDigits_55 {E : zE}   {l0 : Nat} {l2 : Int32} {s : zS} {q : zS} (h : fX0_addDigits_55  l0 l2 s = some q) : Z E mX0_addDigits 55 [(0, .ref l0), (2, .int l2)] [] s (0, 0) (zRv E mX0_addDigits q) := by
  unfold fX0_addDigits_55 at h
  refine z_aload_n (pc := 55) 0 rfl dX0_addDigits_55 rfl ?_
  refine z_bipush (pc := 56) (v := 48) dX0_addDigits_56 (by decide) ?_
  refine z_iload_n (pc := 58) 1 rfl dX0_addDigits_58 rfl ?_
  refine z_bipush (pc := 59) (v := 10) dX0_addDigits_59 (by decide) ?_
  refine z_irem (pc := 61) (by decide) dX0_addDigits_61 ?_
  refine z_iadd (pc := 62) dX0_addDigits_62 ?_
  obtain ⟨a2, q1, e3, h⟩ := iC h
  refine y_V (pc := 63) (M2 := mX0_add) (As := [.int (48 + (l2 - l2 / 10 * 10))]) (okX0_add e3) mvX0_add mlRX0_26 dX0_addDigits_63 ⟨by decide, by decide⟩ rfl rfl rfl zrest0 a2 ?_
  exact y_ret (pc := 66) dX0_addDigits_66 rfl h
def fX0_addDigits_35  (l0 : Nat) (l2 : Int32) (s : zS) : Option zS :=
  if l2 < 10 then
    fX0_addDigits_55  l0 l2 s
  else
    bnd (cl s 0 l0 (fX0_add l0 (48 + ((l2 / 10) - (l2 / 10) / 10 * 10)) s)) fun q1 =>
    fX0_addDigits_55  l0 l2 q1
set_option maxRecDepth 100000 in
set_option maxHeartbeats 4000000 in
theorem bX0_addDigits_35 {E : zE}   {l0 : Nat} {l2 : Int32} {s : zS} {q : zS} (h : fX0_addDigits_35  l0 l2 s = some q) : Z E mX0_addDigits 35 [(0, .ref l0), (2, .int l2)] [] s (0, 0) (zRv E mX0_addDigits q) := by
  unfold fX0_addDigits_35 at h
  refine z_iload_n (pc := 35) 1 rfl dX0_addDigits_35 rfl ?_
  refine z_bipush (pc := 36) (v := 10) dX0_addDigits_36 (by decide) ?_
  refine z_icmp_lt (pc := 38) (tgt := 55) dX0_addDigits_38 (by decide) (fun hc => ?_) (fun hc => ?_)
  · replace h := ifp hc h
    exact z_sub [0, 1] rfl (bX0_addDigits_55  h)
  · replace h := ifn hc h
    refine z_aload_n (pc := 41) 0 rfl dX0_addDigits_41 rfl ?_
    refine z_bipush (pc := 42) (v := 48) dX0_addDigits_42 (by decide) ?_
    refine z_iload_n (pc := 44) 1 rfl dX0_addDigits_44 rfl ?_
    refine z_bipush (pc := 45) (v := 10) dX0_addDigits_45 (by decide) ?_
    refine z_idiv (pc := 47) (by decide) dX0_addDigits_47 ?_
    refine z_bipush (pc := 48) (v := 10) dX0_addDigits_48 (by decide) ?_
    refine z_irem (pc := 50) (by decide) dX0_addDigits_50 ?_
    refine z_iadd (pc := 51) dX0_addDigits_51 ?_
    obtain ⟨a2, q1, e3, h⟩ := iC h
    refine y_V (pc := 52) (M2 := mX0_add) (As := [.int (48 + ((l2 / 10) - (l2 / 10) / 10 * 10))]) (okX0_add e3) mvX0_add mlRX0_26 dX0_addDigits_52 ⟨by decide, by decide⟩ rfl rfl rfl zrest0 a2 ?_
    exact z_sub [0, 1] rfl (bX0_addDigits_55  h)
def fX0_addDigits_15  (l0 : Nat) (l2 : Int32) (s : zS) : Option zS :=
  if l2 < 100 then
    fX0_addDigits_35  l0 l2 s
  else
    bnd (cl s 0 l0 (fX0_add l0 (48 + ((l2 / 100) - (l2 / 100) / 10 * 10)) s)) fun q1 =>
    fX0_addDigits_35  l0 l2 q1
set_option maxRecDepth 100000 in
set_option maxHeartbeats 4000000 in
theorem bX0_addDigits_15 {E : zE}   {l0 : Nat} {l2 : Int32} {s : zS} {q : zS} (h : fX0_addDigits_15  l0 l2 s = some q) : Z E mX0_addDigits 15 [(0, .ref l0), (2, .int l2)] [] s (0, 0) (zRv E mX0_addDigits q) := by
  unfold fX0_addDigits_15 at h
  refine z_iload_n (pc := 15) 1 rfl dX0_addDigits_15 rfl ?_
  refine z_bipush (pc := 16) (v := 100) dX0_addDigits_16 (by decide) ?_
  refine z_icmp_lt (pc := 18) (tgt := 35) dX0_addDigits_18 (by decide) (fun hc => ?_) (fun hc => ?_)
  · replace h := ifp hc h
    exact z_sub [0, 1] rfl (bX0_addDigits_35  h)
  · replace h := ifn hc h
    refine z_aload_n (pc := 21) 0 rfl dX0_addDigits_21 rfl ?_
    refine z_bipush (pc := 22) (v := 48) dX0_addDigits_22 (by decide) ?_
    refine z_iload_n (pc := 24) 1 rfl dX0_addDigits_24 rfl ?_
    refine z_bipush (pc := 25) (v := 100) dX0_addDigits_25 (by decide) ?_
    refine z_idiv (pc := 27) (by decide) dX0_addDigits_27 ?_
    refine z_bipush (pc := 28) (v := 10) dX0_addDigits_28 (by decide) ?_
    refine z_irem (pc := 30) (by decide) dX0_addDigits_30 ?_
    refine z_iadd (pc := 31) dX0_addDigits_31 ?_
    obtain ⟨a2, q1, e3, h⟩ := iC h
    refine y_V (pc := 32) (M2 := mX0_add) (As := [.int (48 + ((l2 / 100) - (l2 / 100) / 10 * 10))]) (okX0_add e3) mvX0_add mlRX0_26 dX0_addDigits_32 ⟨by decide, by decide⟩ rfl rfl rfl zrest0 a2 ?_
    exact z_sub [0, 1] rfl (bX0_addDigits_35  h)
def fX0_addDigits (l0 : Nat) (l1 : Int32) (s : zS) : Option zS :=
  if 0 ≤ l1 then
    fX0_addDigits_15  l0 (zab l1) s
  else
    bnd (cl s 0 l0 (fX0_add l0 45 s)) fun q1 =>
    fX0_addDigits_15  l0 (zab l1) q1
set_option maxRecDepth 100000 in
set_option maxHeartbeats 4000000 in
theorem okX0_addDigits {E : zE} {l0 : Nat} {l1 : Int32} {s : zS} {t : zS} (h : fX0_addDigits l0 l1 s = some t) : Cv E mX0_addDigits [.ref l0, .int l1] s t := by
  refine Ct.of (ls := [(0, .ref l0), (1, .int l1)]) (by decide) rfl (Nat.le_of_ble_eq_true rfl) ?_
  show Z E mX0_addDigits 0 [(0, .ref l0), (1, .int l1)] [] s (0, 0) (zRv E mX0_addDigits t)
  unfold fX0_addDigits at h
  refine z_iload_n (pc := 0) 1 rfl dX0_addDigits_0 rfl ?_
  refine z_abs (pc := 1) mlRX0_30 ma_st_abs ma_in ma_co_abs dX0_addDigits_1 (Nat.le_of_ble_eq_true rfl) (Nat.le_of_ble_eq_true rfl) (fun _ => Nat.le_of_ble_eq_true rfl) ?_
  refine z_istore_n (pc := 4) (ls' := [(2, .int (zab l1)), (0, .ref l0), (1, .int l1)]) dX0_addDigits_4 rfl (by decide) (fun _ => rfl) ?_
  refine z_iload_n (pc := 5) 2 rfl dX0_addDigits_5 rfl ?_
  refine z_if_ge (pc := 6) (tgt := 15) dX0_addDigits_6 (by decide) (fun hc => ?_) (fun hc => ?_)
  · replace h := ifp hc h
    exact z_sub [1, 0] rfl (bX0_addDigits_15  h)
  · replace h := ifn hc h
    refine z_aload_n (pc := 9) 1 rfl dX0_addDigits_9 rfl ?_
    refine z_bipush (pc := 10) (v := 45) dX0_addDigits_10 (by decide) ?_
    obtain ⟨a2, q1, e3, h⟩ := iC h
    refine y_V (pc := 12) (M2 := mX0_add) (As := [.int 45]) (okX0_add e3) mvX0_add mlRX0_26 dX0_addDigits_12 ⟨by decide, by decide⟩ rfl rfl rfl zrest0 a2 ?_
    exact z_sub [1, 0] rfl (bX0_addDigits_15  h)
def fX6_init (l0 : Nat) (l1 : Int32) (s : zS) : Option zS :=
  bnd (nA s 12 (zmx l1 0) 4000) fun s1 =>
  bnd (wR s1 6 l0 0 (zn s + 1)) fun s4 =>
  some s4
set_option maxRecDepth 100000 in
set_option maxHeartbeats 4000000 in
theorem okX6_init {E : zE} {l0 : Nat} {l1 : Int32} {s : zS} {t : zS} (h : fX6_init l0 l1 s = some t) : Cv E mX6_init [.ref l0, .int l1] s t := by
  refine Ct.of (ls := [(0, .ref l0), (1, .int l1)]) (by decide) rfl (Nat.le_of_ble_eq_true rfl) ?_
  show Z E mX6_init 0 [(0, .ref l0), (1, .int l1)] [] s (1, 4000) (zRv E mX6_init t)
  unfold fX6_init at h
  refine z_aload_n (pc := 0) 0 rfl dX6_init_0 rfl ?_
  refine z_objInit (pc := 1) mlRX6_1 ob_i ob_c dX6_init_1 (Nat.le_of_ble_eq_true rfl) (Nat.le_of_ble_eq_true rfl) zrest0 ?_
  refine z_aload_n (pc := 4) 0 rfl dX6_init_4 rfl ?_
  refine z_iload_n (pc := 5) 1 rfl dX6_init_5 rfl ?_
  refine z_iconst (pc := 6) (v := 0) dX6_init_6 (by decide) ?_
  refine z_max (pc := 7) mlRX6_7 ma_st_max ma_in ma_co_max dX6_init_7 (Nat.le_of_ble_eq_true rfl) (Nat.le_of_ble_eq_true rfl) (fun _ => Nat.le_of_ble_eq_true rfl) ?_
  obtain ⟨a2, s1, e3, h⟩ := iNA h
  refine y_newI (pc := 10) (m := 4000) (b1 := 0) (b2 := 0) ac_int dX6_init_10 (by decide) a2 rfl rfl e3 ?_
  obtain ⟨a5, s4, e6, h⟩ := jR h
  refine y_putR (pc := 12) flRX6_13 dX6_init_12 rfl (Or.inr ⟨rfl, rfl, rfl⟩) a5 e6 ?_
  exact y_ret (pc := 15) dX6_init_15 rfl h
def fX1_init (l0 : Nat) (l1 : Nat) (s : zS) : Option zS :=
  bnd (nO s 6) fun s1 =>
  bnd (fX6_init (zn s + 1) 4000 s1) fun q4 =>
  bnd (wR q4 1 l0 0 (zn s + 1)) fun s7 =>
  bnd (nO s7 6) fun s10 =>
  bnd (fX6_init (zn s7 + 1) 601 s10) fun q13 =>
  bnd (wR q13 1 l0 1 (zn s7 + 1)) fun s16 =>
  bnd (nO s16 6) fun s19 =>
  bnd (fX6_init (zn s16 + 1) 301 s19) fun q22 =>
  bnd (wR q22 1 l0 2 (zn s16 + 1)) fun s25 =>
  bnd (nO s25 6) fun s28 =>
  bnd (fX6_init (zn s25 + 1) 4000 s28) fun q31 =>
  bnd (wR q31 1 l0 3 (zn s25 + 1)) fun s34 =>
  bnd (nO s34 6) fun s37 =>
  bnd (fX6_init (zn s34 + 1) 302 s37) fun q40 =>
  bnd (wR q40 1 l0 4 (zn s34 + 1)) fun s43 =>
  bnd (nO s43 6) fun s46 =>
  bnd (fX6_init (zn s43 + 1) 302 s46) fun q49 =>
  bnd (wR q49 1 l0 5 (zn s43 + 1)) fun s52 =>
  bnd (wI s52 1 l0 7 0) fun s55 =>
  bnd (wI s55 1 l0 8 0) fun s58 =>
  bnd (wI s58 1 l0 9 0) fun s61 =>
  bnd (wR s61 1 l0 6 l1) fun s64 =>
  some s64
set_option maxRecDepth 100000 in
set_option maxHeartbeats 4000000 in
theorem okX1_init {E : zE} {l0 : Nat} {l1 : Nat} {s : zS} {t : zS} (h : fX1_init l0 l1 s = some t) : Cv E mX1_init [.ref l0, .ref l1] s t := by
  refine Ct.of (ls := [(0, .ref l0), (1, .ref l1)]) (by decide) rfl (Nat.le_of_ble_eq_true rfl) ?_
  show Z E mX1_init 0 [(0, .ref l0), (1, .ref l1)] [] s (12, 24006) (zRv E mX1_init t)
  unfold fX1_init at h
  refine z_aload_n (pc := 0) 0 rfl dX1_init_0 rfl ?_
  refine z_objInit (pc := 1) mlRX1_3 ob_i ob_c dX1_init_1 (Nat.le_of_ble_eq_true rfl) (Nat.le_of_ble_eq_true rfl) zrest0 ?_
  refine z_aload_n (pc := 4) 0 rfl dX1_init_4 rfl ?_
  obtain ⟨a2, s1, e3, h⟩ := iNO h
  refine y_new (pc := 5) (b1 := 11) (b2 := 24005) nlRX1_9 dX1_init_5 a2 rfl rfl e3 ?_
  refine z_dup (pc := 8) dX1_init_8 (fun _ => rfl) ?_
  refine z_sipush (pc := 9) (v := 4000) dX1_init_9 (by decide) ?_
  obtain ⟨q4, e6, h⟩ := bnd_i h
  refine y_I (pc := 12) (M2 := mX6_init) (As := [.int 4000]) (b1 := 10) (b2 := 20005) (okX6_init e6) mqX6_init miX6_init rfl rfl mlRX1_11 dX1_init_12 ⟨by decide, by decide⟩ rfl rfl (fun _ => Nat.le_of_ble_eq_true rfl) rfl rfl ?_
  obtain ⟨a8, s7, e9, h⟩ := jR h
  refine y_putR (pc := 15) flRX1_14 dX1_init_15 rfl (Or.inr ⟨rfl, rfl, rfl⟩) a8 e9 ?_
  refine z_aload_n (pc := 18) 0 rfl dX1_init_18 rfl ?_
  obtain ⟨a11, s10, e12, h⟩ := iNO h
  refine y_new (pc := 19) (b1 := 9) (b2 := 20004) nlRX1_9 dX1_init_19 a11 rfl rfl e12 ?_
  refine z_dup (pc := 22) dX1_init_22 (fun _ => rfl) ?_
  refine z_sipush (pc := 23) (v := 601) dX1_init_23 (by decide) ?_
  obtain ⟨q13, e15, h⟩ := bnd_i h
  refine y_I (pc := 26) (M2 := mX6_init) (As := [.int 601]) (b1 := 8) (b2 := 16004) (okX6_init e15) mqX6_init miX6_init rfl rfl mlRX1_11 dX1_init_26 ⟨by decide, by decide⟩ rfl rfl (fun _ => Nat.le_of_ble_eq_true rfl) rfl rfl ?_
  obtain ⟨a17, s16, e18, h⟩ := jR h
  refine y_putR (pc := 29) flRX1_20 dX1_init_29 rfl (Or.inr ⟨rfl, rfl, rfl⟩) a17 e18 ?_
  refine z_aload_n (pc := 32) 0 rfl dX1_init_32 rfl ?_
  obtain ⟨a20, s19, e21, h⟩ := iNO h
  refine y_new (pc := 33) (b1 := 7) (b2 := 16003) nlRX1_9 dX1_init_33 a20 rfl rfl e21 ?_
  refine z_dup (pc := 36) dX1_init_36 (fun _ => rfl) ?_
  refine z_sipush (pc := 37) (v := 301) dX1_init_37 (by decide) ?_
  obtain ⟨q22, e24, h⟩ := bnd_i h
  refine y_I (pc := 40) (M2 := mX6_init) (As := [.int 301]) (b1 := 6) (b2 := 12003) (okX6_init e24) mqX6_init miX6_init rfl rfl mlRX1_11 dX1_init_40 ⟨by decide, by decide⟩ rfl rfl (fun _ => Nat.le_of_ble_eq_true rfl) rfl rfl ?_
  obtain ⟨a26, s25, e27, h⟩ := jR h
  refine y_putR (pc := 43) flRX1_23 dX1_init_43 rfl (Or.inr ⟨rfl, rfl, rfl⟩) a26 e27 ?_
  refine z_aload_n (pc := 46) 0 rfl dX1_init_46 rfl ?_
  obtain ⟨a29, s28, e30, h⟩ := iNO h
  refine y_new (pc := 47) (b1 := 5) (b2 := 12002) nlRX1_9 dX1_init_47 a29 rfl rfl e30 ?_
  refine z_dup (pc := 50) dX1_init_50 (fun _ => rfl) ?_
  refine z_sipush (pc := 51) (v := 4000) dX1_init_51 (by decide) ?_
  obtain ⟨q31, e33, h⟩ := bnd_i h
  refine y_I (pc := 54) (M2 := mX6_init) (As := [.int 4000]) (b1 := 4) (b2 := 8002) (okX6_init e33) mqX6_init miX6_init rfl rfl mlRX1_11 dX1_init_54 ⟨by decide, by decide⟩ rfl rfl (fun _ => Nat.le_of_ble_eq_true rfl) rfl rfl ?_
  obtain ⟨a35, s34, e36, h⟩ := jR h
  refine y_putR (pc := 57) flRX1_26 dX1_init_57 rfl (Or.inr ⟨rfl, rfl, rfl⟩) a35 e36 ?_
  refine z_aload_n (pc := 60) 0 rfl dX1_init_60 rfl ?_
  obtain ⟨a38, s37, e39, h⟩ := iNO h
  refine y_new (pc := 61) (b1 := 3) (b2 := 8001) nlRX1_9 dX1_init_61 a38 rfl rfl e39 ?_
  refine z_dup (pc := 64) dX1_init_64 (fun _ => rfl) ?_
  refine z_sipush (pc := 65) (v := 302) dX1_init_65 (by decide) ?_
  obtain ⟨q40, e42, h⟩ := bnd_i h
  refine y_I (pc := 68) (M2 := mX6_init) (As := [.int 302]) (b1 := 2) (b2 := 4001) (okX6_init e42) mqX6_init miX6_init rfl rfl mlRX1_11 dX1_init_68 ⟨by decide, by decide⟩ rfl rfl (fun _ => Nat.le_of_ble_eq_true rfl) rfl rfl ?_
  obtain ⟨a44, s43, e45, h⟩ := jR h
  refine y_putR (pc := 71) flRX1_29 dX1_init_71 rfl (Or.inr ⟨rfl, rfl, rfl⟩) a44 e45 ?_
  refine z_aload_n (pc := 74) 0 rfl dX1_init_74 rfl ?_
  obtain ⟨a47, s46, e48, h⟩ := iNO h
  refine y_new (pc := 75) (b1 := 1) (b2 := 4000) nlRX1_9 dX1_init_75 a47 rfl rfl e48 ?_
  refine z_dup (pc := 78) dX1_init_78 (fun _ => rfl) ?_
  refine z_sipush (pc := 79) (v := 302) dX1_init_79 (by decide) ?_
  obtain ⟨q49, e51, h⟩ := bnd_i h
  refine y_I (pc := 82) (M2 := mX6_init) (As := [.int 302]) (b1 := 0) (b2 := 0) (okX6_init e51) mqX6_init miX6_init rfl rfl mlRX1_11 dX1_init_82 ⟨by decide, by decide⟩ rfl rfl (fun _ => Nat.le_of_ble_eq_true rfl) rfl rfl ?_
  obtain ⟨a53, s52, e54, h⟩ := jR h
  refine y_putR (pc := 85) flRX1_32 dX1_init_85 rfl (Or.inr ⟨rfl, rfl, rfl⟩) a53 e54 ?_
  refine z_aload_n (pc := 88) 0 rfl dX1_init_88 rfl ?_
  refine z_iconst (pc := 89) (v := 0) dX1_init_89 (by decide) ?_
  obtain ⟨a56, s55, e57, h⟩ := jI h
  refine y_putI (pc := 90) flRX1_35 dX1_init_90 rfl (Or.inl rfl) a56 e57 ?_
  refine z_aload_n (pc := 93) 0 rfl dX1_init_93 rfl ?_
  refine z_iconst (pc := 94) (v := 0) dX1_init_94 (by decide) ?_
  obtain ⟨a59, s58, e60, h⟩ := jI h
  refine y_putI (pc := 95) flRX1_39 dX1_init_95 rfl (Or.inl rfl) a59 e60 ?_
  refine z_aload_n (pc := 98) 0 rfl dX1_init_98 rfl ?_
  refine z_iconst (pc := 99) (v := 0) dX1_init_99 (by decide) ?_
  obtain ⟨a62, s61, e63, h⟩ := jI h
  refine y_putI (pc := 100) flRX1_42 dX1_init_100 rfl (Or.inl rfl) a62 e63 ?_
  refine z_aload_n (pc := 103) 0 rfl dX1_init_103 rfl ?_
  refine z_aload_n (pc := 104) 1 rfl dX1_init_104 rfl ?_
  obtain ⟨a65, s64, e66, h⟩ := jR h
  refine y_putR (pc := 105) flRX1_45 dX1_init_105 rfl (Or.inl rfl) a65 e66 ?_
  exact y_ret (pc := 108) dX1_init_108 rfl h
def fX6_put (l0 : Nat) (l1 : Int32) (l2 : Int32) (s : zS) : Option zS :=
  if l1 < 0 then
    some s
  else
    bnd (qR s 6 l0 0) fun x1 =>
    bnd (qL s 12 x1) fun x4 =>
    if x4 ≤ l1 then
      some s
    else
      bnd (qR s 6 l0 0) fun x7 =>
      bnd (uI s x7 l1 l2) fun s10 =>
      some s10
set_option maxRecDepth 100000 in
set_option maxHeartbeats 4000000 in
theorem okX6_put {E : zE} {l0 : Nat} {l1 : Int32} {l2 : Int32} {s : zS} {t : zS} (h : fX6_put l0 l1 l2 s = some t) : Cv E mX6_put [.ref l0, .int l1, .int l2] s t := by
  refine Ct.of (ls := [(0, .ref l0), (1, .int l1), (2, .int l2)]) (by decide) rfl (Nat.le_of_ble_eq_true rfl) ?_
  show Z E mX6_put 0 [(0, .ref l0), (1, .int l1), (2, .int l2)] [] s (0, 0) (zRv E mX6_put t)
  unfold fX6_put at h
  refine z_iload_n (pc := 0) 1 rfl dX6_put_0 rfl ?_
  refine z_if_lt (pc := 1) (tgt := 20) dX6_put_1 (by decide) (fun hc => ?_) (fun hc => ?_)
  · replace h := ifp hc h
    exact y_ret (pc := 20) dX6_put_20 rfl h
  · replace h := ifn hc h
    refine z_iload_n (pc := 4) 1 rfl dX6_put_4 rfl ?_
    refine z_aload_n (pc := 5) 0 rfl dX6_put_5 rfl ?_
    obtain ⟨a2, x1, e3, h⟩ := iR h
    refine y_getR (pc := 6) flRX6_13 dX6_put_6 rfl a2 e3 ?_
    obtain ⟨a5, x4, e6, h⟩ := iL h
    refine y_alen (pc := 9) (c := 12) (by decide) dX6_put_9 a5 e6 ?_
    refine z_icmp_ge (pc := 10) (tgt := 20) dX6_put_10 (by decide) (fun hc => ?_) (fun hc => ?_)
    · replace h := ifp hc h
      exact y_ret (pc := 20) dX6_put_20 rfl h
    · replace h := ifn hc h
      refine z_aload_n (pc := 13) 0 rfl dX6_put_13 rfl ?_
      obtain ⟨a8, x7, e9, h⟩ := iR h
      refine y_getR (pc := 14) flRX6_13 dX6_put_14 rfl a8 e9 ?_
      refine z_iload_n (pc := 17) 1 rfl dX6_put_17 rfl ?_
      refine z_iload_n (pc := 18) 2 rfl dX6_put_18 rfl ?_
      obtain ⟨a11, s10, e12, h⟩ := kI h
      refine y_iast (pc := 19) dX6_put_19 a11 e12 ?_
      exact y_ret (pc := 20) dX6_put_20 rfl h
def fX6_at (l0 : Nat) (l1 : Int32) (s : zS) : Option (Int32 × zS) :=
  if l1 < 0 then
    some (0, s)
  else
    bnd (qR s 6 l0 0) fun x1 =>
    bnd (qL s 12 x1) fun x4 =>
    if x4 ≤ l1 then
      some (0, s)
    else
      bnd (qR s 6 l0 0) fun x7 =>
      bnd (qA s 12 x7 l1) fun x10 =>
      some (x10, s)
set_option maxRecDepth 100000 in
set_option maxHeartbeats 4000000 in
theorem okX6_at {E : zE} {l0 : Nat} {l1 : Int32} {s : zS} {q : Int32 × zS} (h : fX6_at l0 l1 s = some q) : Ci E mX6_at [.ref l0, .int l1] s q.1 q.2 := by
  refine Ct.of (ls := [(0, .ref l0), (1, .int l1)]) (by decide) rfl (Nat.le_of_ble_eq_true rfl) ?_
  show Z E mX6_at 0 [(0, .ref l0), (1, .int l1)] [] s (0, 0) (zRi E mX6_at q.1 q.2)
  unfold fX6_at at h
  refine z_iload_n (pc := 0) 1 rfl dX6_at_0 rfl ?_
  refine z_if_lt (pc := 1) (tgt := 22) dX6_at_1 (by decide) (fun hc => ?_) (fun hc => ?_)
  · replace h := ifp hc h
    refine z_iconst (pc := 22) (v := 0) dX6_at_22 (by decide) ?_
    exact y_iret (pc := 23) dX6_at_23 rfl h
  · replace h := ifn hc h
    refine z_iload_n (pc := 4) 1 rfl dX6_at_4 rfl ?_
    refine z_aload_n (pc := 5) 0 rfl dX6_at_5 rfl ?_
    obtain ⟨a2, x1, e3, h⟩ := iR h
    refine y_getR (pc := 6) flRX6_13 dX6_at_6 rfl a2 e3 ?_
    obtain ⟨a5, x4, e6, h⟩ := iL h
    refine y_alen (pc := 9) (c := 12) (by decide) dX6_at_9 a5 e6 ?_
    refine z_icmp_ge (pc := 10) (tgt := 22) dX6_at_10 (by decide) (fun hc => ?_) (fun hc => ?_)
    · replace h := ifp hc h
      refine z_iconst (pc := 22) (v := 0) dX6_at_22 (by decide) ?_
      exact y_iret (pc := 23) dX6_at_23 rfl h
    · replace h := ifn hc h
      refine z_aload_n (pc := 13) 0 rfl dX6_at_13 rfl ?_
      obtain ⟨a8, x7, e9, h⟩ := iR h
      refine y_getR (pc := 14) flRX6_13 dX6_at_14 rfl a8 e9 ?_
      refine z_iload_n (pc := 17) 1 rfl dX6_at_17 rfl ?_
      obtain ⟨a11, x10, e12, h⟩ := iA h
      refine y_iald (pc := 18) dX6_at_18 a11 e12 ?_
      refine z_goto (pc := 19) (tgt := 23) dX6_at_19 (by decide) ?_
      exact y_iret (pc := 23) dX6_at_23 rfl h
def fX7_size (l0 : Nat) (l1 : Int32) (s : zS) : Option (Int32 × zS) :=
  bnd (qR s 7 l0 1) fun x1 =>
  bnd (cl s 6 x1 (fX6_at x1 l1 s)) fun q4 =>
  bnd (qR q4.2 7 l0 1) fun x7 =>
  bnd (cl q4.2 6 x7 (fX6_at x7 (l1 - 1) q4.2)) fun q10 =>
  some ((q4.1 - q10.1), q10.2)
set_option maxRecDepth 100000 in
set_option maxHeartbeats 4000000 in
theorem okX7_size {E : zE} {l0 : Nat} {l1 : Int32} {s : zS} {q : Int32 × zS} (h : fX7_size l0 l1 s = some q) : Ci E mX7_size [.ref l0, .int l1] s q.1 q.2 := by
  refine Ct.of (ls := [(0, .ref l0), (1, .int l1)]) (by decide) rfl (Nat.le_of_ble_eq_true rfl) ?_
  show Z E mX7_size 0 [(0, .ref l0), (1, .int l1)] [] s (0, 0) (zRi E mX7_size q.1 q.2)
  unfold fX7_size at h
  refine z_aload_n (pc := 0) 0 rfl dX7_size_0 rfl ?_
  obtain ⟨a2, x1, e3, h⟩ := iR h
  refine y_getR (pc := 1) flRX7_20 dX7_size_1 rfl a2 e3 ?_
  refine z_iload_n (pc := 4) 1 rfl dX7_size_4 rfl ?_
  obtain ⟨a5, q4, e6, h⟩ := iC h
  refine y_Vi (pc := 5) (M2 := mX6_at) (As := [.int l1]) (okX6_at e6) mvX6_at mlRX7_36 dX7_size_5 ⟨by decide, by decide⟩ rfl rfl rfl zrest0 a5 ?_
  refine z_aload_n (pc := 8) 0 rfl dX7_size_8 rfl ?_
  obtain ⟨a8, x7, e9, h⟩ := iR h
  refine y_getR (pc := 9) flRX7_20 dX7_size_9 rfl a8 e9 ?_
  refine z_iload_n (pc := 12) 1 rfl dX7_size_12 rfl ?_
  refine z_iconst (pc := 13) (v := 1) dX7_size_13 (by decide) ?_
  refine z_isub (pc := 14) dX7_size_14 ?_
  obtain ⟨a11, q10, e12, h⟩ := iC h
  refine y_Vi (pc := 15) (M2 := mX6_at) (As := [.int (l1 - 1)]) (okX6_at e12) mvX6_at mlRX7_36 dX7_size_15 ⟨by decide, by decide⟩ rfl rfl rfl (fun _ => Nat.le_of_ble_eq_true rfl) a11 ?_
  refine z_isub (pc := 18) dX7_size_18 ?_
  exact y_iret (pc := 19) dX7_size_19 rfl h
def fX7_literal (l0 : Nat) (l1 : Int32) (l2 : Int32) (s : zS) : Option (Int32 × zS) :=
  if l2 < 0 then
    some (0, s)
  else
    bnd (cl s 7 l0 (fX7_size l0 l1 s)) fun q1 =>
    if q1.1 ≤ l2 then
      some (0, q1.2)
    else
      bnd (qR q1.2 7 l0 0) fun x4 =>
      bnd (qR q1.2 7 l0 1) fun x7 =>
      bnd (cl q1.2 6 x7 (fX6_at x7 (l1 - 1) q1.2)) fun q10 =>
      bnd (cl q10.2 6 x4 (fX6_at x4 (q10.1 + l2) q10.2)) fun q13 =>
      some (q13.1, q13.2)
set_option maxRecDepth 100000 in
set_option maxHeartbeats 4000000 in
theorem okX7_literal {E : zE} {l0 : Nat} {l1 : Int32} {l2 : Int32} {s : zS} {q : Int32 × zS} (h : fX7_literal l0 l1 l2 s = some q) : Ci E mX7_literal [.ref l0, .int l1, .int l2] s q.1 q.2 := by
  refine Ct.of (ls := [(0, .ref l0), (1, .int l1), (2, .int l2)]) (by decide) rfl (Nat.le_of_ble_eq_true rfl) ?_
  show Z E mX7_literal 0 [(0, .ref l0), (1, .int l1), (2, .int l2)] [] s (0, 0) (zRi E mX7_literal q.1 q.2)
  unfold fX7_literal at h
  refine z_iload_n (pc := 0) 2 rfl dX7_literal_0 rfl ?_
  refine z_if_lt (pc := 1) (tgt := 35) dX7_literal_1 (by decide) (fun hc => ?_) (fun hc => ?_)
  · replace h := ifp hc h
    refine z_iconst (pc := 35) (v := 0) dX7_literal_35 (by decide) ?_
    exact y_iret (pc := 36) dX7_literal_36 rfl h
  · replace h := ifn hc h
    refine z_iload_n (pc := 4) 2 rfl dX7_literal_4 rfl ?_
    refine z_aload_n (pc := 5) 0 rfl dX7_literal_5 rfl ?_
    refine z_iload_n (pc := 6) 1 rfl dX7_literal_6 rfl ?_
    obtain ⟨a2, q1, e3, h⟩ := iC h
    refine y_Vi (pc := 7) (M2 := mX7_size) (As := [.int l1]) (okX7_size e3) mvX7_size mlRX7_44 dX7_literal_7 ⟨by decide, by decide⟩ rfl rfl rfl (fun _ => Nat.le_of_ble_eq_true rfl) a2 ?_
    refine z_icmp_ge (pc := 10) (tgt := 35) dX7_literal_10 (by decide) (fun hc => ?_) (fun hc => ?_)
    · replace h := ifp hc h
      refine z_iconst (pc := 35) (v := 0) dX7_literal_35 (by decide) ?_
      exact y_iret (pc := 36) dX7_literal_36 rfl h
    · replace h := ifn hc h
      refine z_aload_n (pc := 13) 0 rfl dX7_literal_13 rfl ?_
      obtain ⟨a5, x4, e6, h⟩ := iR h
      refine y_getR (pc := 14) flRX7_14 dX7_literal_14 rfl a5 e6 ?_
      refine z_aload_n (pc := 17) 0 rfl dX7_literal_17 rfl ?_
      obtain ⟨a8, x7, e9, h⟩ := iR h
      refine y_getR (pc := 18) flRX7_20 dX7_literal_18 rfl a8 e9 ?_
      refine z_iload_n (pc := 21) 1 rfl dX7_literal_21 rfl ?_
      refine z_iconst (pc := 22) (v := 1) dX7_literal_22 (by decide) ?_
      refine z_isub (pc := 23) dX7_literal_23 ?_
      obtain ⟨a11, q10, e12, h⟩ := iC h
      refine y_Vi (pc := 24) (M2 := mX6_at) (As := [.int (l1 - 1)]) (okX6_at e12) mvX6_at mlRX7_36 dX7_literal_24 ⟨by decide, by decide⟩ rfl rfl rfl (fun _ => Nat.le_of_ble_eq_true rfl) a11 ?_
      refine z_iload_n (pc := 27) 2 rfl dX7_literal_27 rfl ?_
      refine z_iadd (pc := 28) dX7_literal_28 ?_
      obtain ⟨a14, q13, e15, h⟩ := iC h
      refine y_Vi (pc := 29) (M2 := mX6_at) (As := [.int (q10.1 + l2)]) (okX6_at e15) mvX6_at mlRX7_36 dX7_literal_29 ⟨by decide, by decide⟩ rfl rfl rfl zrest0 a14 ?_
      refine z_goto (pc := 32) (tgt := 36) dX7_literal_32 (by decide) ?_
      exact y_iret (pc := 36) dX7_literal_36 rfl h
def fX1_append_9  (n : Nat) : Nat → Nat → Int32 → Int32 → Int32 → zS → Option zS := match n with
  | 0 => fun _ _ _ _ _ _ => none
  | n + 1 => fun l0 l1 l2 l3 l4 s =>
    if l3 ≤ l4 then
      bnd (qI s 1 l0 7) fun x4 =>
      bnd (wI s 1 l0 7 (x4 + l3)) fun s7 =>
      bnd (qI s7 1 l0 9) fun x10 =>
      bnd (wI s7 1 l0 9 (x10 + 1)) fun s13 =>
      bnd (qR s13 1 l0 1) fun x16 =>
      bnd (qI s13 1 l0 9) fun x19 =>
      bnd (qI s13 1 l0 7) fun x22 =>
      bnd (cl s13 6 x16 (fX6_put x16 x19 x22 s13)) fun q25 =>
      some q25
    else
      bnd (qR s 1 l0 0) fun x28 =>
      bnd (qI s 1 l0 7) fun x31 =>
      bnd (cl s 7 l1 (fX7_literal l1 l2 l4 s)) fun q34 =>
      bnd (cl q34.2 6 x28 (fX6_put x28 (x31 + l4) q34.1 q34.2)) fun q37 =>
      (fX1_append_9  n) l0 l1 l2 l3 (l4 + 1) q37
set_option maxRecDepth 100000 in
set_option maxHeartbeats 4000000 in
theorem bX1_append_9 {E : zE}  : ∀ (n : Nat) {l0 : Nat} {l1 : Nat} {l2 : Int32} {l3 : Int32} {l4 : Int32} {s : zS} {q : zS}, fX1_append_9  n l0 l1 l2 l3 l4 s = some q → Z E mX1_append 9 [(0, .ref l0), (1, .ref l1), (2, .int l2), (3, .int l3), (4, .int l4)] [] s (0, 0) (zRv E mX1_append q) := by
  intro n
  induction n with
  | zero => intro l0 l1 l2 l3 l4 s q h; cases h
  | succ n ih =>
    intro l0 l1 l2 l3 l4 s q h
    unfold fX1_append_9 at h
    refine z_iload (pc := 9) 4 rfl dX1_append_9 ?_
    refine z_iload_n (pc := 11) 3 rfl dX1_append_11 rfl ?_
    refine z_icmp_ge (pc := 12) (tgt := 42) dX1_append_12 (by decide) (fun hc => ?_) (fun hc => ?_)
    · replace h := ifp hc h
      refine z_aload_n (pc := 42) 0 rfl dX1_append_42 rfl ?_
      refine z_dup (pc := 43) dX1_append_43 (fun _ => rfl) ?_
      obtain ⟨a5, x4, e6, h⟩ := iI h
      refine y_getI (pc := 44) flRX1_35 dX1_append_44 rfl a5 e6 ?_
      refine z_iload_n (pc := 47) 3 rfl dX1_append_47 rfl ?_
      refine z_iadd (pc := 48) dX1_append_48 ?_
      obtain ⟨a8, s7, e9, h⟩ := jI h
      refine y_putI (pc := 49) flRX1_35 dX1_append_49 rfl (Or.inl rfl) a8 e9 ?_
      refine z_aload_n (pc := 52) 0 rfl dX1_append_52 rfl ?_
      refine z_dup (pc := 53) dX1_append_53 (fun _ => rfl) ?_
      obtain ⟨a11, x10, e12, h⟩ := iI h
      refine y_getI (pc := 54) flRX1_42 dX1_append_54 rfl a11 e12 ?_
      refine z_iconst (pc := 57) (v := 1) dX1_append_57 (by decide) ?_
      refine z_iadd (pc := 58) dX1_append_58 ?_
      obtain ⟨a14, s13, e15, h⟩ := jI h
      refine y_putI (pc := 59) flRX1_42 dX1_append_59 rfl (Or.inl rfl) a14 e15 ?_
      refine z_aload_n (pc := 62) 0 rfl dX1_append_62 rfl ?_
      obtain ⟨a17, x16, e18, h⟩ := iR h
      refine y_getR (pc := 63) flRX1_20 dX1_append_63 rfl a17 e18 ?_
      refine z_aload_n (pc := 66) 0 rfl dX1_append_66 rfl ?_
      obtain ⟨a20, x19, e21, h⟩ := iI h
      refine y_getI (pc := 67) flRX1_42 dX1_append_67 rfl a20 e21 ?_
      refine z_aload_n (pc := 70) 0 rfl dX1_append_70 rfl ?_
      obtain ⟨a23, x22, e24, h⟩ := iI h
      refine y_getI (pc := 71) flRX1_35 dX1_append_71 rfl a23 e24 ?_
      obtain ⟨a26, q25, e27, h⟩ := iC h
      refine y_V (pc := 74) (M2 := mX6_put) (As := [.int x19, .int x22]) (okX6_put e27) mvX6_put mlRX1_63 dX1_append_74 ⟨by decide, by decide⟩ rfl rfl rfl zrest0 a26 ?_
      exact y_ret (pc := 77) dX1_append_77 rfl h
    · replace h := ifn hc h
      refine z_aload_n (pc := 15) 0 rfl dX1_append_15 rfl ?_
      obtain ⟨a29, x28, e30, h⟩ := iR h
      refine y_getR (pc := 16) flRX1_14 dX1_append_16 rfl a29 e30 ?_
      refine z_aload_n (pc := 19) 0 rfl dX1_append_19 rfl ?_
      obtain ⟨a32, x31, e33, h⟩ := iI h
      refine y_getI (pc := 20) flRX1_35 dX1_append_20 rfl a32 e33 ?_
      refine z_iload (pc := 23) 4 rfl dX1_append_23 ?_
      refine z_iadd (pc := 25) dX1_append_25 ?_
      refine z_aload_n (pc := 26) 1 rfl dX1_append_26 rfl ?_
      refine z_iload_n (pc := 27) 2 rfl dX1_append_27 rfl ?_
      refine z_iload (pc := 28) 4 rfl dX1_append_28 ?_
      obtain ⟨a35, q34, e36, h⟩ := iC h
      refine y_Vi (pc := 30) (M2 := mX7_literal) (As := [.int l2, .int l4]) (okX7_literal e36) mvX7_literal mlRX1_78 dX1_append_30 ⟨by decide, by decide⟩ rfl rfl rfl (fun _ => Nat.le_of_ble_eq_true rfl) a35 ?_
      obtain ⟨a38, q37, e39, h⟩ := iC h
      refine y_V (pc := 33) (M2 := mX6_put) (As := [.int (x31 + l4), .int q34.1]) (okX6_put e39) mvX6_put mlRX1_63 dX1_append_33 ⟨by decide, by decide⟩ rfl rfl rfl zrest0 a38 ?_
      refine z_iinc (pc := 36) (v := (l4 + 1)) (ls' := [(4, .int (l4 + 1)), (0, .ref l0), (1, .ref l1), (2, .int l2), (3, .int l3)]) 4 rfl rfl dX1_append_36 (by decide) (fun _ => rfl) ?_
      refine z_goto (pc := 39) (tgt := 9) dX1_append_39 (by decide) ?_
      exact z_sub [1, 2, 3, 4, 0] rfl (ih h)
def fX1_append (l0 : Nat) (l1 : Nat) (l2 : Int32) (s : zS) : Option zS :=
  bnd (cl s 7 l1 (fX7_size l1 l2 s)) fun q1 =>
  fX1_append_9  zfu l0 l1 l2 q1.1 0 q1.2
set_option maxRecDepth 100000 in
set_option maxHeartbeats 4000000 in
theorem okX1_append {E : zE} {l0 : Nat} {l1 : Nat} {l2 : Int32} {s : zS} {t : zS} (h : fX1_append l0 l1 l2 s = some t) : Cv E mX1_append [.ref l0, .ref l1, .int l2] s t := by
  refine Ct.of (ls := [(0, .ref l0), (1, .ref l1), (2, .int l2)]) (by decide) rfl (Nat.le_of_ble_eq_true rfl) ?_
  show Z E mX1_append 0 [(0, .ref l0), (1, .ref l1), (2, .int l2)] [] s (0, 0) (zRv E mX1_append t)
  unfold fX1_append at h
  refine z_aload_n (pc := 0) 1 rfl dX1_append_0 rfl ?_
  refine z_iload_n (pc := 1) 2 rfl dX1_append_1 rfl ?_
  obtain ⟨a2, q1, e3, h⟩ := iC h
  refine y_Vi (pc := 2) (M2 := mX7_size) (As := [.int l2]) (okX7_size e3) mvX7_size mlRX1_77 dX1_append_2 ⟨by decide, by decide⟩ rfl rfl rfl zrest0 a2 ?_
  refine z_istore_n (pc := 5) (ls' := [(3, .int q1.1), (0, .ref l0), (1, .ref l1), (2, .int l2)]) dX1_append_5 rfl (by decide) (fun _ => rfl) ?_
  refine z_iconst (pc := 6) (v := 0) dX1_append_6 (by decide) ?_
  refine z_istore (pc := 7) (ls' := [(4, .int 0), (3, .int q1.1), (0, .ref l0), (1, .ref l1), (2, .int l2)]) dX1_append_7 (by decide) (fun _ => rfl) ?_
  exact z_sub [2, 3, 4, 1, 0] rfl (bX1_append_9  _ h)
def fX1_literal (l0 : Nat) (l1 : Int32) (l2 : Int32) (s : zS) : Option (Int32 × zS) :=
  bnd (qR s 1 l0 1) fun x1 =>
  bnd (cl s 6 x1 (fX6_at x1 (l1 - 1) s)) fun q4 =>
  if l2 < 0 then
    some (0, q4.2)
  else
    bnd (qR q4.2 1 l0 1) fun x7 =>
    bnd (cl q4.2 6 x7 (fX6_at x7 l1 q4.2)) fun q10 =>
    if (q10.1 - q4.1) ≤ l2 then
      some (0, q10.2)
    else
      bnd (qR q10.2 1 l0 0) fun x13 =>
      bnd (cl q10.2 6 x13 (fX6_at x13 (q4.1 + l2) q10.2)) fun q16 =>
      some (q16.1, q16.2)
set_option maxRecDepth 100000 in
set_option maxHeartbeats 4000000 in
theorem okX1_literal {E : zE} {l0 : Nat} {l1 : Int32} {l2 : Int32} {s : zS} {q : Int32 × zS} (h : fX1_literal l0 l1 l2 s = some q) : Ci E mX1_literal [.ref l0, .int l1, .int l2] s q.1 q.2 := by
  refine Ct.of (ls := [(0, .ref l0), (1, .int l1), (2, .int l2)]) (by decide) rfl (Nat.le_of_ble_eq_true rfl) ?_
  show Z E mX1_literal 0 [(0, .ref l0), (1, .int l1), (2, .int l2)] [] s (0, 0) (zRi E mX1_literal q.1 q.2)
  unfold fX1_literal at h
  refine z_aload_n (pc := 0) 0 rfl dX1_literal_0 rfl ?_
  obtain ⟨a2, x1, e3, h⟩ := iR h
  refine y_getR (pc := 1) flRX1_20 dX1_literal_1 rfl a2 e3 ?_
  refine z_iload_n (pc := 4) 1 rfl dX1_literal_4 rfl ?_
  refine z_iconst (pc := 5) (v := 1) dX1_literal_5 (by decide) ?_
  refine z_isub (pc := 6) dX1_literal_6 ?_
  obtain ⟨a5, q4, e6, h⟩ := iC h
  refine y_Vi (pc := 7) (M2 := mX6_at) (As := [.int (l1 - 1)]) (okX6_at e6) mvX6_at mlRX1_70 dX1_literal_7 ⟨by decide, by decide⟩ rfl rfl rfl zrest0 a5 ?_
  refine z_istore_n (pc := 10) (ls' := [(3, .int q4.1), (0, .ref l0), (1, .int l1), (2, .int l2)]) dX1_literal_10 rfl (by decide) (fun _ => rfl) ?_
  refine z_iload_n (pc := 11) 3 rfl dX1_literal_11 rfl ?_
  refine z_if_lt (pc := 12) (tgt := 42) dX1_literal_12 (by decide) (fun hc => ?_) (fun hc => ?_)
  · replace h := ifp hc h
    refine z_iconst (pc := 42) (v := 0) dX1_literal_42 (by decide) ?_
    exact y_iret (pc := 43) dX1_literal_43 rfl h
  · replace h := ifn hc h
    refine z_iload_n (pc := 15) 3 rfl dX1_literal_15 rfl ?_
    refine z_aload_n (pc := 16) 1 rfl dX1_literal_16 rfl ?_
    obtain ⟨a8, x7, e9, h⟩ := iR h
    refine y_getR (pc := 17) flRX1_20 dX1_literal_17 rfl a8 e9 ?_
    refine z_iload_n (pc := 20) 2 rfl dX1_literal_20 rfl ?_
    obtain ⟨a11, q10, e12, h⟩ := iC h
    refine y_Vi (pc := 21) (M2 := mX6_at) (As := [.int l1]) (okX6_at e12) mvX6_at mlRX1_70 dX1_literal_21 ⟨by decide, by decide⟩ rfl rfl rfl (fun _ => Nat.le_of_ble_eq_true rfl) a11 ?_
    refine z_iload_n (pc := 24) 0 rfl dX1_literal_24 rfl ?_
    refine z_isub (pc := 25) dX1_literal_25 ?_
    refine z_icmp_ge (pc := 26) (tgt := 42) dX1_literal_26 (by decide) (fun hc => ?_) (fun hc => ?_)
    · replace h := ifp hc h
      refine z_iconst (pc := 42) (v := 0) dX1_literal_42 (by decide) ?_
      exact y_iret (pc := 43) dX1_literal_43 rfl h
    · replace h := ifn hc h
      refine z_aload_n (pc := 29) 1 rfl dX1_literal_29 rfl ?_
      obtain ⟨a14, x13, e15, h⟩ := iR h
      refine y_getR (pc := 30) flRX1_14 dX1_literal_30 rfl a14 e15 ?_
      refine z_iload_n (pc := 33) 0 rfl dX1_literal_33 rfl ?_
      refine z_iload_n (pc := 34) 3 rfl dX1_literal_34 rfl ?_
      refine z_iadd (pc := 35) dX1_literal_35 ?_
      obtain ⟨a17, q16, e18, h⟩ := iC h
      refine y_Vi (pc := 36) (M2 := mX6_at) (As := [.int (q4.1 + l2)]) (okX6_at e18) mvX6_at mlRX1_70 dX1_literal_36 ⟨by decide, by decide⟩ rfl rfl rfl zrest0 a17 ?_
      refine z_goto (pc := 39) (tgt := 43) dX1_literal_39 (by decide) ?_
      exact y_iret (pc := 43) dX1_literal_43 rfl h
def fJ7_fill_53178_5  (n : Nat) : Nat → Int32 → Int32 → Int32 → zS → Option zS := match n with
  | 0 => fun _ _ _ _ _ => none
  | n + 1 => fun l0 l1 l2 l3 s =>
    if l3 ≤ l2 then
      some s
    else
      bnd (uI s l0 l2 l1) fun s4 =>
      (fJ7_fill_53178_5  n) l0 l1 (l2 + 1) l3 s4
set_option maxRecDepth 100000 in
set_option maxHeartbeats 4000000 in
theorem bJ7_fill_53178_5 {E : zE}  : ∀ (n : Nat) {l0 : Nat} {l1 : Int32} {l2 : Int32} {l3 : Int32} {s : zS} {q : zS}, fJ7_fill_53178_5  n l0 l1 l2 l3 s = some q → Z E mJ7_fill_53178 5 [(0, .ref l0), (1, .int l1), (2, .int l2), (3, .int l3)] [] s (0, 0) (zRv E mJ7_fill_53178 q) := by
  intro n
  induction n with
  | zero => intro l0 l1 l2 l3 s q h; cases h
  | succ n ih =>
    intro l0 l1 l2 l3 s q h
    unfold fJ7_fill_53178_5 at h
    refine z_iload_n (pc := 5) 2 rfl dJ7_fill_53178_5 rfl ?_
    refine z_iload_n (pc := 6) 3 rfl dJ7_fill_53178_6 rfl ?_
    refine z_icmp_ge (pc := 7) (tgt := 20) dJ7_fill_53178_7 (by decide) (fun hc => ?_) (fun hc => ?_)
    · replace h := ifp hc h
      exact y_ret (pc := 20) dJ7_fill_53178_20 rfl h
    · replace h := ifn hc h
      refine z_aload_n (pc := 10) 0 rfl dJ7_fill_53178_10 rfl ?_
      refine z_iload_n (pc := 11) 2 rfl dJ7_fill_53178_11 rfl ?_
      refine z_iload_n (pc := 12) 1 rfl dJ7_fill_53178_12 rfl ?_
      obtain ⟨a5, s4, e6, h⟩ := kI h
      refine y_iast (pc := 13) dJ7_fill_53178_13 a5 e6 ?_
      refine z_iinc (pc := 14) (v := (l2 + 1)) (ls' := [(2, .int (l2 + 1)), (0, .ref l0), (1, .int l1), (3, .int l3)]) 2 rfl rfl dJ7_fill_53178_14 (by decide) (fun _ => rfl) ?_
      refine z_goto (pc := 17) (tgt := 5) dJ7_fill_53178_17 (by decide) ?_
      exact z_sub [1, 2, 0, 3] rfl (ih h)
def fJ7_fill_53178 (l0 : Nat) (l1 : Int32) (s : zS) : Option zS :=
  bnd (qL s 12 l0) fun x1 =>
  fJ7_fill_53178_5  zfu l0 l1 0 x1 s
set_option maxRecDepth 100000 in
set_option maxHeartbeats 4000000 in
theorem okJ7_fill_53178 {E : zE} {l0 : Nat} {l1 : Int32} {s : zS} {t : zS} (h : fJ7_fill_53178 l0 l1 s = some t) : Cv E mJ7_fill_53178 [.ref l0, .int l1] s t := by
  refine Ct.of (ls := [(0, .ref l0), (1, .int l1)]) (by decide) rfl (Nat.le_of_ble_eq_true rfl) ?_
  show Z E mJ7_fill_53178 0 [(0, .ref l0), (1, .int l1)] [] s (0, 0) (zRv E mJ7_fill_53178 t)
  unfold fJ7_fill_53178 at h
  refine z_iconst (pc := 0) (v := 0) dJ7_fill_53178_0 (by decide) ?_
  refine z_istore_n (pc := 1) (ls' := [(2, .int 0), (0, .ref l0), (1, .int l1)]) dJ7_fill_53178_1 rfl (by decide) (fun _ => rfl) ?_
  refine z_aload_n (pc := 2) 1 rfl dJ7_fill_53178_2 rfl ?_
  obtain ⟨a2, x1, e3, h⟩ := iL h
  refine y_alen (pc := 3) (c := 12) (by decide) dJ7_fill_53178_3 a2 e3 ?_
  refine z_istore_n (pc := 4) (ls' := [(3, .int x1), (2, .int 0), (0, .ref l0), (1, .int l1)]) dJ7_fill_53178_4 rfl (by decide) (fun _ => rfl) ?_
  exact z_sub [2, 3, 1, 0] rfl (bJ7_fill_53178_5  _ h)
def fX6_fill (l0 : Nat) (l1 : Int32) (s : zS) : Option zS :=
  bnd (qR s 6 l0 0) fun x1 =>
  bnd (fJ7_fill_53178 x1 l1 s) fun q4 =>
  some q4
set_option maxRecDepth 100000 in
set_option maxHeartbeats 4000000 in
theorem okX6_fill {E : zE} {l0 : Nat} {l1 : Int32} {s : zS} {t : zS} (h : fX6_fill l0 l1 s = some t) : Cv E mX6_fill [.ref l0, .int l1] s t := by
  refine Ct.of (ls := [(0, .ref l0), (1, .int l1)]) (by decide) rfl (Nat.le_of_ble_eq_true rfl) ?_
  show Z E mX6_fill 0 [(0, .ref l0), (1, .int l1)] [] s (0, 0) (zRv E mX6_fill t)
  unfold fX6_fill at h
  refine z_aload_n (pc := 0) 0 rfl dX6_fill_0 rfl ?_
  obtain ⟨a2, x1, e3, h⟩ := iR h
  refine y_getR (pc := 1) flRX6_13 dX6_fill_1 rfl a2 e3 ?_
  refine z_iload_n (pc := 4) 1 rfl dX6_fill_4 rfl ?_
  obtain ⟨q4, e6, h⟩ := bnd_i h
  refine y_S (pc := 5) (M2 := mJ7_fill_53178) (As := [.ref x1, .int l1]) (okJ7_fill_53178 e6) mqJ7_fill_53178 msJ7_fill_53178 mlRX6_19 dX6_fill_5 ⟨by decide, by decide⟩ rfl rfl rfl zrest0 ?_
  exact y_ret (pc := 8) dX6_fill_8 rfl h
def fX9_codeOf (l0 : Int32) (s : zS) : Option (Int32 × zS) :=
  if l0 < 0 then
    some ((1 - (2 * l0)), s)
  else
    some ((2 * l0), s)
set_option maxRecDepth 100000 in
set_option maxHeartbeats 4000000 in
theorem okX9_codeOf {E : zE} {l0 : Int32} {s : zS} {q : Int32 × zS} (h : fX9_codeOf l0 s = some q) : Ci E mX9_codeOf [.int l0] s q.1 q.2 := by
  refine Ct.of (ls := [(0, .int l0)]) (by decide) rfl (Nat.le_of_ble_eq_true rfl) ?_
  show Z E mX9_codeOf 0 [(0, .int l0)] [] s (0, 0) (zRi E mX9_codeOf q.1 q.2)
  unfold fX9_codeOf at h
  refine z_iload_n (pc := 0) 0 rfl dX9_codeOf_0 rfl ?_
  refine z_if_lt (pc := 1) (tgt := 10) dX9_codeOf_1 (by decide) (fun hc => ?_) (fun hc => ?_)
  · replace h := ifp hc h
    refine z_iconst (pc := 10) (v := 1) dX9_codeOf_10 (by decide) ?_
    refine z_iconst (pc := 11) (v := 2) dX9_codeOf_11 (by decide) ?_
    refine z_iload_n (pc := 12) 0 rfl dX9_codeOf_12 rfl ?_
    refine z_imul (pc := 13) dX9_codeOf_13 ?_
    refine z_isub (pc := 14) dX9_codeOf_14 ?_
    exact y_iret (pc := 15) dX9_codeOf_15 rfl h
  · replace h := ifn hc h
    refine z_iconst (pc := 4) (v := 2) dX9_codeOf_4 (by decide) ?_
    refine z_iload_n (pc := 5) 0 rfl dX9_codeOf_5 rfl ?_
    refine z_imul (pc := 6) dX9_codeOf_6 ?_
    refine z_goto (pc := 7) (tgt := 15) dX9_codeOf_7 (by decide) ?_
    exact y_iret (pc := 15) dX9_codeOf_15 rfl h
def fX1_reserveUses_58  (n : Nat) : Nat → Int32 → Int32 → zS → Option zS := match n with
  | 0 => fun _ _ _ _ => none
  | n + 1 => fun l0 l1 l2 s =>
    if 301 < l2 then
      some s
    else
      bnd (qR s 1 l0 5) fun x10 =>
      bnd (cl s 6 x10 (fX6_at x10 l2 s)) fun q13 =>
      bnd (qR q13.2 1 l0 4) fun x16 =>
      bnd (cl q13.2 6 x16 (fX6_put x16 l2 l1 q13.2)) fun q19 =>
      bnd (qR q19 1 l0 5) fun x22 =>
      bnd (cl q19 6 x22 (fX6_put x22 l2 l1 q19)) fun q25 =>
      (fX1_reserveUses_58  n) l0 (l1 + q13.1) (l2 + 1) q25
set_option maxRecDepth 100000 in
set_option maxHeartbeats 4000000 in
theorem bX1_reserveUses_58 {E : zE}  : ∀ (n : Nat) {l0 : Nat} {l1 : Int32} {l2 : Int32} {s : zS} {q : zS}, fX1_reserveUses_58  n l0 l1 l2 s = some q → Z E mX1_reserveUses 58 [(0, .ref l0), (1, .int l1), (2, .int l2)] [] s (0, 0) (zRv E mX1_reserveUses q) := by
  intro n
  induction n with
  | zero => intro l0 l1 l2 s q h; cases h
  | succ n ih =>
    intro l0 l1 l2 s q h
    unfold fX1_reserveUses_58 at h
    refine z_iload_n (pc := 58) 2 rfl dX1_reserveUses_58 rfl ?_
    refine z_sipush (pc := 59) (v := 301) dX1_reserveUses_59 (by decide) ?_
    refine z_icmp_gt (pc := 62) (tgt := 102) dX1_reserveUses_62 (by decide) (fun hc => ?_) (fun hc => ?_)
    · replace h := ifp hc h
      exact y_ret (pc := 102) dX1_reserveUses_102 rfl h
    · replace h := ifn hc h
      refine z_aload_n (pc := 65) 0 rfl dX1_reserveUses_65 rfl ?_
      obtain ⟨a11, x10, e12, h⟩ := iR h
      refine y_getR (pc := 66) flRX1_32 dX1_reserveUses_66 rfl a11 e12 ?_
      refine z_iload_n (pc := 69) 2 rfl dX1_reserveUses_69 rfl ?_
      obtain ⟨a14, q13, e15, h⟩ := iC h
      refine y_Vi (pc := 70) (M2 := mX6_at) (As := [.int l2]) (okX6_at e15) mvX6_at mlRX1_70 dX1_reserveUses_70 ⟨by decide, by decide⟩ rfl rfl rfl zrest0 a14 ?_
      refine z_istore_n (pc := 73) (ls' := [(3, .int q13.1), (0, .ref l0), (1, .int l1), (2, .int l2)]) dX1_reserveUses_73 rfl (by decide) (fun _ => rfl) ?_
      refine z_aload_n (pc := 74) 1 rfl dX1_reserveUses_74 rfl ?_
      obtain ⟨a17, x16, e18, h⟩ := iR h
      refine y_getR (pc := 75) flRX1_29 dX1_reserveUses_75 rfl a17 e18 ?_
      refine z_iload_n (pc := 78) 3 rfl dX1_reserveUses_78 rfl ?_
      refine z_iload_n (pc := 79) 2 rfl dX1_reserveUses_79 rfl ?_
      obtain ⟨a20, q19, e21, h⟩ := iC h
      refine y_V (pc := 80) (M2 := mX6_put) (As := [.int l2, .int l1]) (okX6_put e21) mvX6_put mlRX1_63 dX1_reserveUses_80 ⟨by decide, by decide⟩ rfl rfl rfl zrest0 a20 ?_
      refine z_aload_n (pc := 83) 1 rfl dX1_reserveUses_83 rfl ?_
      obtain ⟨a23, x22, e24, h⟩ := iR h
      refine y_getR (pc := 84) flRX1_32 dX1_reserveUses_84 rfl a23 e24 ?_
      refine z_iload_n (pc := 87) 3 rfl dX1_reserveUses_87 rfl ?_
      refine z_iload_n (pc := 88) 2 rfl dX1_reserveUses_88 rfl ?_
      obtain ⟨a26, q25, e27, h⟩ := iC h
      refine y_V (pc := 89) (M2 := mX6_put) (As := [.int l2, .int l1]) (okX6_put e27) mvX6_put mlRX1_63 dX1_reserveUses_89 ⟨by decide, by decide⟩ rfl rfl rfl zrest0 a26 ?_
      refine z_iload_n (pc := 92) 2 rfl dX1_reserveUses_92 rfl ?_
      refine z_iload_n (pc := 93) 0 rfl dX1_reserveUses_93 rfl ?_
      refine z_iadd (pc := 94) dX1_reserveUses_94 ?_
      refine z_istore_n (pc := 95) (ls' := [(1, .int (l1 + q13.1)), (3, .int q13.1), (0, .ref l0), (2, .int l2)]) dX1_reserveUses_95 rfl (by decide) (fun _ => rfl) ?_
      refine z_iinc (pc := 96) (v := (l2 + 1)) (ls' := [(2, .int (l2 + 1)), (1, .int (l1 + q13.1)), (3, .int q13.1), (0, .ref l0)]) 3 rfl rfl dX1_reserveUses_96 (by decide) (fun _ => rfl) ?_
      refine z_goto (pc := 99) (tgt := 58) dX1_reserveUses_99 (by decide) ?_
      exact z_sub [3, 1, 0] rfl (ih h)
def fX1_reserveUses_10  (n : Nat) : Nat → Int32 → zS → Option zS := match n with
  | 0 => fun _ _ _ => none
  | n + 1 => fun l0 l1 s =>
    bnd (qI s 1 l0 7) fun x7 =>
    if x7 ≤ l1 then
      fX1_reserveUses_58  zfu l0 0 0 s
    else
      bnd (qR s 1 l0 0) fun x10 =>
      bnd (cl s 6 x10 (fX6_at x10 l1 s)) fun q13 =>
      bnd (fX9_codeOf q13.1 q13.2) fun q16 =>
      bnd (qR q16.2 1 l0 5) fun x19 =>
      bnd (qR q16.2 1 l0 5) fun x22 =>
      bnd (cl q16.2 6 x22 (fX6_at x22 q16.1 q16.2)) fun q25 =>
      bnd (cl q25.2 6 x19 (fX6_put x19 q16.1 (q25.1 + 1) q25.2)) fun q28 =>
      (fX1_reserveUses_10  n) l0 (l1 + 1) q28
set_option maxRecDepth 100000 in
set_option maxHeartbeats 4000000 in
theorem bX1_reserveUses_10 {E : zE}  : ∀ (n : Nat) {l0 : Nat} {l1 : Int32} {s : zS} {q : zS}, fX1_reserveUses_10  n l0 l1 s = some q → Z E mX1_reserveUses 10 [(0, .ref l0), (1, .int l1)] [] s (0, 0) (zRv E mX1_reserveUses q) := by
  intro n
  induction n with
  | zero => intro l0 l1 s q h; cases h
  | succ n ih =>
    intro l0 l1 s q h
    unfold fX1_reserveUses_10 at h
    refine z_iload_n (pc := 10) 1 rfl dX1_reserveUses_10 rfl ?_
    refine z_aload_n (pc := 11) 0 rfl dX1_reserveUses_11 rfl ?_
    obtain ⟨a8, x7, e9, h⟩ := iI h
    refine y_getI (pc := 12) flRX1_35 dX1_reserveUses_12 rfl a8 e9 ?_
    refine z_icmp_ge (pc := 15) (tgt := 54) dX1_reserveUses_15 (by decide) (fun hc => ?_) (fun hc => ?_)
    · replace h := ifp hc h
      refine z_iconst (pc := 54) (v := 0) dX1_reserveUses_54 (by decide) ?_
      refine z_istore_n (pc := 55) (ls' := [(1, .int 0), (0, .ref l0)]) dX1_reserveUses_55 rfl (by decide) (fun _ => rfl) ?_
      refine z_iconst (pc := 56) (v := 0) dX1_reserveUses_56 (by decide) ?_
      refine z_istore_n (pc := 57) (ls' := [(2, .int 0), (1, .int 0), (0, .ref l0)]) dX1_reserveUses_57 rfl (by decide) (fun _ => rfl) ?_
      exact z_sub [2, 1, 0] rfl (bX1_reserveUses_58  _ h)
    · replace h := ifn hc h
      refine z_aload_n (pc := 18) 0 rfl dX1_reserveUses_18 rfl ?_
      obtain ⟨a11, x10, e12, h⟩ := iR h
      refine y_getR (pc := 19) flRX1_14 dX1_reserveUses_19 rfl a11 e12 ?_
      refine z_iload_n (pc := 22) 1 rfl dX1_reserveUses_22 rfl ?_
      obtain ⟨a14, q13, e15, h⟩ := iC h
      refine y_Vi (pc := 23) (M2 := mX6_at) (As := [.int l1]) (okX6_at e15) mvX6_at mlRX1_70 dX1_reserveUses_23 ⟨by decide, by decide⟩ rfl rfl rfl zrest0 a14 ?_
      obtain ⟨q16, e18, h⟩ := bnd_i h
      refine y_SNi (pc := 26) (M2 := mX9_codeOf) (As := [.int q13.1]) (okX9_codeOf e18) mqX9_codeOf msX9_codeOf neRX1_86 dX1_reserveUses_26 ⟨by decide, by decide⟩ rfl rfl rfl zrest0 ?_
      refine z_istore_n (pc := 29) (ls' := [(2, .int q16.1), (0, .ref l0), (1, .int l1)]) dX1_reserveUses_29 rfl (by decide) (fun _ => rfl) ?_
      refine z_aload_n (pc := 30) 1 rfl dX1_reserveUses_30 rfl ?_
      obtain ⟨a20, x19, e21, h⟩ := iR h
      refine y_getR (pc := 31) flRX1_32 dX1_reserveUses_31 rfl a20 e21 ?_
      refine z_iload_n (pc := 34) 0 rfl dX1_reserveUses_34 rfl ?_
      refine z_aload_n (pc := 35) 1 rfl dX1_reserveUses_35 rfl ?_
      obtain ⟨a23, x22, e24, h⟩ := iR h
      refine y_getR (pc := 36) flRX1_32 dX1_reserveUses_36 rfl a23 e24 ?_
      refine z_iload_n (pc := 39) 0 rfl dX1_reserveUses_39 rfl ?_
      obtain ⟨a26, q25, e27, h⟩ := iC h
      refine y_Vi (pc := 40) (M2 := mX6_at) (As := [.int q16.1]) (okX6_at e27) mvX6_at mlRX1_70 dX1_reserveUses_40 ⟨by decide, by decide⟩ rfl rfl rfl (fun _ => Nat.le_of_ble_eq_true rfl) a26 ?_
      refine z_iconst (pc := 43) (v := 1) dX1_reserveUses_43 (by decide) ?_
      refine z_iadd (pc := 44) dX1_reserveUses_44 ?_
      obtain ⟨a29, q28, e30, h⟩ := iC h
      refine y_V (pc := 45) (M2 := mX6_put) (As := [.int q16.1, .int (q25.1 + 1)]) (okX6_put e30) mvX6_put mlRX1_63 dX1_reserveUses_45 ⟨by decide, by decide⟩ rfl rfl rfl zrest0 a29 ?_
      refine z_iinc (pc := 48) (v := (l1 + 1)) (ls' := [(1, .int (l1 + 1)), (2, .int q16.1), (0, .ref l0)]) 2 rfl rfl dX1_reserveUses_48 (by decide) (fun _ => rfl) ?_
      refine z_goto (pc := 51) (tgt := 10) dX1_reserveUses_51 (by decide) ?_
      exact z_sub [2, 0] rfl (ih h)
def fX1_reserveUses (l0 : Nat) (s : zS) : Option zS :=
  bnd (qR s 1 l0 5) fun x1 =>
  bnd (cl s 6 x1 (fX6_fill x1 0 s)) fun q4 =>
  fX1_reserveUses_10  zfu l0 0 q4
set_option maxRecDepth 100000 in
set_option maxHeartbeats 4000000 in
theorem okX1_reserveUses {E : zE} {l0 : Nat} {s : zS} {t : zS} (h : fX1_reserveUses l0 s = some t) : Cv E mX1_reserveUses [.ref l0] s t := by
  refine Ct.of (ls := [(0, .ref l0)]) (by decide) rfl (Nat.le_of_ble_eq_true rfl) ?_
  show Z E mX1_reserveUses 0 [(0, .ref l0)] [] s (0, 0) (zRv E mX1_reserveUses t)
  unfold fX1_reserveUses at h
  refine z_aload_n (pc := 0) 0 rfl dX1_reserveUses_0 rfl ?_
  obtain ⟨a2, x1, e3, h⟩ := iR h
  refine y_getR (pc := 1) flRX1_32 dX1_reserveUses_1 rfl a2 e3 ?_
  refine z_iconst (pc := 4) (v := 0) dX1_reserveUses_4 (by decide) ?_
  obtain ⟨a5, q4, e6, h⟩ := iC h
  refine y_V (pc := 5) (M2 := mX6_fill) (As := [.int 0]) (okX6_fill e6) mvX6_fill mlRX1_93 dX1_reserveUses_5 ⟨by decide, by decide⟩ rfl rfl rfl zrest0 a5 ?_
  refine z_iconst (pc := 8) (v := 0) dX1_reserveUses_8 (by decide) ?_
  refine z_istore_n (pc := 9) (ls' := [(1, .int 0), (0, .ref l0)]) dX1_reserveUses_9 rfl (by decide) (fun _ => rfl) ?_
  exact z_sub [1, 0] rfl (bX1_reserveUses_10  _ h)
def fX1_size (l0 : Nat) (l1 : Int32) (s : zS) : Option (Int32 × zS) :=
  bnd (qR s 1 l0 1) fun x1 =>
  bnd (cl s 6 x1 (fX6_at x1 l1 s)) fun q4 =>
  bnd (qR q4.2 1 l0 1) fun x7 =>
  bnd (cl q4.2 6 x7 (fX6_at x7 (l1 - 1) q4.2)) fun q10 =>
  some ((q4.1 - q10.1), q10.2)
set_option maxRecDepth 100000 in
set_option maxHeartbeats 4000000 in
theorem okX1_size {E : zE} {l0 : Nat} {l1 : Int32} {s : zS} {q : Int32 × zS} (h : fX1_size l0 l1 s = some q) : Ci E mX1_size [.ref l0, .int l1] s q.1 q.2 := by
  refine Ct.of (ls := [(0, .ref l0), (1, .int l1)]) (by decide) rfl (Nat.le_of_ble_eq_true rfl) ?_
  show Z E mX1_size 0 [(0, .ref l0), (1, .int l1)] [] s (0, 0) (zRi E mX1_size q.1 q.2)
  unfold fX1_size at h
  refine z_aload_n (pc := 0) 0 rfl dX1_size_0 rfl ?_
  obtain ⟨a2, x1, e3, h⟩ := iR h
  refine y_getR (pc := 1) flRX1_20 dX1_size_1 rfl a2 e3 ?_
  refine z_iload_n (pc := 4) 1 rfl dX1_size_4 rfl ?_
  obtain ⟨a5, q4, e6, h⟩ := iC h
  refine y_Vi (pc := 5) (M2 := mX6_at) (As := [.int l1]) (okX6_at e6) mvX6_at mlRX1_70 dX1_size_5 ⟨by decide, by decide⟩ rfl rfl rfl zrest0 a5 ?_
  refine z_aload_n (pc := 8) 0 rfl dX1_size_8 rfl ?_
  obtain ⟨a8, x7, e9, h⟩ := iR h
  refine y_getR (pc := 9) flRX1_20 dX1_size_9 rfl a8 e9 ?_
  refine z_iload_n (pc := 12) 1 rfl dX1_size_12 rfl ?_
  refine z_iconst (pc := 13) (v := 1) dX1_size_13 (by decide) ?_
  refine z_isub (pc := 14) dX1_size_14 ?_
  obtain ⟨a11, q10, e12, h⟩ := iC h
  refine y_Vi (pc := 15) (M2 := mX6_at) (As := [.int (l1 - 1)]) (okX6_at e12) mvX6_at mlRX1_70 dX1_size_15 ⟨by decide, by decide⟩ rfl rfl rfl (fun _ => Nat.le_of_ble_eq_true rfl) a11 ?_
  refine z_isub (pc := 18) dX1_size_18 ?_
  exact y_iret (pc := 19) dX1_size_19 rfl h
def fX1_listUsers_22 (k6 : Nat → Int32 → zS → Option zS) (n : Nat) : Nat → Int32 → Int32 → Int32 → zS → Option zS := match n with
  | 0 => fun _ _ _ _ _ => none
  | n + 1 => fun l0 l1 l2 l3 s =>
    if l2 ≤ l3 then
      k6 l0 (l1 + 1) s
    else
      bnd (cl s 1 l0 (fX1_literal l0 l1 l3 s)) fun q10 =>
      bnd (fX9_codeOf q10.1 q10.2) fun q13 =>
      bnd (qR q13.2 1 l0 3) fun x16 =>
      bnd (qR q13.2 1 l0 5) fun x19 =>
      bnd (cl q13.2 6 x19 (fX6_at x19 q13.1 q13.2)) fun q22 =>
      bnd (cl q22.2 6 x16 (fX6_put x16 q22.1 l1 q22.2)) fun q25 =>
      bnd (qR q25 1 l0 5) fun x28 =>
      bnd (qR q25 1 l0 5) fun x31 =>
      bnd (cl q25 6 x31 (fX6_at x31 q13.1 q25)) fun q34 =>
      bnd (cl q34.2 6 x28 (fX6_put x28 q13.1 (q34.1 + 1) q34.2)) fun q37 =>
      (fX1_listUsers_22 k6 n) l0 l1 l2 (l3 + 1) q37
set_option maxRecDepth 100000 in
set_option maxHeartbeats 4000000 in
theorem bX1_listUsers_22 {E : zE} {k6 : Nat → Int32 → zS → Option zS} (hk6 : ∀ {l0 : Nat} {l1 : Int32} {s : zS} {q : zS}, k6 l0 l1 s = some q → Z E mX1_listUsers 6 [(0, .ref l0), (1, .int l1)] [] s (0, 0) (zRv E mX1_listUsers q)) : ∀ (n : Nat) {l0 : Nat} {l1 : Int32} {l2 : Int32} {l3 : Int32} {s : zS} {q : zS}, fX1_listUsers_22 k6 n l0 l1 l2 l3 s = some q → Z E mX1_listUsers 22 [(0, .ref l0), (1, .int l1), (2, .int l2), (3, .int l3)] [] s (0, 0) (zRv E mX1_listUsers q) := by
  intro n
  induction n with
  | zero => intro l0 l1 l2 l3 s q h; cases h
  | succ n ih =>
    intro l0 l1 l2 l3 s q h
    unfold fX1_listUsers_22 at h
    refine z_iload_n (pc := 22) 3 rfl dX1_listUsers_22 rfl ?_
    refine z_iload_n (pc := 23) 2 rfl dX1_listUsers_23 rfl ?_
    refine z_icmp_ge (pc := 24) (tgt := 81) dX1_listUsers_24 (by decide) (fun hc => ?_) (fun hc => ?_)
    · replace h := ifp hc h
      refine z_iinc (pc := 81) (v := (l1 + 1)) (ls' := [(1, .int (l1 + 1)), (0, .ref l0), (2, .int l2), (3, .int l3)]) 1 rfl rfl dX1_listUsers_81 (by decide) (fun _ => rfl) ?_
      refine z_goto (pc := 84) (tgt := 6) dX1_listUsers_84 (by decide) ?_
      exact z_sub [1, 0] rfl (hk6 h)
    · replace h := ifn hc h
      refine z_aload_n (pc := 27) 0 rfl dX1_listUsers_27 rfl ?_
      refine z_iload_n (pc := 28) 1 rfl dX1_listUsers_28 rfl ?_
      refine z_iload_n (pc := 29) 3 rfl dX1_listUsers_29 rfl ?_
      obtain ⟨a11, q10, e12, h⟩ := iC h
      refine y_Vi (pc := 30) (M2 := mX1_literal) (As := [.int l1, .int l3]) (okX1_literal e12) mvX1_literal mlRX1_92 dX1_listUsers_30 ⟨by decide, by decide⟩ rfl rfl rfl zrest0 a11 ?_
      obtain ⟨q13, e15, h⟩ := bnd_i h
      refine y_SNi (pc := 33) (M2 := mX9_codeOf) (As := [.int q10.1]) (okX9_codeOf e15) mqX9_codeOf msX9_codeOf neRX1_86 dX1_listUsers_33 ⟨by decide, by decide⟩ rfl rfl rfl zrest0 ?_
      refine z_istore (pc := 36) (ls' := [(4, .int q13.1), (0, .ref l0), (1, .int l1), (2, .int l2), (3, .int l3)]) dX1_listUsers_36 (by decide) (fun _ => rfl) ?_
      refine z_aload_n (pc := 38) 1 rfl dX1_listUsers_38 rfl ?_
      obtain ⟨a17, x16, e18, h⟩ := iR h
      refine y_getR (pc := 39) flRX1_26 dX1_listUsers_39 rfl a17 e18 ?_
      refine z_aload_n (pc := 42) 1 rfl dX1_listUsers_42 rfl ?_
      obtain ⟨a20, x19, e21, h⟩ := iR h
      refine y_getR (pc := 43) flRX1_32 dX1_listUsers_43 rfl a20 e21 ?_
      refine z_iload (pc := 46) 0 rfl dX1_listUsers_46 ?_
      obtain ⟨a23, q22, e24, h⟩ := iC h
      refine y_Vi (pc := 48) (M2 := mX6_at) (As := [.int q13.1]) (okX6_at e24) mvX6_at mlRX1_70 dX1_listUsers_48 ⟨by decide, by decide⟩ rfl rfl rfl (fun _ => Nat.le_of_ble_eq_true rfl) a23 ?_
      refine z_iload_n (pc := 51) 2 rfl dX1_listUsers_51 rfl ?_
      obtain ⟨a26, q25, e27, h⟩ := iC h
      refine y_V (pc := 52) (M2 := mX6_put) (As := [.int q22.1, .int l1]) (okX6_put e27) mvX6_put mlRX1_63 dX1_listUsers_52 ⟨by decide, by decide⟩ rfl rfl rfl zrest0 a26 ?_
      refine z_aload_n (pc := 55) 1 rfl dX1_listUsers_55 rfl ?_
      obtain ⟨a29, x28, e30, h⟩ := iR h
      refine y_getR (pc := 56) flRX1_32 dX1_listUsers_56 rfl a29 e30 ?_
      refine z_iload (pc := 59) 0 rfl dX1_listUsers_59 ?_
      refine z_aload_n (pc := 61) 1 rfl dX1_listUsers_61 rfl ?_
      obtain ⟨a32, x31, e33, h⟩ := iR h
      refine y_getR (pc := 62) flRX1_32 dX1_listUsers_62 rfl a32 e33 ?_
      refine z_iload (pc := 65) 0 rfl dX1_listUsers_65 ?_
      obtain ⟨a35, q34, e36, h⟩ := iC h
      refine y_Vi (pc := 67) (M2 := mX6_at) (As := [.int q13.1]) (okX6_at e36) mvX6_at mlRX1_70 dX1_listUsers_67 ⟨by decide, by decide⟩ rfl rfl rfl (fun _ => Nat.le_of_ble_eq_true rfl) a35 ?_
      refine z_iconst (pc := 70) (v := 1) dX1_listUsers_70 (by decide) ?_
      refine z_iadd (pc := 71) dX1_listUsers_71 ?_
      obtain ⟨a38, q37, e39, h⟩ := iC h
      refine y_V (pc := 72) (M2 := mX6_put) (As := [.int q13.1, .int (q34.1 + 1)]) (okX6_put e39) mvX6_put mlRX1_63 dX1_listUsers_72 ⟨by decide, by decide⟩ rfl rfl rfl zrest0 a38 ?_
      refine z_iinc (pc := 75) (v := (l3 + 1)) (ls' := [(3, .int (l3 + 1)), (4, .int q13.1), (0, .ref l0), (1, .int l1), (2, .int l2)]) 4 rfl rfl dX1_listUsers_75 (by decide) (fun _ => rfl) ?_
      refine z_goto (pc := 78) (tgt := 22) dX1_listUsers_78 (by decide) ?_
      exact z_sub [2, 3, 4, 0] rfl (ih h)
def fX1_listUsers_6  (n : Nat) : Nat → Int32 → zS → Option zS := match n with
  | 0 => fun _ _ _ => none
  | n + 1 => fun l0 l1 s =>
    bnd (qI s 1 l0 9) fun x4 =>
    if x4 < l1 then
      some s
    else
      bnd (cl s 1 l0 (fX1_size l0 l1 s)) fun q7 =>
      fX1_listUsers_22 ((fX1_listUsers_6  n)) zfu l0 l1 q7.1 0 q7.2
set_option maxRecDepth 100000 in
set_option maxHeartbeats 4000000 in
theorem bX1_listUsers_6 {E : zE}  : ∀ (n : Nat) {l0 : Nat} {l1 : Int32} {s : zS} {q : zS}, fX1_listUsers_6  n l0 l1 s = some q → Z E mX1_listUsers 6 [(0, .ref l0), (1, .int l1)] [] s (0, 0) (zRv E mX1_listUsers q) := by
  intro n
  induction n with
  | zero => intro l0 l1 s q h; cases h
  | succ n ih =>
    intro l0 l1 s q h
    unfold fX1_listUsers_6 at h
    refine z_iload_n (pc := 6) 1 rfl dX1_listUsers_6 rfl ?_
    refine z_aload_n (pc := 7) 0 rfl dX1_listUsers_7 rfl ?_
    obtain ⟨a5, x4, e6, h⟩ := iI h
    refine y_getI (pc := 8) flRX1_42 dX1_listUsers_8 rfl a5 e6 ?_
    refine z_icmp_gt (pc := 11) (tgt := 87) dX1_listUsers_11 (by decide) (fun hc => ?_) (fun hc => ?_)
    · replace h := ifp hc h
      exact y_ret (pc := 87) dX1_listUsers_87 rfl h
    · replace h := ifn hc h
      refine z_aload_n (pc := 14) 0 rfl dX1_listUsers_14 rfl ?_
      refine z_iload_n (pc := 15) 1 rfl dX1_listUsers_15 rfl ?_
      obtain ⟨a8, q7, e9, h⟩ := iC h
      refine y_Vi (pc := 16) (M2 := mX1_size) (As := [.int l1]) (okX1_size e9) mvX1_size mlRX1_74 dX1_listUsers_16 ⟨by decide, by decide⟩ rfl rfl rfl zrest0 a8 ?_
      refine z_istore_n (pc := 19) (ls' := [(2, .int q7.1), (0, .ref l0), (1, .int l1)]) dX1_listUsers_19 rfl (by decide) (fun _ => rfl) ?_
      refine z_iconst (pc := 20) (v := 0) dX1_listUsers_20 (by decide) ?_
      refine z_istore_n (pc := 21) (ls' := [(3, .int 0), (2, .int q7.1), (0, .ref l0), (1, .int l1)]) dX1_listUsers_21 rfl (by decide) (fun _ => rfl) ?_
      exact z_sub [2, 3, 1, 0] rfl (bX1_listUsers_22 (fun h => ih h) _ h)
def fX1_listUsers (l0 : Nat) (s : zS) : Option zS :=
  bnd (cl s 1 l0 (fX1_reserveUses l0  s)) fun q1 =>
  fX1_listUsers_6  zfu l0 1 q1
set_option maxRecDepth 100000 in
set_option maxHeartbeats 4000000 in
theorem okX1_listUsers {E : zE} {l0 : Nat} {s : zS} {t : zS} (h : fX1_listUsers l0 s = some t) : Cv E mX1_listUsers [.ref l0] s t := by
  refine Ct.of (ls := [(0, .ref l0)]) (by decide) rfl (Nat.le_of_ble_eq_true rfl) ?_
  show Z E mX1_listUsers 0 [(0, .ref l0)] [] s (0, 0) (zRv E mX1_listUsers t)
  unfold fX1_listUsers at h
  refine z_aload_n (pc := 0) 0 rfl dX1_listUsers_0 rfl ?_
  obtain ⟨a2, q1, e3, h⟩ := iC h
  refine y_V (pc := 1) (M2 := mX1_reserveUses) (As := []) (okX1_reserveUses e3) mvX1_reserveUses mlRX1_89 dX1_listUsers_1 ⟨by decide, by decide⟩ rfl rfl rfl zrest0 a2 ?_
  refine z_iconst (pc := 4) (v := 1) dX1_listUsers_4 (by decide) ?_
  refine z_istore_n (pc := 5) (ls' := [(1, .int 1), (0, .ref l0)]) dX1_listUsers_5 rfl (by decide) (fun _ => rfl) ?_
  exact z_sub [1, 0] rfl (bX1_listUsers_6  _ h)
def fX7_isDeletion (l0 : Nat) (l1 : Int32) (s : zS) : Option (Int32 × zS) :=
  bnd (qR s 7 l0 2) fun x1 =>
  bnd (cl s 6 x1 (fX6_at x1 l1 s)) fun q4 =>
  if q4.1 = 0 then
    gd ((0 : Int32) = 0 ∨ 0 = 1) (some (0, q4.2))
  else
    gd ((1 : Int32) = 0 ∨ 1 = 1) (some (1, q4.2))
set_option maxRecDepth 100000 in
set_option maxHeartbeats 4000000 in
theorem okX7_isDeletion {E : zE} {l0 : Nat} {l1 : Int32} {s : zS} {q : Int32 × zS} (h : fX7_isDeletion l0 l1 s = some q) : Ci E mX7_isDeletion [.ref l0, .int l1] s q.1 q.2 := by
  refine Ct.of (ls := [(0, .ref l0), (1, .int l1)]) (by decide) rfl (Nat.le_of_ble_eq_true rfl) ?_
  show Z E mX7_isDeletion 0 [(0, .ref l0), (1, .int l1)] [] s (0, 0) (zRi E mX7_isDeletion q.1 q.2)
  unfold fX7_isDeletion at h
  refine z_aload_n (pc := 0) 0 rfl dX7_isDeletion_0 rfl ?_
  obtain ⟨a2, x1, e3, h⟩ := iR h
  refine y_getR (pc := 1) flRX7_23 dX7_isDeletion_1 rfl a2 e3 ?_
  refine z_iload_n (pc := 4) 1 rfl dX7_isDeletion_4 rfl ?_
  obtain ⟨a5, q4, e6, h⟩ := iC h
  refine y_Vi (pc := 5) (M2 := mX6_at) (As := [.int l1]) (okX6_at e6) mvX6_at mlRX7_36 dX7_isDeletion_5 ⟨by decide, by decide⟩ rfl rfl rfl zrest0 a5 ?_
  refine z_if_eq (pc := 8) (tgt := 15) dX7_isDeletion_8 (by decide) (fun hc => ?_) (fun hc => ?_)
  · replace h := ifp hc h
    refine z_iconst (pc := 15) (v := 0) dX7_isDeletion_15 (by decide) ?_
    exact y_zret (pc := 16) dX7_isDeletion_16 rfl h
  · replace h := ifn hc h
    refine z_iconst (pc := 11) (v := 1) dX7_isDeletion_11 (by decide) ?_
    refine z_goto (pc := 12) (tgt := 16) dX7_isDeletion_12 (by decide) ?_
    exact y_zret (pc := 16) dX7_isDeletion_16 rfl h
def fX7_rows (l0 : Nat) (s : zS) : Option (Int32 × zS) :=
  bnd (qI s 7 l0 3) fun x1 =>
  some (x1, s)
set_option maxRecDepth 100000 in
set_option maxHeartbeats 4000000 in
theorem okX7_rows {E : zE} {l0 : Nat} {s : zS} {q : Int32 × zS} (h : fX7_rows l0 s = some q) : Ci E mX7_rows [.ref l0] s q.1 q.2 := by
  refine Ct.of (ls := [(0, .ref l0)]) (by decide) rfl (Nat.le_of_ble_eq_true rfl) ?_
  show Z E mX7_rows 0 [(0, .ref l0)] [] s (0, 0) (zRi E mX7_rows q.1 q.2)
  unfold fX7_rows at h
  refine z_aload_n (pc := 0) 0 rfl dX7_rows_0 rfl ?_
  obtain ⟨a2, x1, e3, h⟩ := iI h
  refine y_getI (pc := 1) flRX7_26 dX7_rows_1 rfl a2 e3 ?_
  exact y_iret (pc := 4) dX7_rows_4 rfl h
def fX1_numberAll_102 (k47 : Nat → Int32 → zS → Option zS) (l0 : Nat) (l3 : Int32) (s : zS) : Option zS :=
  k47 l0 (l3 + 1) s
set_option maxRecDepth 100000 in
set_option maxHeartbeats 4000000 in
theorem bX1_numberAll_102 {E : zE} {k47 : Nat → Int32 → zS → Option zS} (hk47 : ∀ {l0 : Nat} {l3 : Int32} {s : zS} {q : zS}, k47 l0 l3 s = some q → Z E mX1_numberAll 47 [(0, .ref l0), (3, .int l3)] [] s (0, 0) (zRv E mX1_numberAll q)) {l0 : Nat} {l3 : Int32} {s : zS} {q : zS} (h : fX1_numberAll_102 k47 l0 l3 s = some q) : Z E mX1_numberAll 102 [(0, .ref l0), (3, .int l3)] [] s (0, 0) (zRv E mX1_numberAll q) := by
  unfold fX1_numberAll_102 at h
  refine z_iinc (pc := 102) (v := (l3 + 1)) (ls' := [(3, .int (l3 + 1)), (0, .ref l0)]) 1 rfl rfl dX1_numberAll_102 (by decide) (fun _ => rfl) ?_
  refine z_goto (pc := 105) (tgt := 47) dX1_numberAll_105 (by decide) ?_
  exact z_sub [1, 0] rfl (hk47 h)
def fX1_numberAll_47  (n : Nat) : Nat → Int32 → zS → Option zS := match n with
  | 0 => fun _ _ _ => none
  | n + 1 => fun l0 l3 s =>
    bnd (qR s 1 l0 6) fun x19 =>
    bnd (cl s 7 x19 (fX7_rows x19  s)) fun q22 =>
    if q22.1 < l3 then
      bnd (cl q22.2 1 l0 (fX1_listUsers l0  q22.2)) fun q25 =>
      some q25
    else
      bnd (qR q22.2 1 l0 6) fun x28 =>
      bnd (cl q22.2 7 x28 (fX7_isDeletion x28 l3 q22.2)) fun q31 =>
      if q31.1 = 0 then
        bnd (qR q31.2 1 l0 6) fun x34 =>
        bnd (cl q31.2 1 l0 (fX1_append l0 x34 l3 q31.2)) fun q37 =>
        bnd (qR q37 1 l0 2) fun x40 =>
        bnd (qI q37 1 l0 9) fun x43 =>
        bnd (cl q37 6 x40 (fX6_put x40 l3 x43 q37)) fun q46 =>
        fX1_numberAll_102 ((fX1_numberAll_47  n)) l0 l3 q46
      else
        bnd (qR q31.2 1 l0 2) fun x49 =>
        bnd (cl q31.2 6 x49 (fX6_put x49 l3 0 q31.2)) fun q52 =>
        fX1_numberAll_102 ((fX1_numberAll_47  n)) l0 l3 q52
set_option maxRecDepth 100000 in
set_option maxHeartbeats 4000000 in
theorem bX1_numberAll_47 {E : zE}  : ∀ (n : Nat) {l0 : Nat} {l3 : Int32} {s : zS} {q : zS}, fX1_numberAll_47  n l0 l3 s = some q → Z E mX1_numberAll 47 [(0, .ref l0), (3, .int l3)] [] s (0, 0) (zRv E mX1_numberAll q) := by
  intro n
  induction n with
  | zero => intro l0 l3 s q h; cases h
  | succ n ih =>
    intro l0 l3 s q h
    unfold fX1_numberAll_47 at h
    refine z_iload_n (pc := 47) 1 rfl dX1_numberAll_47 rfl ?_
    refine z_aload_n (pc := 48) 0 rfl dX1_numberAll_48 rfl ?_
    obtain ⟨a20, x19, e21, h⟩ := iR h
    refine y_getR (pc := 49) flRX1_45 dX1_numberAll_49 rfl a20 e21 ?_
    obtain ⟨a23, q22, e24, h⟩ := iC h
    refine y_Vi (pc := 52) (M2 := mX7_rows) (As := []) (okX7_rows e24) mvX7_rows mlRX1_49 dX1_numberAll_52 ⟨by decide, by decide⟩ rfl rfl rfl (fun _ => Nat.le_of_ble_eq_true rfl) a23 ?_
    refine z_icmp_gt (pc := 55) (tgt := 108) dX1_numberAll_55 (by decide) (fun hc => ?_) (fun hc => ?_)
    · replace h := ifp hc h
      refine z_aload_n (pc := 108) 0 rfl dX1_numberAll_108 rfl ?_
      obtain ⟨a26, q25, e27, h⟩ := iC h
      refine y_V (pc := 109) (M2 := mX1_listUsers) (As := []) (okX1_listUsers e27) mvX1_listUsers mlRX1_67 dX1_numberAll_109 ⟨by decide, by decide⟩ rfl rfl rfl zrest0 a26 ?_
      exact y_ret (pc := 112) dX1_numberAll_112 rfl h
    · replace h := ifn hc h
      refine z_aload_n (pc := 58) 0 rfl dX1_numberAll_58 rfl ?_
      obtain ⟨a29, x28, e30, h⟩ := iR h
      refine y_getR (pc := 59) flRX1_45 dX1_numberAll_59 rfl a29 e30 ?_
      refine z_iload_n (pc := 62) 1 rfl dX1_numberAll_62 rfl ?_
      obtain ⟨a32, q31, e33, h⟩ := iC h
      refine y_Vi (pc := 63) (M2 := mX7_isDeletion) (As := [.int l3]) (okX7_isDeletion e33) mvX7_isDeletion mlRX1_59 dX1_numberAll_63 ⟨by decide, by decide⟩ rfl rfl rfl zrest0 a32 ?_
      refine z_if_eq (pc := 66) (tgt := 81) dX1_numberAll_66 (by decide) (fun hc => ?_) (fun hc => ?_)
      · replace h := ifp hc h
        refine z_aload_n (pc := 81) 0 rfl dX1_numberAll_81 rfl ?_
        refine z_aload_n (pc := 82) 0 rfl dX1_numberAll_82 rfl ?_
        obtain ⟨a35, x34, e36, h⟩ := iR h
        refine y_getR (pc := 83) flRX1_45 dX1_numberAll_83 rfl a35 e36 ?_
        refine z_iload_n (pc := 86) 1 rfl dX1_numberAll_86 rfl ?_
        obtain ⟨a38, q37, e39, h⟩ := iC h
        refine y_V (pc := 87) (M2 := mX1_append) (As := [.ref x34, .int l3]) (okX1_append e39) mvX1_append mlRX1_55 dX1_numberAll_87 ⟨by decide, by decide⟩ rfl rfl rfl zrest0 a38 ?_
        refine z_aload_n (pc := 90) 0 rfl dX1_numberAll_90 rfl ?_
        obtain ⟨a41, x40, e42, h⟩ := iR h
        refine y_getR (pc := 91) flRX1_23 dX1_numberAll_91 rfl a41 e42 ?_
        refine z_iload_n (pc := 94) 1 rfl dX1_numberAll_94 rfl ?_
        refine z_aload_n (pc := 95) 0 rfl dX1_numberAll_95 rfl ?_
        obtain ⟨a44, x43, e45, h⟩ := iI h
        refine y_getI (pc := 96) flRX1_42 dX1_numberAll_96 rfl a44 e45 ?_
        obtain ⟨a47, q46, e48, h⟩ := iC h
        refine y_V (pc := 99) (M2 := mX6_put) (As := [.int l3, .int x43]) (okX6_put e48) mvX6_put mlRX1_63 dX1_numberAll_99 ⟨by decide, by decide⟩ rfl rfl rfl zrest0 a47 ?_
        exact z_sub [0, 1] rfl (bX1_numberAll_102 (fun h => ih h) h)
      · replace h := ifn hc h
        refine z_aload_n (pc := 69) 0 rfl dX1_numberAll_69 rfl ?_
        obtain ⟨a50, x49, e51, h⟩ := iR h
        refine y_getR (pc := 70) flRX1_23 dX1_numberAll_70 rfl a50 e51 ?_
        refine z_iload_n (pc := 73) 1 rfl dX1_numberAll_73 rfl ?_
        refine z_iconst (pc := 74) (v := 0) dX1_numberAll_74 (by decide) ?_
        obtain ⟨a53, q52, e54, h⟩ := iC h
        refine y_V (pc := 75) (M2 := mX6_put) (As := [.int l3, .int 0]) (okX6_put e54) mvX6_put mlRX1_63 dX1_numberAll_75 ⟨by decide, by decide⟩ rfl rfl rfl zrest0 a53 ?_
        refine z_goto (pc := 78) (tgt := 102) dX1_numberAll_78 (by decide) ?_
        exact z_sub [0, 1] rfl (bX1_numberAll_102 (fun h => ih h) h)
def fX1_numberAll_25  (n : Nat) : Nat → Nat → Int32 → zS → Option zS := match n with
  | 0 => fun _ _ _ _ => none
  | n + 1 => fun l0 l1 l3 s =>
    bnd (qI s 1 l0 8) fun x16 =>
    if x16 < l3 then
      fX1_numberAll_47  zfu l0 1 s
    else
      bnd (cl s 1 l0 (fX1_append l0 l1 l3 s)) fun q19 =>
      (fX1_numberAll_25  n) l0 l1 (l3 + 1) q19
set_option maxRecDepth 100000 in
set_option maxHeartbeats 4000000 in
theorem bX1_numberAll_25 {E : zE}  : ∀ (n : Nat) {l0 : Nat} {l1 : Nat} {l3 : Int32} {s : zS} {q : zS}, fX1_numberAll_25  n l0 l1 l3 s = some q → Z E mX1_numberAll 25 [(0, .ref l0), (1, .ref l1), (3, .int l3)] [] s (0, 0) (zRv E mX1_numberAll q) := by
  intro n
  induction n with
  | zero => intro l0 l1 l3 s q h; cases h
  | succ n ih =>
    intro l0 l1 l3 s q h
    unfold fX1_numberAll_25 at h
    refine z_iload_n (pc := 25) 2 rfl dX1_numberAll_25 rfl ?_
    refine z_aload_n (pc := 26) 0 rfl dX1_numberAll_26 rfl ?_
    obtain ⟨a17, x16, e18, h⟩ := iI h
    refine y_getI (pc := 27) flRX1_39 dX1_numberAll_27 rfl a17 e18 ?_
    refine z_icmp_gt (pc := 30) (tgt := 45) dX1_numberAll_30 (by decide) (fun hc => ?_) (fun hc => ?_)
    · replace h := ifp hc h
      refine z_iconst (pc := 45) (v := 1) dX1_numberAll_45 (by decide) ?_
      refine z_istore_n (pc := 46) (ls' := [(3, .int 1), (0, .ref l0), (1, .ref l1)]) dX1_numberAll_46 rfl (by decide) (fun _ => rfl) ?_
      exact z_sub [1, 0] rfl (bX1_numberAll_47  _ h)
    · replace h := ifn hc h
      refine z_aload_n (pc := 33) 0 rfl dX1_numberAll_33 rfl ?_
      refine z_aload_n (pc := 34) 1 rfl dX1_numberAll_34 rfl ?_
      refine z_iload_n (pc := 35) 2 rfl dX1_numberAll_35 rfl ?_
      obtain ⟨a20, q19, e21, h⟩ := iC h
      refine y_V (pc := 36) (M2 := mX1_append) (As := [.ref l1, .int l3]) (okX1_append e21) mvX1_append mlRX1_55 dX1_numberAll_36 ⟨by decide, by decide⟩ rfl rfl rfl zrest0 a20 ?_
      refine z_iinc (pc := 39) (v := (l3 + 1)) (ls' := [(3, .int (l3 + 1)), (0, .ref l0), (1, .ref l1)]) 2 rfl rfl dX1_numberAll_39 (by decide) (fun _ => rfl) ?_
      refine z_goto (pc := 42) (tgt := 25) dX1_numberAll_42 (by decide) ?_
      exact z_sub [1, 2, 0] rfl (ih h)
def fX1_numberAll (l0 : Nat) (l1 : Nat) (l2 : Nat) (s : zS) : Option zS :=
  bnd (wR s 1 l0 6 l2) fun s1 =>
  bnd (wI s1 1 l0 7 0) fun s4 =>
  bnd (wI s4 1 l0 9 0) fun s7 =>
  bnd (cl s7 7 l1 (fX7_rows l1  s7)) fun q10 =>
  bnd (wI q10.2 1 l0 8 q10.1) fun s13 =>
  fX1_numberAll_25  zfu l0 l1 1 s13
set_option maxRecDepth 100000 in
set_option maxHeartbeats 4000000 in
theorem okX1_numberAll {E : zE} {l0 : Nat} {l1 : Nat} {l2 : Nat} {s : zS} {t : zS} (h : fX1_numberAll l0 l1 l2 s = some t) : Cv E mX1_numberAll [.ref l0, .ref l1, .ref l2] s t := by
  refine Ct.of (ls := [(0, .ref l0), (1, .ref l1), (2, .ref l2)]) (by decide) rfl (Nat.le_of_ble_eq_true rfl) ?_
  show Z E mX1_numberAll 0 [(0, .ref l0), (1, .ref l1), (2, .ref l2)] [] s (0, 0) (zRv E mX1_numberAll t)
  unfold fX1_numberAll at h
  refine z_aload_n (pc := 0) 0 rfl dX1_numberAll_0 rfl ?_
  refine z_aload_n (pc := 1) 2 rfl dX1_numberAll_1 rfl ?_
  obtain ⟨a2, s1, e3, h⟩ := jR h
  refine y_putR (pc := 2) flRX1_45 dX1_numberAll_2 rfl (Or.inl rfl) a2 e3 ?_
  refine z_aload_n (pc := 5) 0 rfl dX1_numberAll_5 rfl ?_
  refine z_iconst (pc := 6) (v := 0) dX1_numberAll_6 (by decide) ?_
  obtain ⟨a5, s4, e6, h⟩ := jI h
  refine y_putI (pc := 7) flRX1_35 dX1_numberAll_7 rfl (Or.inl rfl) a5 e6 ?_
  refine z_aload_n (pc := 10) 0 rfl dX1_numberAll_10 rfl ?_
  refine z_iconst (pc := 11) (v := 0) dX1_numberAll_11 (by decide) ?_
  obtain ⟨a8, s7, e9, h⟩ := jI h
  refine y_putI (pc := 12) flRX1_42 dX1_numberAll_12 rfl (Or.inl rfl) a8 e9 ?_
  refine z_aload_n (pc := 15) 0 rfl dX1_numberAll_15 rfl ?_
  refine z_aload_n (pc := 16) 1 rfl dX1_numberAll_16 rfl ?_
  obtain ⟨a11, q10, e12, h⟩ := iC h
  refine y_Vi (pc := 17) (M2 := mX7_rows) (As := []) (okX7_rows e12) mvX7_rows mlRX1_49 dX1_numberAll_17 ⟨by decide, by decide⟩ rfl rfl rfl (fun _ => Nat.le_of_ble_eq_true rfl) a11 ?_
  obtain ⟨a14, s13, e15, h⟩ := jI h
  refine y_putI (pc := 20) flRX1_39 dX1_numberAll_20 rfl (Or.inl rfl) a14 e15 ?_
  refine z_iconst (pc := 23) (v := 1) dX1_numberAll_23 (by decide) ?_
  refine z_istore_n (pc := 24) (ls' := [(3, .int 1), (0, .ref l0), (1, .ref l1), (2, .ref l2)]) dX1_numberAll_24 rfl (by decide) (fun _ => rfl) ?_
  exact z_sub [1, 2, 0] rfl (bX1_numberAll_25  _ h)
def fX1_ofFormula (l0 : Nat) (s : zS) : Option (Int32 × zS) :=
  bnd (qI s 1 l0 8) fun x1 =>
  some (x1, s)
set_option maxRecDepth 100000 in
set_option maxHeartbeats 4000000 in
theorem okX1_ofFormula {E : zE} {l0 : Nat} {s : zS} {q : Int32 × zS} (h : fX1_ofFormula l0 s = some q) : Ci E mX1_ofFormula [.ref l0] s q.1 q.2 := by
  refine Ct.of (ls := [(0, .ref l0)]) (by decide) rfl (Nat.le_of_ble_eq_true rfl) ?_
  show Z E mX1_ofFormula 0 [(0, .ref l0)] [] s (0, 0) (zRi E mX1_ofFormula q.1 q.2)
  unfold fX1_ofFormula at h
  refine z_aload_n (pc := 0) 0 rfl dX1_ofFormula_0 rfl ?_
  obtain ⟨a2, x1, e3, h⟩ := iI h
  refine y_getI (pc := 1) flRX1_39 dX1_ofFormula_1 rfl a2 e3 ?_
  exact y_iret (pc := 4) dX1_ofFormula_4 rfl h
def fX1_inAll (l0 : Nat) (s : zS) : Option (Int32 × zS) :=
  bnd (qI s 1 l0 9) fun x1 =>
  some (x1, s)
set_option maxRecDepth 100000 in
set_option maxHeartbeats 4000000 in
theorem okX1_inAll {E : zE} {l0 : Nat} {s : zS} {q : Int32 × zS} (h : fX1_inAll l0 s = some q) : Ci E mX1_inAll [.ref l0] s q.1 q.2 := by
  refine Ct.of (ls := [(0, .ref l0)]) (by decide) rfl (Nat.le_of_ble_eq_true rfl) ?_
  show Z E mX1_inAll 0 [(0, .ref l0)] [] s (0, 0) (zRi E mX1_inAll q.1 q.2)
  unfold fX1_inAll at h
  refine z_aload_n (pc := 0) 0 rfl dX1_inAll_0 rfl ?_
  obtain ⟨a2, x1, e3, h⟩ := iI h
  refine y_getI (pc := 1) flRX1_42 dX1_inAll_1 rfl a2 e3 ?_
  exact y_iret (pc := 4) dX1_inAll_4 rfl h
def fX1_steps (l0 : Nat) (s : zS) : Option (Int32 × zS) :=
  bnd (qR s 1 l0 6) fun x1 =>
  bnd (cl s 7 x1 (fX7_rows x1  s)) fun q4 =>
  some (q4.1, q4.2)
set_option maxRecDepth 100000 in
set_option maxHeartbeats 4000000 in
theorem okX1_steps {E : zE} {l0 : Nat} {s : zS} {q : Int32 × zS} (h : fX1_steps l0 s = some q) : Ci E mX1_steps [.ref l0] s q.1 q.2 := by
  refine Ct.of (ls := [(0, .ref l0)]) (by decide) rfl (Nat.le_of_ble_eq_true rfl) ?_
  show Z E mX1_steps 0 [(0, .ref l0)] [] s (0, 0) (zRi E mX1_steps q.1 q.2)
  unfold fX1_steps at h
  refine z_aload_n (pc := 0) 0 rfl dX1_steps_0 rfl ?_
  obtain ⟨a2, x1, e3, h⟩ := iR h
  refine y_getR (pc := 1) flRX1_45 dX1_steps_1 rfl a2 e3 ?_
  obtain ⟨a5, q4, e6, h⟩ := iC h
  refine y_Vi (pc := 4) (M2 := mX7_rows) (As := []) (okX7_rows e6) mvX7_rows mlRX1_49 dX1_steps_4 ⟨by decide, by decide⟩ rfl rfl rfl zrest0 a5 ?_
  exact y_iret (pc := 7) dX1_steps_7 rfl h
def fX1_numberOfStep (l0 : Nat) (l1 : Int32) (s : zS) : Option (Int32 × zS) :=
  bnd (qR s 1 l0 2) fun x1 =>
  bnd (cl s 6 x1 (fX6_at x1 l1 s)) fun q4 =>
  some (q4.1, q4.2)
set_option maxRecDepth 100000 in
set_option maxHeartbeats 4000000 in
theorem okX1_numberOfStep {E : zE} {l0 : Nat} {l1 : Int32} {s : zS} {q : Int32 × zS} (h : fX1_numberOfStep l0 l1 s = some q) : Ci E mX1_numberOfStep [.ref l0, .int l1] s q.1 q.2 := by
  refine Ct.of (ls := [(0, .ref l0), (1, .int l1)]) (by decide) rfl (Nat.le_of_ble_eq_true rfl) ?_
  show Z E mX1_numberOfStep 0 [(0, .ref l0), (1, .int l1)] [] s (0, 0) (zRi E mX1_numberOfStep q.1 q.2)
  unfold fX1_numberOfStep at h
  refine z_aload_n (pc := 0) 0 rfl dX1_numberOfStep_0 rfl ?_
  obtain ⟨a2, x1, e3, h⟩ := iR h
  refine y_getR (pc := 1) flRX1_23 dX1_numberOfStep_1 rfl a2 e3 ?_
  refine z_iload_n (pc := 4) 1 rfl dX1_numberOfStep_4 rfl ?_
  obtain ⟨a5, q4, e6, h⟩ := iC h
  refine y_Vi (pc := 5) (M2 := mX6_at) (As := [.int l1]) (okX6_at e6) mvX6_at mlRX1_70 dX1_numberOfStep_5 ⟨by decide, by decide⟩ rfl rfl rfl zrest0 a5 ?_
  exact y_iret (pc := 8) dX1_numberOfStep_8 rfl h
def fX1_contains_11  (n : Nat) : Nat → Int32 → Int32 → Int32 → zS → Option (Int32 × zS) := match n with
  | 0 => fun _ _ _ _ _ => none
  | n + 1 => fun l0 l1 l2 l3 s =>
    bnd (qR s 1 l0 1) fun x7 =>
    bnd (cl s 6 x7 (fX6_at x7 l1 s)) fun q10 =>
    if q10.1 ≤ l3 then
      gd ((0 : Int32) = 0 ∨ 0 = 1) (some (0, q10.2))
    else
      bnd (qR q10.2 1 l0 0) fun x13 =>
      bnd (cl q10.2 6 x13 (fX6_at x13 l3 q10.2)) fun q16 =>
      if q16.1 = l2 then
        gd ((1 : Int32) = 0 ∨ 1 = 1) (some (1, q16.2))
      else
        (fX1_contains_11  n) l0 l1 l2 (l3 + 1) q16.2
set_option maxRecDepth 100000 in
set_option maxHeartbeats 4000000 in
theorem bX1_contains_11 {E : zE}  : ∀ (n : Nat) {l0 : Nat} {l1 : Int32} {l2 : Int32} {l3 : Int32} {s : zS} {q : Int32 × zS}, fX1_contains_11  n l0 l1 l2 l3 s = some q → Z E mX1_contains 11 [(0, .ref l0), (1, .int l1), (2, .int l2), (3, .int l3)] [] s (0, 0) (zRi E mX1_contains q.1 q.2) := by
  intro n
  induction n with
  | zero => intro l0 l1 l2 l3 s q h; cases h
  | succ n ih =>
    intro l0 l1 l2 l3 s q h
    unfold fX1_contains_11 at h
    refine z_iload_n (pc := 11) 3 rfl dX1_contains_11 rfl ?_
    refine z_aload_n (pc := 12) 0 rfl dX1_contains_12 rfl ?_
    obtain ⟨a8, x7, e9, h⟩ := iR h
    refine y_getR (pc := 13) flRX1_20 dX1_contains_13 rfl a8 e9 ?_
    refine z_iload_n (pc := 16) 1 rfl dX1_contains_16 rfl ?_
    obtain ⟨a11, q10, e12, h⟩ := iC h
    refine y_Vi (pc := 17) (M2 := mX6_at) (As := [.int l1]) (okX6_at e12) mvX6_at mlRX1_70 dX1_contains_17 ⟨by decide, by decide⟩ rfl rfl rfl (fun _ => Nat.le_of_ble_eq_true rfl) a11 ?_
    refine z_icmp_ge (pc := 20) (tgt := 43) dX1_contains_20 (by decide) (fun hc => ?_) (fun hc => ?_)
    · replace h := ifp hc h
      refine z_iconst (pc := 43) (v := 0) dX1_contains_43 (by decide) ?_
      exact y_zret (pc := 44) dX1_contains_44 rfl h
    · replace h := ifn hc h
      refine z_aload_n (pc := 23) 0 rfl dX1_contains_23 rfl ?_
      obtain ⟨a14, x13, e15, h⟩ := iR h
      refine y_getR (pc := 24) flRX1_14 dX1_contains_24 rfl a14 e15 ?_
      refine z_iload_n (pc := 27) 3 rfl dX1_contains_27 rfl ?_
      obtain ⟨a17, q16, e18, h⟩ := iC h
      refine y_Vi (pc := 28) (M2 := mX6_at) (As := [.int l3]) (okX6_at e18) mvX6_at mlRX1_70 dX1_contains_28 ⟨by decide, by decide⟩ rfl rfl rfl zrest0 a17 ?_
      refine z_iload_n (pc := 31) 2 rfl dX1_contains_31 rfl ?_
      refine z_icmp_ne (pc := 32) (tgt := 37) dX1_contains_32 (by decide) (fun hc => ?_) (fun hc => ?_)
      · replace h := ifn hc h
        refine z_iinc (pc := 37) (v := (l3 + 1)) (ls' := [(3, .int (l3 + 1)), (0, .ref l0), (1, .int l1), (2, .int l2)]) 3 rfl rfl dX1_contains_37 (by decide) (fun _ => rfl) ?_
        refine z_goto (pc := 40) (tgt := 11) dX1_contains_40 (by decide) ?_
        exact z_sub [1, 2, 3, 0] rfl (ih h)
      · replace h := ifp hc h
        refine z_iconst (pc := 35) (v := 1) dX1_contains_35 (by decide) ?_
        exact y_zret (pc := 36) dX1_contains_36 rfl h
def fX1_contains (l0 : Nat) (l1 : Int32) (l2 : Int32) (s : zS) : Option (Int32 × zS) :=
  bnd (qR s 1 l0 1) fun x1 =>
  bnd (cl s 6 x1 (fX6_at x1 (l1 - 1) s)) fun q4 =>
  fX1_contains_11  zfu l0 l1 l2 q4.1 q4.2
set_option maxRecDepth 100000 in
set_option maxHeartbeats 4000000 in
theorem okX1_contains {E : zE} {l0 : Nat} {l1 : Int32} {l2 : Int32} {s : zS} {q : Int32 × zS} (h : fX1_contains l0 l1 l2 s = some q) : Ci E mX1_contains [.ref l0, .int l1, .int l2] s q.1 q.2 := by
  refine Ct.of (ls := [(0, .ref l0), (1, .int l1), (2, .int l2)]) (by decide) rfl (Nat.le_of_ble_eq_true rfl) ?_
  show Z E mX1_contains 0 [(0, .ref l0), (1, .int l1), (2, .int l2)] [] s (0, 0) (zRi E mX1_contains q.1 q.2)
  unfold fX1_contains at h
  refine z_aload_n (pc := 0) 0 rfl dX1_contains_0 rfl ?_
  obtain ⟨a2, x1, e3, h⟩ := iR h
  refine y_getR (pc := 1) flRX1_20 dX1_contains_1 rfl a2 e3 ?_
  refine z_iload_n (pc := 4) 1 rfl dX1_contains_4 rfl ?_
  refine z_iconst (pc := 5) (v := 1) dX1_contains_5 (by decide) ?_
  refine z_isub (pc := 6) dX1_contains_6 ?_
  obtain ⟨a5, q4, e6, h⟩ := iC h
  refine y_Vi (pc := 7) (M2 := mX6_at) (As := [.int (l1 - 1)]) (okX6_at e6) mvX6_at mlRX1_70 dX1_contains_7 ⟨by decide, by decide⟩ rfl rfl rfl zrest0 a5 ?_
  refine z_istore_n (pc := 10) (ls' := [(3, .int q4.1), (0, .ref l0), (1, .int l1), (2, .int l2)]) dX1_contains_10 rfl (by decide) (fun _ => rfl) ?_
  exact z_sub [1, 2, 3, 0] rfl (bX1_contains_11  _ h)
def fX1_isAsStep_23  (n : Nat) : Nat → Int32 → Int32 → Int32 → Int32 → zS → Option (Int32 × zS) := match n with
  | 0 => fun _ _ _ _ _ _ => none
  | n + 1 => fun l0 l1 l2 l3 l4 s =>
    if l3 ≤ l4 then
      gd ((1 : Int32) = 0 ∨ 1 = 1) (some (1, s))
    else
      bnd (qR s 1 l0 6) fun x10 =>
      bnd (cl s 7 x10 (fX7_literal x10 l2 l4 s)) fun q13 =>
      bnd (cl q13.2 1 l0 (fX1_contains l0 l1 q13.1 q13.2)) fun q16 =>
      if q16.1 = 0 then
        gd ((0 : Int32) = 0 ∨ 0 = 1) (some (0, q16.2))
      else
        (fX1_isAsStep_23  n) l0 l1 l2 l3 (l4 + 1) q16.2
set_option maxRecDepth 100000 in
set_option maxHeartbeats 4000000 in
theorem bX1_isAsStep_23 {E : zE}  : ∀ (n : Nat) {l0 : Nat} {l1 : Int32} {l2 : Int32} {l3 : Int32} {l4 : Int32} {s : zS} {q : Int32 × zS}, fX1_isAsStep_23  n l0 l1 l2 l3 l4 s = some q → Z E mX1_isAsStep 23 [(0, .ref l0), (1, .int l1), (2, .int l2), (3, .int l3), (4, .int l4)] [] s (0, 0) (zRi E mX1_isAsStep q.1 q.2) := by
  intro n
  induction n with
  | zero => intro l0 l1 l2 l3 l4 s q h; cases h
  | succ n ih =>
    intro l0 l1 l2 l3 l4 s q h
    unfold fX1_isAsStep_23 at h
    refine z_iload (pc := 23) 4 rfl dX1_isAsStep_23 ?_
    refine z_iload_n (pc := 25) 3 rfl dX1_isAsStep_25 rfl ?_
    refine z_icmp_ge (pc := 26) (tgt := 55) dX1_isAsStep_26 (by decide) (fun hc => ?_) (fun hc => ?_)
    · replace h := ifp hc h
      refine z_iconst (pc := 55) (v := 1) dX1_isAsStep_55 (by decide) ?_
      exact y_zret (pc := 56) dX1_isAsStep_56 rfl h
    · replace h := ifn hc h
      refine z_aload_n (pc := 29) 0 rfl dX1_isAsStep_29 rfl ?_
      refine z_iload_n (pc := 30) 1 rfl dX1_isAsStep_30 rfl ?_
      refine z_aload_n (pc := 31) 0 rfl dX1_isAsStep_31 rfl ?_
      obtain ⟨a11, x10, e12, h⟩ := iR h
      refine y_getR (pc := 32) flRX1_45 dX1_isAsStep_32 rfl a11 e12 ?_
      refine z_iload_n (pc := 35) 2 rfl dX1_isAsStep_35 rfl ?_
      refine z_iload (pc := 36) 4 rfl dX1_isAsStep_36 ?_
      obtain ⟨a14, q13, e15, h⟩ := iC h
      refine y_Vi (pc := 38) (M2 := mX7_literal) (As := [.int l2, .int l4]) (okX7_literal e15) mvX7_literal mlRX1_78 dX1_isAsStep_38 ⟨by decide, by decide⟩ rfl rfl rfl (fun _ => Nat.le_of_ble_eq_true rfl) a14 ?_
      obtain ⟨a17, q16, e18, h⟩ := iC h
      refine y_Vi (pc := 41) (M2 := mX1_contains) (As := [.int l1, .int q13.1]) (okX1_contains e18) mvX1_contains mlRX1_82 dX1_isAsStep_41 ⟨by decide, by decide⟩ rfl rfl rfl zrest0 a17 ?_
      refine z_if_ne (pc := 44) (tgt := 49) dX1_isAsStep_44 (by decide) (fun hc => ?_) (fun hc => ?_)
      · replace h := ifn hc h
        refine z_iinc (pc := 49) (v := (l4 + 1)) (ls' := [(4, .int (l4 + 1)), (0, .ref l0), (1, .int l1), (2, .int l2), (3, .int l3)]) 4 rfl rfl dX1_isAsStep_49 (by decide) (fun _ => rfl) ?_
        refine z_goto (pc := 52) (tgt := 23) dX1_isAsStep_52 (by decide) ?_
        exact z_sub [1, 2, 3, 4, 0] rfl (ih h)
      · replace h := ifp hc h
        refine z_iconst (pc := 47) (v := 0) dX1_isAsStep_47 (by decide) ?_
        exact y_zret (pc := 48) dX1_isAsStep_48 rfl h
def fX1_isAsStep (l0 : Nat) (l1 : Int32) (l2 : Int32) (s : zS) : Option (Int32 × zS) :=
  bnd (cl s 1 l0 (fX1_size l0 l1 s)) fun q1 =>
  bnd (qR q1.2 1 l0 6) fun x4 =>
  bnd (cl q1.2 7 x4 (fX7_size x4 l2 q1.2)) fun q7 =>
  if q1.1 = q7.1 then
    fX1_isAsStep_23  zfu l0 l1 l2 q1.1 0 q7.2
  else
    gd ((0 : Int32) = 0 ∨ 0 = 1) (some (0, q7.2))
set_option maxRecDepth 100000 in
set_option maxHeartbeats 4000000 in
theorem okX1_isAsStep {E : zE} {l0 : Nat} {l1 : Int32} {l2 : Int32} {s : zS} {q : Int32 × zS} (h : fX1_isAsStep l0 l1 l2 s = some q) : Ci E mX1_isAsStep [.ref l0, .int l1, .int l2] s q.1 q.2 := by
  refine Ct.of (ls := [(0, .ref l0), (1, .int l1), (2, .int l2)]) (by decide) rfl (Nat.le_of_ble_eq_true rfl) ?_
  show Z E mX1_isAsStep 0 [(0, .ref l0), (1, .int l1), (2, .int l2)] [] s (0, 0) (zRi E mX1_isAsStep q.1 q.2)
  unfold fX1_isAsStep at h
  refine z_aload_n (pc := 0) 0 rfl dX1_isAsStep_0 rfl ?_
  refine z_iload_n (pc := 1) 1 rfl dX1_isAsStep_1 rfl ?_
  obtain ⟨a2, q1, e3, h⟩ := iC h
  refine y_Vi (pc := 2) (M2 := mX1_size) (As := [.int l1]) (okX1_size e3) mvX1_size mlRX1_74 dX1_isAsStep_2 ⟨by decide, by decide⟩ rfl rfl rfl zrest0 a2 ?_
  refine z_istore_n (pc := 5) (ls' := [(3, .int q1.1), (0, .ref l0), (1, .int l1), (2, .int l2)]) dX1_isAsStep_5 rfl (by decide) (fun _ => rfl) ?_
  refine z_iload_n (pc := 6) 0 rfl dX1_isAsStep_6 rfl ?_
  refine z_aload_n (pc := 7) 1 rfl dX1_isAsStep_7 rfl ?_
  obtain ⟨a5, x4, e6, h⟩ := iR h
  refine y_getR (pc := 8) flRX1_45 dX1_isAsStep_8 rfl a5 e6 ?_
  refine z_iload_n (pc := 11) 3 rfl dX1_isAsStep_11 rfl ?_
  obtain ⟨a8, q7, e9, h⟩ := iC h
  refine y_Vi (pc := 12) (M2 := mX7_size) (As := [.int l2]) (okX7_size e9) mvX7_size mlRX1_77 dX1_isAsStep_12 ⟨by decide, by decide⟩ rfl rfl rfl (fun _ => Nat.le_of_ble_eq_true rfl) a8 ?_
  refine z_icmp_eq (pc := 15) (tgt := 20) dX1_isAsStep_15 (by decide) (fun hc => ?_) (fun hc => ?_)
  · replace h := ifp hc h
    refine z_iconst (pc := 20) (v := 0) dX1_isAsStep_20 (by decide) ?_
    refine z_istore (pc := 21) (ls' := [(4, .int 0), (3, .int q1.1), (0, .ref l0), (1, .int l1), (2, .int l2)]) dX1_isAsStep_21 (by decide) (fun _ => rfl) ?_
    exact z_sub [2, 3, 4, 1, 0] rfl (bX1_isAsStep_23  _ h)
  · replace h := ifn hc h
    refine z_iconst (pc := 18) (v := 0) dX1_isAsStep_18 (by decide) ?_
    exact y_zret (pc := 19) dX1_isAsStep_19 rfl h
def fX1_firstUse (l0 : Nat) (l1 : Int32) (s : zS) : Option (Int32 × zS) :=
  bnd (qR s 1 l0 4) fun x1 =>
  bnd (fX9_codeOf l1 s) fun q4 =>
  bnd (cl q4.2 6 x1 (fX6_at x1 q4.1 q4.2)) fun q7 =>
  some (q7.1, q7.2)
set_option maxRecDepth 100000 in
set_option maxHeartbeats 4000000 in
theorem okX1_firstUse {E : zE} {l0 : Nat} {l1 : Int32} {s : zS} {q : Int32 × zS} (h : fX1_firstUse l0 l1 s = some q) : Ci E mX1_firstUse [.ref l0, .int l1] s q.1 q.2 := by
  refine Ct.of (ls := [(0, .ref l0), (1, .int l1)]) (by decide) rfl (Nat.le_of_ble_eq_true rfl) ?_
  show Z E mX1_firstUse 0 [(0, .ref l0), (1, .int l1)] [] s (0, 0) (zRi E mX1_firstUse q.1 q.2)
  unfold fX1_firstUse at h
  refine z_aload_n (pc := 0) 0 rfl dX1_firstUse_0 rfl ?_
  obtain ⟨a2, x1, e3, h⟩ := iR h
  refine y_getR (pc := 1) flRX1_29 dX1_firstUse_1 rfl a2 e3 ?_
  refine z_iload_n (pc := 4) 1 rfl dX1_firstUse_4 rfl ?_
  obtain ⟨q4, e6, h⟩ := bnd_i h
  refine y_SNi (pc := 5) (M2 := mX9_codeOf) (As := [.int l1]) (okX9_codeOf e6) mqX9_codeOf msX9_codeOf neRX1_86 dX1_firstUse_5 ⟨by decide, by decide⟩ rfl rfl rfl (fun _ => Nat.le_of_ble_eq_true rfl) ?_
  obtain ⟨a8, q7, e9, h⟩ := iC h
  refine y_Vi (pc := 8) (M2 := mX6_at) (As := [.int q4.1]) (okX6_at e9) mvX6_at mlRX1_70 dX1_firstUse_8 ⟨by decide, by decide⟩ rfl rfl rfl zrest0 a8 ?_
  exact y_iret (pc := 11) dX1_firstUse_11 rfl h
def fX1_endOfUses (l0 : Nat) (l1 : Int32) (s : zS) : Option (Int32 × zS) :=
  bnd (qR s 1 l0 5) fun x1 =>
  bnd (fX9_codeOf l1 s) fun q4 =>
  bnd (cl q4.2 6 x1 (fX6_at x1 q4.1 q4.2)) fun q7 =>
  some (q7.1, q7.2)
set_option maxRecDepth 100000 in
set_option maxHeartbeats 4000000 in
theorem okX1_endOfUses {E : zE} {l0 : Nat} {l1 : Int32} {s : zS} {q : Int32 × zS} (h : fX1_endOfUses l0 l1 s = some q) : Ci E mX1_endOfUses [.ref l0, .int l1] s q.1 q.2 := by
  refine Ct.of (ls := [(0, .ref l0), (1, .int l1)]) (by decide) rfl (Nat.le_of_ble_eq_true rfl) ?_
  show Z E mX1_endOfUses 0 [(0, .ref l0), (1, .int l1)] [] s (0, 0) (zRi E mX1_endOfUses q.1 q.2)
  unfold fX1_endOfUses at h
  refine z_aload_n (pc := 0) 0 rfl dX1_endOfUses_0 rfl ?_
  obtain ⟨a2, x1, e3, h⟩ := iR h
  refine y_getR (pc := 1) flRX1_32 dX1_endOfUses_1 rfl a2 e3 ?_
  refine z_iload_n (pc := 4) 1 rfl dX1_endOfUses_4 rfl ?_
  obtain ⟨q4, e6, h⟩ := bnd_i h
  refine y_SNi (pc := 5) (M2 := mX9_codeOf) (As := [.int l1]) (okX9_codeOf e6) mqX9_codeOf msX9_codeOf neRX1_86 dX1_endOfUses_5 ⟨by decide, by decide⟩ rfl rfl rfl (fun _ => Nat.le_of_ble_eq_true rfl) ?_
  obtain ⟨a8, q7, e9, h⟩ := iC h
  refine y_Vi (pc := 8) (M2 := mX6_at) (As := [.int q4.1]) (okX6_at e9) mvX6_at mlRX1_70 dX1_endOfUses_8 ⟨by decide, by decide⟩ rfl rfl rfl zrest0 a8 ?_
  exact y_iret (pc := 11) dX1_endOfUses_11 rfl h
def fX1_user (l0 : Nat) (l1 : Int32) (s : zS) : Option (Int32 × zS) :=
  bnd (qR s 1 l0 3) fun x1 =>
  bnd (cl s 6 x1 (fX6_at x1 l1 s)) fun q4 =>
  some (q4.1, q4.2)
set_option maxRecDepth 100000 in
set_option maxHeartbeats 4000000 in
theorem okX1_user {E : zE} {l0 : Nat} {l1 : Int32} {s : zS} {q : Int32 × zS} (h : fX1_user l0 l1 s = some q) : Ci E mX1_user [.ref l0, .int l1] s q.1 q.2 := by
  refine Ct.of (ls := [(0, .ref l0), (1, .int l1)]) (by decide) rfl (Nat.le_of_ble_eq_true rfl) ?_
  show Z E mX1_user 0 [(0, .ref l0), (1, .int l1)] [] s (0, 0) (zRi E mX1_user q.1 q.2)
  unfold fX1_user at h
  refine z_aload_n (pc := 0) 0 rfl dX1_user_0 rfl ?_
  obtain ⟨a2, x1, e3, h⟩ := iR h
  refine y_getR (pc := 1) flRX1_26 dX1_user_1 rfl a2 e3 ?_
  refine z_iload_n (pc := 4) 1 rfl dX1_user_4 rfl ?_
  obtain ⟨a5, q4, e6, h⟩ := iC h
  refine y_Vi (pc := 5) (M2 := mX6_at) (As := [.int l1]) (okX6_at e6) mvX6_at mlRX1_70 dX1_user_5 ⟨by decide, by decide⟩ rfl rfl rfl zrest0 a5 ?_
  exact y_iret (pc := 8) dX1_user_8 rfl h
def fX2_init (l0 : Nat) (s : zS) : Option zS :=
  bnd (nO s 6) fun s1 =>
  bnd (fX6_init (zn s + 1) 4000 s1) fun q4 =>
  bnd (wR q4 2 l0 0 (zn s + 1)) fun s7 =>
  bnd (nO s7 6) fun s10 =>
  bnd (fX6_init (zn s7 + 1) 601 s10) fun q13 =>
  bnd (wR q13 2 l0 1 (zn s7 + 1)) fun s16 =>
  bnd (nO s16 6) fun s19 =>
  bnd (fX6_init (zn s16 + 1) 601 s19) fun q22 =>
  bnd (wR q22 2 l0 2 (zn s16 + 1)) fun s25 =>
  bnd (wI s25 2 l0 3 0) fun s28 =>
  some s28
set_option maxRecDepth 100000 in
set_option maxHeartbeats 4000000 in
theorem okX2_init {E : zE} {l0 : Nat} {s : zS} {t : zS} (h : fX2_init l0 s = some t) : Cv E mX2_init [.ref l0] s t := by
  refine Ct.of (ls := [(0, .ref l0)]) (by decide) rfl (Nat.le_of_ble_eq_true rfl) ?_
  show Z E mX2_init 0 [(0, .ref l0)] [] s (6, 12003) (zRv E mX2_init t)
  unfold fX2_init at h
  refine z_aload_n (pc := 0) 0 rfl dX2_init_0 rfl ?_
  refine z_objInit (pc := 1) mlRX2_3 ob_i ob_c dX2_init_1 (Nat.le_of_ble_eq_true rfl) (Nat.le_of_ble_eq_true rfl) zrest0 ?_
  refine z_aload_n (pc := 4) 0 rfl dX2_init_4 rfl ?_
  obtain ⟨a2, s1, e3, h⟩ := iNO h
  refine y_new (pc := 5) (b1 := 5) (b2 := 12002) nlRX2_9 dX2_init_5 a2 rfl rfl e3 ?_
  refine z_dup (pc := 8) dX2_init_8 (fun _ => rfl) ?_
  refine z_sipush (pc := 9) (v := 4000) dX2_init_9 (by decide) ?_
  obtain ⟨q4, e6, h⟩ := bnd_i h
  refine y_I (pc := 12) (M2 := mX6_init) (As := [.int 4000]) (b1 := 4) (b2 := 8002) (okX6_init e6) mqX6_init miX6_init rfl rfl mlRX2_11 dX2_init_12 ⟨by decide, by decide⟩ rfl rfl (fun _ => Nat.le_of_ble_eq_true rfl) rfl rfl ?_
  obtain ⟨a8, s7, e9, h⟩ := jR h
  refine y_putR (pc := 15) flRX2_14 dX2_init_15 rfl (Or.inr ⟨rfl, rfl, rfl⟩) a8 e9 ?_
  refine z_aload_n (pc := 18) 0 rfl dX2_init_18 rfl ?_
  obtain ⟨a11, s10, e12, h⟩ := iNO h
  refine y_new (pc := 19) (b1 := 3) (b2 := 8001) nlRX2_9 dX2_init_19 a11 rfl rfl e12 ?_
  refine z_dup (pc := 22) dX2_init_22 (fun _ => rfl) ?_
  refine z_sipush (pc := 23) (v := 601) dX2_init_23 (by decide) ?_
  obtain ⟨q13, e15, h⟩ := bnd_i h
  refine y_I (pc := 26) (M2 := mX6_init) (As := [.int 601]) (b1 := 2) (b2 := 4001) (okX6_init e15) mqX6_init miX6_init rfl rfl mlRX2_11 dX2_init_26 ⟨by decide, by decide⟩ rfl rfl (fun _ => Nat.le_of_ble_eq_true rfl) rfl rfl ?_
  obtain ⟨a17, s16, e18, h⟩ := jR h
  refine y_putR (pc := 29) flRX2_20 dX2_init_29 rfl (Or.inr ⟨rfl, rfl, rfl⟩) a17 e18 ?_
  refine z_aload_n (pc := 32) 0 rfl dX2_init_32 rfl ?_
  obtain ⟨a20, s19, e21, h⟩ := iNO h
  refine y_new (pc := 33) (b1 := 1) (b2 := 4000) nlRX2_9 dX2_init_33 a20 rfl rfl e21 ?_
  refine z_dup (pc := 36) dX2_init_36 (fun _ => rfl) ?_
  refine z_sipush (pc := 37) (v := 601) dX2_init_37 (by decide) ?_
  obtain ⟨q22, e24, h⟩ := bnd_i h
  refine y_I (pc := 40) (M2 := mX6_init) (As := [.int 601]) (b1 := 0) (b2 := 0) (okX6_init e24) mqX6_init miX6_init rfl rfl mlRX2_11 dX2_init_40 ⟨by decide, by decide⟩ rfl rfl (fun _ => Nat.le_of_ble_eq_true rfl) rfl rfl ?_
  obtain ⟨a26, s25, e27, h⟩ := jR h
  refine y_putR (pc := 43) flRX2_23 dX2_init_43 rfl (Or.inr ⟨rfl, rfl, rfl⟩) a26 e27 ?_
  refine z_aload_n (pc := 46) 0 rfl dX2_init_46 rfl ?_
  refine z_iconst (pc := 47) (v := 0) dX2_init_47 (by decide) ?_
  obtain ⟨a29, s28, e30, h⟩ := jI h
  refine y_putI (pc := 48) flRX2_26 dX2_init_48 rfl (Or.inl rfl) a29 e30 ?_
  exact y_ret (pc := 51) dX2_init_51 rfl h
def fX2_clear (l0 : Nat) (s : zS) : Option zS :=
  bnd (wI s 2 l0 3 0) fun s1 =>
  bnd (qR s1 2 l0 1) fun x4 =>
  bnd (cl s1 6 x4 (fX6_fill x4 0 s1)) fun q7 =>
  bnd (qR q7 2 l0 2) fun x10 =>
  bnd (cl q7 6 x10 (fX6_fill x10 0 q7)) fun q13 =>
  some q13
set_option maxRecDepth 100000 in
set_option maxHeartbeats 4000000 in
theorem okX2_clear {E : zE} {l0 : Nat} {s : zS} {t : zS} (h : fX2_clear l0 s = some t) : Cv E mX2_clear [.ref l0] s t := by
  refine Ct.of (ls := [(0, .ref l0)]) (by decide) rfl (Nat.le_of_ble_eq_true rfl) ?_
  show Z E mX2_clear 0 [(0, .ref l0)] [] s (0, 0) (zRv E mX2_clear t)
  unfold fX2_clear at h
  refine z_aload_n (pc := 0) 0 rfl dX2_clear_0 rfl ?_
  refine z_iconst (pc := 1) (v := 0) dX2_clear_1 (by decide) ?_
  obtain ⟨a2, s1, e3, h⟩ := jI h
  refine y_putI (pc := 2) flRX2_26 dX2_clear_2 rfl (Or.inl rfl) a2 e3 ?_
  refine z_aload_n (pc := 5) 0 rfl dX2_clear_5 rfl ?_
  obtain ⟨a5, x4, e6, h⟩ := iR h
  refine y_getR (pc := 6) flRX2_20 dX2_clear_6 rfl a5 e6 ?_
  refine z_iconst (pc := 9) (v := 0) dX2_clear_9 (by decide) ?_
  obtain ⟨a8, q7, e9, h⟩ := iC h
  refine y_V (pc := 10) (M2 := mX6_fill) (As := [.int 0]) (okX6_fill e9) mvX6_fill mlRX2_30 dX2_clear_10 ⟨by decide, by decide⟩ rfl rfl rfl zrest0 a8 ?_
  refine z_aload_n (pc := 13) 0 rfl dX2_clear_13 rfl ?_
  obtain ⟨a11, x10, e12, h⟩ := iR h
  refine y_getR (pc := 14) flRX2_23 dX2_clear_14 rfl a11 e12 ?_
  refine z_iconst (pc := 17) (v := 0) dX2_clear_17 (by decide) ?_
  obtain ⟨a14, q13, e15, h⟩ := iC h
  refine y_V (pc := 18) (M2 := mX6_fill) (As := [.int 0]) (okX6_fill e15) mvX6_fill mlRX2_30 dX2_clear_18 ⟨by decide, by decide⟩ rfl rfl rfl zrest0 a14 ?_
  exact y_ret (pc := 21) dX2_clear_21 rfl h
def fX2_open (l0 : Nat) (l1 : Int32) (s : zS) : Option zS :=
  bnd (qR s 2 l0 1) fun x1 =>
  bnd (qI s 2 l0 3) fun x4 =>
  bnd (cl s 6 x1 (fX6_put x1 l1 x4 s)) fun q7 =>
  bnd (qR q7 2 l0 2) fun x10 =>
  bnd (qI q7 2 l0 3) fun x13 =>
  bnd (cl q7 6 x10 (fX6_put x10 l1 x13 q7)) fun q16 =>
  some q16
set_option maxRecDepth 100000 in
set_option maxHeartbeats 4000000 in
theorem okX2_open {E : zE} {l0 : Nat} {l1 : Int32} {s : zS} {t : zS} (h : fX2_open l0 l1 s = some t) : Cv E mX2_open [.ref l0, .int l1] s t := by
  refine Ct.of (ls := [(0, .ref l0), (1, .int l1)]) (by decide) rfl (Nat.le_of_ble_eq_true rfl) ?_
  show Z E mX2_open 0 [(0, .ref l0), (1, .int l1)] [] s (0, 0) (zRv E mX2_open t)
  unfold fX2_open at h
  refine z_aload_n (pc := 0) 0 rfl dX2_open_0 rfl ?_
  obtain ⟨a2, x1, e3, h⟩ := iR h
  refine y_getR (pc := 1) flRX2_20 dX2_open_1 rfl a2 e3 ?_
  refine z_iload_n (pc := 4) 1 rfl dX2_open_4 rfl ?_
  refine z_aload_n (pc := 5) 0 rfl dX2_open_5 rfl ?_
  obtain ⟨a5, x4, e6, h⟩ := iI h
  refine y_getI (pc := 6) flRX2_26 dX2_open_6 rfl a5 e6 ?_
  obtain ⟨a8, q7, e9, h⟩ := iC h
  refine y_V (pc := 9) (M2 := mX6_put) (As := [.int l1, .int x4]) (okX6_put e9) mvX6_put mlRX2_33 dX2_open_9 ⟨by decide, by decide⟩ rfl rfl rfl zrest0 a8 ?_
  refine z_aload_n (pc := 12) 0 rfl dX2_open_12 rfl ?_
  obtain ⟨a11, x10, e12, h⟩ := iR h
  refine y_getR (pc := 13) flRX2_23 dX2_open_13 rfl a11 e12 ?_
  refine z_iload_n (pc := 16) 1 rfl dX2_open_16 rfl ?_
  refine z_aload_n (pc := 17) 0 rfl dX2_open_17 rfl ?_
  obtain ⟨a14, x13, e15, h⟩ := iI h
  refine y_getI (pc := 18) flRX2_26 dX2_open_18 rfl a14 e15 ?_
  obtain ⟨a17, q16, e18, h⟩ := iC h
  refine y_V (pc := 21) (M2 := mX6_put) (As := [.int l1, .int x13]) (okX6_put e18) mvX6_put mlRX2_33 dX2_open_21 ⟨by decide, by decide⟩ rfl rfl rfl zrest0 a17 ?_
  exact y_ret (pc := 24) dX2_open_24 rfl h
def fX2_add (l0 : Nat) (l1 : Int32) (l2 : Int32) (s : zS) : Option zS :=
  bnd (qI s 2 l0 3) fun x1 =>
  if 4000 ≤ x1 then
    some s
  else
    bnd (qR s 2 l0 0) fun x4 =>
    bnd (qI s 2 l0 3) fun x7 =>
    bnd (cl s 6 x4 (fX6_put x4 x7 l2 s)) fun q10 =>
    bnd (qI q10 2 l0 3) fun x13 =>
    bnd (wI q10 2 l0 3 (x13 + 1)) fun s16 =>
    bnd (qR s16 2 l0 2) fun x19 =>
    bnd (qI s16 2 l0 3) fun x22 =>
    bnd (cl s16 6 x19 (fX6_put x19 l1 x22 s16)) fun q25 =>
    some q25
set_option maxRecDepth 100000 in
set_option maxHeartbeats 4000000 in
theorem okX2_add {E : zE} {l0 : Nat} {l1 : Int32} {l2 : Int32} {s : zS} {t : zS} (h : fX2_add l0 l1 l2 s = some t) : Cv E mX2_add [.ref l0, .int l1, .int l2] s t := by
  refine Ct.of (ls := [(0, .ref l0), (1, .int l1), (2, .int l2)]) (by decide) rfl (Nat.le_of_ble_eq_true rfl) ?_
  show Z E mX2_add 0 [(0, .ref l0), (1, .int l1), (2, .int l2)] [] s (0, 0) (zRv E mX2_add t)
  unfold fX2_add at h
  refine z_aload_n (pc := 0) 0 rfl dX2_add_0 rfl ?_
  obtain ⟨a2, x1, e3, h⟩ := iI h
  refine y_getI (pc := 1) flRX2_26 dX2_add_1 rfl a2 e3 ?_
  refine z_sipush (pc := 4) (v := 4000) dX2_add_4 (by decide) ?_
  refine z_icmp_ge (pc := 7) (tgt := 44) dX2_add_7 (by decide) (fun hc => ?_) (fun hc => ?_)
  · replace h := ifp hc h
    exact y_ret (pc := 44) dX2_add_44 rfl h
  · replace h := ifn hc h
    refine z_aload_n (pc := 10) 0 rfl dX2_add_10 rfl ?_
    obtain ⟨a5, x4, e6, h⟩ := iR h
    refine y_getR (pc := 11) flRX2_14 dX2_add_11 rfl a5 e6 ?_
    refine z_aload_n (pc := 14) 0 rfl dX2_add_14 rfl ?_
    obtain ⟨a8, x7, e9, h⟩ := iI h
    refine y_getI (pc := 15) flRX2_26 dX2_add_15 rfl a8 e9 ?_
    refine z_iload_n (pc := 18) 2 rfl dX2_add_18 rfl ?_
    obtain ⟨a11, q10, e12, h⟩ := iC h
    refine y_V (pc := 19) (M2 := mX6_put) (As := [.int x7, .int l2]) (okX6_put e12) mvX6_put mlRX2_33 dX2_add_19 ⟨by decide, by decide⟩ rfl rfl rfl zrest0 a11 ?_
    refine z_aload_n (pc := 22) 0 rfl dX2_add_22 rfl ?_
    refine z_dup (pc := 23) dX2_add_23 (fun _ => rfl) ?_
    obtain ⟨a14, x13, e15, h⟩ := iI h
    refine y_getI (pc := 24) flRX2_26 dX2_add_24 rfl a14 e15 ?_
    refine z_iconst (pc := 27) (v := 1) dX2_add_27 (by decide) ?_
    refine z_iadd (pc := 28) dX2_add_28 ?_
    obtain ⟨a17, s16, e18, h⟩ := jI h
    refine y_putI (pc := 29) flRX2_26 dX2_add_29 rfl (Or.inl rfl) a17 e18 ?_
    refine z_aload_n (pc := 32) 0 rfl dX2_add_32 rfl ?_
    obtain ⟨a20, x19, e21, h⟩ := iR h
    refine y_getR (pc := 33) flRX2_23 dX2_add_33 rfl a20 e21 ?_
    refine z_iload_n (pc := 36) 1 rfl dX2_add_36 rfl ?_
    refine z_aload_n (pc := 37) 0 rfl dX2_add_37 rfl ?_
    obtain ⟨a23, x22, e24, h⟩ := iI h
    refine y_getI (pc := 38) flRX2_26 dX2_add_38 rfl a23 e24 ?_
    obtain ⟨a26, q25, e27, h⟩ := iC h
    refine y_V (pc := 41) (M2 := mX6_put) (As := [.int l1, .int x22]) (okX6_put e27) mvX6_put mlRX2_33 dX2_add_41 ⟨by decide, by decide⟩ rfl rfl rfl zrest0 a26 ?_
    exact y_ret (pc := 44) dX2_add_44 rfl h
def fX2_drop (l0 : Nat) (l1 : Int32) (s : zS) : Option zS :=
  bnd (qR s 2 l0 1) fun x1 =>
  bnd (cl s 6 x1 (fX6_at x1 l1 s)) fun q4 =>
  bnd (wI q4.2 2 l0 3 q4.1) fun s7 =>
  bnd (qR s7 2 l0 2) fun x10 =>
  bnd (qI s7 2 l0 3) fun x13 =>
  bnd (cl s7 6 x10 (fX6_put x10 l1 x13 s7)) fun q16 =>
  some q16
set_option maxRecDepth 100000 in
set_option maxHeartbeats 4000000 in
theorem okX2_drop {E : zE} {l0 : Nat} {l1 : Int32} {s : zS} {t : zS} (h : fX2_drop l0 l1 s = some t) : Cv E mX2_drop [.ref l0, .int l1] s t := by
  refine Ct.of (ls := [(0, .ref l0), (1, .int l1)]) (by decide) rfl (Nat.le_of_ble_eq_true rfl) ?_
  show Z E mX2_drop 0 [(0, .ref l0), (1, .int l1)] [] s (0, 0) (zRv E mX2_drop t)
  unfold fX2_drop at h
  refine z_aload_n (pc := 0) 0 rfl dX2_drop_0 rfl ?_
  refine z_aload_n (pc := 1) 0 rfl dX2_drop_1 rfl ?_
  obtain ⟨a2, x1, e3, h⟩ := iR h
  refine y_getR (pc := 2) flRX2_20 dX2_drop_2 rfl a2 e3 ?_
  refine z_iload_n (pc := 5) 1 rfl dX2_drop_5 rfl ?_
  obtain ⟨a5, q4, e6, h⟩ := iC h
  refine y_Vi (pc := 6) (M2 := mX6_at) (As := [.int l1]) (okX6_at e6) mvX6_at mlRX2_37 dX2_drop_6 ⟨by decide, by decide⟩ rfl rfl rfl (fun _ => Nat.le_of_ble_eq_true rfl) a5 ?_
  obtain ⟨a8, s7, e9, h⟩ := jI h
  refine y_putI (pc := 9) flRX2_26 dX2_drop_9 rfl (Or.inl rfl) a8 e9 ?_
  refine z_aload_n (pc := 12) 0 rfl dX2_drop_12 rfl ?_
  obtain ⟨a11, x10, e12, h⟩ := iR h
  refine y_getR (pc := 13) flRX2_23 dX2_drop_13 rfl a11 e12 ?_
  refine z_iload_n (pc := 16) 1 rfl dX2_drop_16 rfl ?_
  refine z_aload_n (pc := 17) 0 rfl dX2_drop_17 rfl ?_
  obtain ⟨a14, x13, e15, h⟩ := iI h
  refine y_getI (pc := 18) flRX2_26 dX2_drop_18 rfl a14 e15 ?_
  obtain ⟨a17, q16, e18, h⟩ := iC h
  refine y_V (pc := 21) (M2 := mX6_put) (As := [.int l1, .int x13]) (okX6_put e18) mvX6_put mlRX2_33 dX2_drop_21 ⟨by decide, by decide⟩ rfl rfl rfl zrest0 a17 ?_
  exact y_ret (pc := 24) dX2_drop_24 rfl h
def fX2_at (l0 : Nat) (l1 : Int32) (l2 : Int32) (s : zS) : Option (Int32 × zS) :=
  bnd (qR s 2 l0 1) fun x1 =>
  bnd (cl s 6 x1 (fX6_at x1 l1 s)) fun q4 =>
  if l2 < 0 then
    some (0, q4.2)
  else
    bnd (qR q4.2 2 l0 2) fun x7 =>
    bnd (cl q4.2 6 x7 (fX6_at x7 l1 q4.2)) fun q10 =>
    if (q10.1 - q4.1) ≤ l2 then
      some (0, q10.2)
    else
      bnd (qR q10.2 2 l0 0) fun x13 =>
      bnd (cl q10.2 6 x13 (fX6_at x13 (q4.1 + l2) q10.2)) fun q16 =>
      some (q16.1, q16.2)
set_option maxRecDepth 100000 in
set_option maxHeartbeats 4000000 in
theorem okX2_at {E : zE} {l0 : Nat} {l1 : Int32} {l2 : Int32} {s : zS} {q : Int32 × zS} (h : fX2_at l0 l1 l2 s = some q) : Ci E mX2_at [.ref l0, .int l1, .int l2] s q.1 q.2 := by
  refine Ct.of (ls := [(0, .ref l0), (1, .int l1), (2, .int l2)]) (by decide) rfl (Nat.le_of_ble_eq_true rfl) ?_
  show Z E mX2_at 0 [(0, .ref l0), (1, .int l1), (2, .int l2)] [] s (0, 0) (zRi E mX2_at q.1 q.2)
  unfold fX2_at at h
  refine z_aload_n (pc := 0) 0 rfl dX2_at_0 rfl ?_
  obtain ⟨a2, x1, e3, h⟩ := iR h
  refine y_getR (pc := 1) flRX2_20 dX2_at_1 rfl a2 e3 ?_
  refine z_iload_n (pc := 4) 1 rfl dX2_at_4 rfl ?_
  obtain ⟨a5, q4, e6, h⟩ := iC h
  refine y_Vi (pc := 5) (M2 := mX6_at) (As := [.int l1]) (okX6_at e6) mvX6_at mlRX2_37 dX2_at_5 ⟨by decide, by decide⟩ rfl rfl rfl zrest0 a5 ?_
  refine z_istore_n (pc := 8) (ls' := [(3, .int q4.1), (0, .ref l0), (1, .int l1), (2, .int l2)]) dX2_at_8 rfl (by decide) (fun _ => rfl) ?_
  refine z_iload_n (pc := 9) 3 rfl dX2_at_9 rfl ?_
  refine z_if_lt (pc := 10) (tgt := 40) dX2_at_10 (by decide) (fun hc => ?_) (fun hc => ?_)
  · replace h := ifp hc h
    refine z_iconst (pc := 40) (v := 0) dX2_at_40 (by decide) ?_
    exact y_iret (pc := 41) dX2_at_41 rfl h
  · replace h := ifn hc h
    refine z_iload_n (pc := 13) 3 rfl dX2_at_13 rfl ?_
    refine z_aload_n (pc := 14) 1 rfl dX2_at_14 rfl ?_
    obtain ⟨a8, x7, e9, h⟩ := iR h
    refine y_getR (pc := 15) flRX2_23 dX2_at_15 rfl a8 e9 ?_
    refine z_iload_n (pc := 18) 2 rfl dX2_at_18 rfl ?_
    obtain ⟨a11, q10, e12, h⟩ := iC h
    refine y_Vi (pc := 19) (M2 := mX6_at) (As := [.int l1]) (okX6_at e12) mvX6_at mlRX2_37 dX2_at_19 ⟨by decide, by decide⟩ rfl rfl rfl (fun _ => Nat.le_of_ble_eq_true rfl) a11 ?_
    refine z_iload_n (pc := 22) 0 rfl dX2_at_22 rfl ?_
    refine z_isub (pc := 23) dX2_at_23 ?_
    refine z_icmp_ge (pc := 24) (tgt := 40) dX2_at_24 (by decide) (fun hc => ?_) (fun hc => ?_)
    · replace h := ifp hc h
      refine z_iconst (pc := 40) (v := 0) dX2_at_40 (by decide) ?_
      exact y_iret (pc := 41) dX2_at_41 rfl h
    · replace h := ifn hc h
      refine z_aload_n (pc := 27) 1 rfl dX2_at_27 rfl ?_
      obtain ⟨a14, x13, e15, h⟩ := iR h
      refine y_getR (pc := 28) flRX2_14 dX2_at_28 rfl a14 e15 ?_
      refine z_iload_n (pc := 31) 0 rfl dX2_at_31 rfl ?_
      refine z_iload_n (pc := 32) 3 rfl dX2_at_32 rfl ?_
      refine z_iadd (pc := 33) dX2_at_33 ?_
      obtain ⟨a17, q16, e18, h⟩ := iC h
      refine y_Vi (pc := 34) (M2 := mX6_at) (As := [.int (q4.1 + l2)]) (okX6_at e18) mvX6_at mlRX2_37 dX2_at_34 ⟨by decide, by decide⟩ rfl rfl rfl zrest0 a17 ?_
      refine z_goto (pc := 37) (tgt := 41) dX2_at_37 (by decide) ?_
      exact y_iret (pc := 41) dX2_at_41 rfl h
def fX4_init (l0 : Nat) (l1 : Nat) (s : zS) : Option zS :=
  bnd (nO s 6) fun s1 =>
  bnd (fX6_init (zn s + 1) 601 s1) fun q4 =>
  bnd (wR q4 4 l0 1 (zn s + 1)) fun s7 =>
  bnd (nO s7 6) fun s10 =>
  bnd (fX6_init (zn s7 + 1) 601 s10) fun q13 =>
  bnd (wR q13 4 l0 2 (zn s7 + 1)) fun s16 =>
  bnd (nO s16 6) fun s19 =>
  bnd (fX6_init (zn s16 + 1) 601 s19) fun q22 =>
  bnd (wR q22 4 l0 3 (zn s16 + 1)) fun s25 =>
  bnd (nO s25 6) fun s28 =>
  bnd (fX6_init (zn s25 + 1) 601 s28) fun q31 =>
  bnd (wR q31 4 l0 4 (zn s25 + 1)) fun s34 =>
  bnd (nO s34 6) fun s37 =>
  bnd (fX6_init (zn s34 + 1) 38 s37) fun q40 =>
  bnd (wR q40 4 l0 5 (zn s34 + 1)) fun s43 =>
  bnd (nO s43 6) fun s46 =>
  bnd (fX6_init (zn s43 + 1) 151 s46) fun q49 =>
  bnd (wR q49 4 l0 6 (zn s43 + 1)) fun s52 =>
  bnd (nO s52 6) fun s55 =>
  bnd (fX6_init (zn s52 + 1) 80 s55) fun q58 =>
  bnd (wR q58 4 l0 7 (zn s52 + 1)) fun s61 =>
  bnd (nO s61 6) fun s64 =>
  bnd (fX6_init (zn s61 + 1) 150 s64) fun q67 =>
  bnd (wR q67 4 l0 8 (zn s61 + 1)) fun s70 =>
  bnd (nO s70 6) fun s73 =>
  bnd (fX6_init (zn s70 + 1) 150 s73) fun q76 =>
  bnd (wR q76 4 l0 9 (zn s70 + 1)) fun s79 =>
  bnd (nO s79 6) fun s82 =>
  bnd (fX6_init (zn s79 + 1) 302 s82) fun q85 =>
  bnd (wR q85 4 l0 10 (zn s79 + 1)) fun s88 =>
  bnd (nO s88 6) fun s91 =>
  bnd (fX6_init (zn s88 + 1) 151 s91) fun q94 =>
  bnd (wR q94 4 l0 11 (zn s88 + 1)) fun s97 =>
  bnd (wI s97 4 l0 12 0) fun s100 =>
  bnd (wI s100 4 l0 13 0) fun s103 =>
  bnd (wI s103 4 l0 14 0) fun s106 =>
  bnd (wI s106 4 l0 15 0) fun s109 =>
  bnd (wI s109 4 l0 16 0) fun s112 =>
  bnd (wI s112 4 l0 17 0) fun s115 =>
  bnd (wR s115 4 l0 0 l1) fun s118 =>
  some s118
set_option maxRecDepth 100000 in
set_option maxHeartbeats 4000000 in
theorem okX4_init {E : zE} {l0 : Nat} {l1 : Nat} {s : zS} {t : zS} (h : fX4_init l0 l1 s = some t) : Cv E mX4_init [.ref l0, .ref l1] s t := by
  refine Ct.of (ls := [(0, .ref l0), (1, .ref l1)]) (by decide) rfl (Nat.le_of_ble_eq_true rfl) ?_
  show Z E mX4_init 0 [(0, .ref l0), (1, .ref l1)] [] s (22, 44011) (zRv E mX4_init t)
  unfold fX4_init at h
  refine z_aload_n (pc := 0) 0 rfl dX4_init_0 rfl ?_
  refine z_objInit (pc := 1) mlRX4_5 ob_i ob_c dX4_init_1 (Nat.le_of_ble_eq_true rfl) (Nat.le_of_ble_eq_true rfl) zrest0 ?_
  refine z_aload_n (pc := 4) 0 rfl dX4_init_4 rfl ?_
  obtain ⟨a2, s1, e3, h⟩ := iNO h
  refine y_new (pc := 5) (b1 := 21) (b2 := 44010) nlRX4_11 dX4_init_5 a2 rfl rfl e3 ?_
  refine z_dup (pc := 8) dX4_init_8 (fun _ => rfl) ?_
  refine z_sipush (pc := 9) (v := 601) dX4_init_9 (by decide) ?_
  obtain ⟨q4, e6, h⟩ := bnd_i h
  refine y_I (pc := 12) (M2 := mX6_init) (As := [.int 601]) (b1 := 20) (b2 := 40010) (okX6_init e6) mqX6_init miX6_init rfl rfl mlRX4_13 dX4_init_12 ⟨by decide, by decide⟩ rfl rfl (fun _ => Nat.le_of_ble_eq_true rfl) rfl rfl ?_
  obtain ⟨a8, s7, e9, h⟩ := jR h
  refine y_putR (pc := 15) flRX4_16 dX4_init_15 rfl (Or.inr ⟨rfl, rfl, rfl⟩) a8 e9 ?_
  refine z_aload_n (pc := 18) 0 rfl dX4_init_18 rfl ?_
  obtain ⟨a11, s10, e12, h⟩ := iNO h
  refine y_new (pc := 19) (b1 := 19) (b2 := 40009) nlRX4_11 dX4_init_19 a11 rfl rfl e12 ?_
  refine z_dup (pc := 22) dX4_init_22 (fun _ => rfl) ?_
  refine z_sipush (pc := 23) (v := 601) dX4_init_23 (by decide) ?_
  obtain ⟨q13, e15, h⟩ := bnd_i h
  refine y_I (pc := 26) (M2 := mX6_init) (As := [.int 601]) (b1 := 18) (b2 := 36009) (okX6_init e15) mqX6_init miX6_init rfl rfl mlRX4_13 dX4_init_26 ⟨by decide, by decide⟩ rfl rfl (fun _ => Nat.le_of_ble_eq_true rfl) rfl rfl ?_
  obtain ⟨a17, s16, e18, h⟩ := jR h
  refine y_putR (pc := 29) flRX4_20 dX4_init_29 rfl (Or.inr ⟨rfl, rfl, rfl⟩) a17 e18 ?_
  refine z_aload_n (pc := 32) 0 rfl dX4_init_32 rfl ?_
  obtain ⟨a20, s19, e21, h⟩ := iNO h
  refine y_new (pc := 33) (b1 := 17) (b2 := 36008) nlRX4_11 dX4_init_33 a20 rfl rfl e21 ?_
  refine z_dup (pc := 36) dX4_init_36 (fun _ => rfl) ?_
  refine z_sipush (pc := 37) (v := 601) dX4_init_37 (by decide) ?_
  obtain ⟨q22, e24, h⟩ := bnd_i h
  refine y_I (pc := 40) (M2 := mX6_init) (As := [.int 601]) (b1 := 16) (b2 := 32008) (okX6_init e24) mqX6_init miX6_init rfl rfl mlRX4_13 dX4_init_40 ⟨by decide, by decide⟩ rfl rfl (fun _ => Nat.le_of_ble_eq_true rfl) rfl rfl ?_
  obtain ⟨a26, s25, e27, h⟩ := jR h
  refine y_putR (pc := 43) flRX4_23 dX4_init_43 rfl (Or.inr ⟨rfl, rfl, rfl⟩) a26 e27 ?_
  refine z_aload_n (pc := 46) 0 rfl dX4_init_46 rfl ?_
  obtain ⟨a29, s28, e30, h⟩ := iNO h
  refine y_new (pc := 47) (b1 := 15) (b2 := 32007) nlRX4_11 dX4_init_47 a29 rfl rfl e30 ?_
  refine z_dup (pc := 50) dX4_init_50 (fun _ => rfl) ?_
  refine z_sipush (pc := 51) (v := 601) dX4_init_51 (by decide) ?_
  obtain ⟨q31, e33, h⟩ := bnd_i h
  refine y_I (pc := 54) (M2 := mX6_init) (As := [.int 601]) (b1 := 14) (b2 := 28007) (okX6_init e33) mqX6_init miX6_init rfl rfl mlRX4_13 dX4_init_54 ⟨by decide, by decide⟩ rfl rfl (fun _ => Nat.le_of_ble_eq_true rfl) rfl rfl ?_
  obtain ⟨a35, s34, e36, h⟩ := jR h
  refine y_putR (pc := 57) flRX4_26 dX4_init_57 rfl (Or.inr ⟨rfl, rfl, rfl⟩) a35 e36 ?_
  refine z_aload_n (pc := 60) 0 rfl dX4_init_60 rfl ?_
  obtain ⟨a38, s37, e39, h⟩ := iNO h
  refine y_new (pc := 61) (b1 := 13) (b2 := 28006) nlRX4_11 dX4_init_61 a38 rfl rfl e39 ?_
  refine z_dup (pc := 64) dX4_init_64 (fun _ => rfl) ?_
  refine z_bipush (pc := 65) (v := 38) dX4_init_65 (by decide) ?_
  obtain ⟨q40, e42, h⟩ := bnd_i h
  refine y_I (pc := 67) (M2 := mX6_init) (As := [.int 38]) (b1 := 12) (b2 := 24006) (okX6_init e42) mqX6_init miX6_init rfl rfl mlRX4_13 dX4_init_67 ⟨by decide, by decide⟩ rfl rfl (fun _ => Nat.le_of_ble_eq_true rfl) rfl rfl ?_
  obtain ⟨a44, s43, e45, h⟩ := jR h
  refine y_putR (pc := 70) flRX4_29 dX4_init_70 rfl (Or.inr ⟨rfl, rfl, rfl⟩) a44 e45 ?_
  refine z_aload_n (pc := 73) 0 rfl dX4_init_73 rfl ?_
  obtain ⟨a47, s46, e48, h⟩ := iNO h
  refine y_new (pc := 74) (b1 := 11) (b2 := 24005) nlRX4_11 dX4_init_74 a47 rfl rfl e48 ?_
  refine z_dup (pc := 77) dX4_init_77 (fun _ => rfl) ?_
  refine z_sipush (pc := 78) (v := 151) dX4_init_78 (by decide) ?_
  obtain ⟨q49, e51, h⟩ := bnd_i h
  refine y_I (pc := 81) (M2 := mX6_init) (As := [.int 151]) (b1 := 10) (b2 := 20005) (okX6_init e51) mqX6_init miX6_init rfl rfl mlRX4_13 dX4_init_81 ⟨by decide, by decide⟩ rfl rfl (fun _ => Nat.le_of_ble_eq_true rfl) rfl rfl ?_
  obtain ⟨a53, s52, e54, h⟩ := jR h
  refine y_putR (pc := 84) flRX4_32 dX4_init_84 rfl (Or.inr ⟨rfl, rfl, rfl⟩) a53 e54 ?_
  refine z_aload_n (pc := 87) 0 rfl dX4_init_87 rfl ?_
  obtain ⟨a56, s55, e57, h⟩ := iNO h
  refine y_new (pc := 88) (b1 := 9) (b2 := 20004) nlRX4_11 dX4_init_88 a56 rfl rfl e57 ?_
  refine z_dup (pc := 91) dX4_init_91 (fun _ => rfl) ?_
  refine z_bipush (pc := 92) (v := 80) dX4_init_92 (by decide) ?_
  obtain ⟨q58, e60, h⟩ := bnd_i h
  refine y_I (pc := 94) (M2 := mX6_init) (As := [.int 80]) (b1 := 8) (b2 := 16004) (okX6_init e60) mqX6_init miX6_init rfl rfl mlRX4_13 dX4_init_94 ⟨by decide, by decide⟩ rfl rfl (fun _ => Nat.le_of_ble_eq_true rfl) rfl rfl ?_
  obtain ⟨a62, s61, e63, h⟩ := jR h
  refine y_putR (pc := 97) flRX4_35 dX4_init_97 rfl (Or.inr ⟨rfl, rfl, rfl⟩) a62 e63 ?_
  refine z_aload_n (pc := 100) 0 rfl dX4_init_100 rfl ?_
  obtain ⟨a65, s64, e66, h⟩ := iNO h
  refine y_new (pc := 101) (b1 := 7) (b2 := 16003) nlRX4_11 dX4_init_101 a65 rfl rfl e66 ?_
  refine z_dup (pc := 104) dX4_init_104 (fun _ => rfl) ?_
  refine z_sipush (pc := 105) (v := 150) dX4_init_105 (by decide) ?_
  obtain ⟨q67, e69, h⟩ := bnd_i h
  refine y_I (pc := 108) (M2 := mX6_init) (As := [.int 150]) (b1 := 6) (b2 := 12003) (okX6_init e69) mqX6_init miX6_init rfl rfl mlRX4_13 dX4_init_108 ⟨by decide, by decide⟩ rfl rfl (fun _ => Nat.le_of_ble_eq_true rfl) rfl rfl ?_
  obtain ⟨a71, s70, e72, h⟩ := jR h
  refine y_putR (pc := 111) flRX4_38 dX4_init_111 rfl (Or.inr ⟨rfl, rfl, rfl⟩) a71 e72 ?_
  refine z_aload_n (pc := 114) 0 rfl dX4_init_114 rfl ?_
  obtain ⟨a74, s73, e75, h⟩ := iNO h
  refine y_new (pc := 115) (b1 := 5) (b2 := 12002) nlRX4_11 dX4_init_115 a74 rfl rfl e75 ?_
  refine z_dup (pc := 118) dX4_init_118 (fun _ => rfl) ?_
  refine z_sipush (pc := 119) (v := 150) dX4_init_119 (by decide) ?_
  obtain ⟨q76, e78, h⟩ := bnd_i h
  refine y_I (pc := 122) (M2 := mX6_init) (As := [.int 150]) (b1 := 4) (b2 := 8002) (okX6_init e78) mqX6_init miX6_init rfl rfl mlRX4_13 dX4_init_122 ⟨by decide, by decide⟩ rfl rfl (fun _ => Nat.le_of_ble_eq_true rfl) rfl rfl ?_
  obtain ⟨a80, s79, e81, h⟩ := jR h
  refine y_putR (pc := 125) flRX4_41 dX4_init_125 rfl (Or.inr ⟨rfl, rfl, rfl⟩) a80 e81 ?_
  refine z_aload_n (pc := 128) 0 rfl dX4_init_128 rfl ?_
  obtain ⟨a83, s82, e84, h⟩ := iNO h
  refine y_new (pc := 129) (b1 := 3) (b2 := 8001) nlRX4_11 dX4_init_129 a83 rfl rfl e84 ?_
  refine z_dup (pc := 132) dX4_init_132 (fun _ => rfl) ?_
  refine z_sipush (pc := 133) (v := 302) dX4_init_133 (by decide) ?_
  obtain ⟨q85, e87, h⟩ := bnd_i h
  refine y_I (pc := 136) (M2 := mX6_init) (As := [.int 302]) (b1 := 2) (b2 := 4001) (okX6_init e87) mqX6_init miX6_init rfl rfl mlRX4_13 dX4_init_136 ⟨by decide, by decide⟩ rfl rfl (fun _ => Nat.le_of_ble_eq_true rfl) rfl rfl ?_
  obtain ⟨a89, s88, e90, h⟩ := jR h
  refine y_putR (pc := 139) flRX4_44 dX4_init_139 rfl (Or.inr ⟨rfl, rfl, rfl⟩) a89 e90 ?_
  refine z_aload_n (pc := 142) 0 rfl dX4_init_142 rfl ?_
  obtain ⟨a92, s91, e93, h⟩ := iNO h
  refine y_new (pc := 143) (b1 := 1) (b2 := 4000) nlRX4_11 dX4_init_143 a92 rfl rfl e93 ?_
  refine z_dup (pc := 146) dX4_init_146 (fun _ => rfl) ?_
  refine z_sipush (pc := 147) (v := 151) dX4_init_147 (by decide) ?_
  obtain ⟨q94, e96, h⟩ := bnd_i h
  refine y_I (pc := 150) (M2 := mX6_init) (As := [.int 151]) (b1 := 0) (b2 := 0) (okX6_init e96) mqX6_init miX6_init rfl rfl mlRX4_13 dX4_init_150 ⟨by decide, by decide⟩ rfl rfl (fun _ => Nat.le_of_ble_eq_true rfl) rfl rfl ?_
  obtain ⟨a98, s97, e99, h⟩ := jR h
  refine y_putR (pc := 153) flRX4_47 dX4_init_153 rfl (Or.inr ⟨rfl, rfl, rfl⟩) a98 e99 ?_
  refine z_aload_n (pc := 156) 0 rfl dX4_init_156 rfl ?_
  refine z_iconst (pc := 157) (v := 0) dX4_init_157 (by decide) ?_
  obtain ⟨a101, s100, e102, h⟩ := jI h
  refine y_putI (pc := 158) flRX4_50 dX4_init_158 rfl (Or.inl rfl) a101 e102 ?_
  refine z_aload_n (pc := 161) 0 rfl dX4_init_161 rfl ?_
  refine z_iconst (pc := 162) (v := 0) dX4_init_162 (by decide) ?_
  obtain ⟨a104, s103, e105, h⟩ := jI h
  refine y_putI (pc := 163) flRX4_54 dX4_init_163 rfl (Or.inl rfl) a104 e105 ?_
  refine z_aload_n (pc := 166) 0 rfl dX4_init_166 rfl ?_
  refine z_iconst (pc := 167) (v := 0) dX4_init_167 (by decide) ?_
  obtain ⟨a107, s106, e108, h⟩ := jI h
  refine y_putI (pc := 168) flRX4_57 dX4_init_168 rfl (Or.inl rfl) a107 e108 ?_
  refine z_aload_n (pc := 171) 0 rfl dX4_init_171 rfl ?_
  refine z_iconst (pc := 172) (v := 0) dX4_init_172 (by decide) ?_
  obtain ⟨a110, s109, e111, h⟩ := jI h
  refine y_putI (pc := 173) flRX4_60 dX4_init_173 rfl (Or.inl rfl) a110 e111 ?_
  refine z_aload_n (pc := 176) 0 rfl dX4_init_176 rfl ?_
  refine z_iconst (pc := 177) (v := 0) dX4_init_177 (by decide) ?_
  obtain ⟨a113, s112, e114, h⟩ := jI h
  refine y_putI (pc := 178) flRX4_63 dX4_init_178 rfl (Or.inl rfl) a113 e114 ?_
  refine z_aload_n (pc := 181) 0 rfl dX4_init_181 rfl ?_
  refine z_iconst (pc := 182) (v := 0) dX4_init_182 (by decide) ?_
  obtain ⟨a116, s115, e117, h⟩ := jI h
  refine y_putI (pc := 183) flRX4_66 dX4_init_183 rfl (Or.inl rfl) a116 e117 ?_
  refine z_aload_n (pc := 186) 0 rfl dX4_init_186 rfl ?_
  refine z_aload_n (pc := 187) 1 rfl dX4_init_187 rfl ?_
  obtain ⟨a119, s118, e120, h⟩ := jR h
  refine y_putR (pc := 188) flRX4_69 dX4_init_188 rfl (Or.inr ⟨rfl, rfl, rfl⟩) a119 e120 ?_
  exact y_ret (pc := 191) dX4_init_191 rfl h
def fX3_init (l0 : Nat) (l1 : Nat) (s : zS) : Option zS :=
  bnd (nO s 2) fun s1 =>
  bnd (fX2_init (zn s + 1)  s1) fun q4 =>
  bnd (wR q4 3 l0 2 (zn s + 1)) fun s7 =>
  bnd (nO s7 6) fun s10 =>
  bnd (fX6_init (zn s7 + 1) 301 s10) fun q13 =>
  bnd (wR q13 3 l0 3 (zn s7 + 1)) fun s16 =>
  bnd (wZ s16 3 l0 4 0) fun s19 =>
  bnd (wZ s19 3 l0 5 0) fun s22 =>
  bnd (wI s22 3 l0 6 (-1)) fun s25 =>
  bnd (wI s25 3 l0 7 (-1)) fun s28 =>
  bnd (wI s28 3 l0 8 (-1)) fun s31 =>
  bnd (wI s31 3 l0 9 0) fun s34 =>
  bnd (wI s34 3 l0 10 0) fun s37 =>
  bnd (wR s37 3 l0 0 l1) fun s40 =>
  bnd (nO s40 4) fun s43 =>
  bnd (fX4_init (zn s40 + 1) l1 s43) fun q46 =>
  bnd (wR q46 3 l0 1 (zn s40 + 1)) fun s49 =>
  some s49
set_option maxRecDepth 100000 in
set_option maxHeartbeats 4000000 in
theorem okX3_init {E : zE} {l0 : Nat} {l1 : Nat} {s : zS} {t : zS} (h : fX3_init l0 l1 s = some t) : Cv E mX3_init [.ref l0, .ref l1] s t := by
  refine Ct.of (ls := [(0, .ref l0), (1, .ref l1)]) (by decide) rfl (Nat.le_of_ble_eq_true rfl) ?_
  show Z E mX3_init 0 [(0, .ref l0), (1, .ref l1)] [] s (32, 60037) (zRv E mX3_init t)
  unfold fX3_init at h
  refine z_aload_n (pc := 0) 0 rfl dX3_init_0 rfl ?_
  refine z_objInit (pc := 1) mlRX3_3 ob_i ob_c dX3_init_1 (Nat.le_of_ble_eq_true rfl) (Nat.le_of_ble_eq_true rfl) zrest0 ?_
  refine z_aload_n (pc := 4) 0 rfl dX3_init_4 rfl ?_
  obtain ⟨a2, s1, e3, h⟩ := iNO h
  refine y_new (pc := 5) (b1 := 31) (b2 := 60033) nlRX3_9 dX3_init_5 a2 rfl rfl e3 ?_
  refine z_dup (pc := 8) dX3_init_8 (fun _ => rfl) ?_
  obtain ⟨q4, e6, h⟩ := bnd_i h
  refine y_IN (pc := 9) (M2 := mX2_init) (As := []) (b1 := 25) (b2 := 48030) (okX2_init e6) mqX2_init miX2_init rfl rfl neRX3_11 dX3_init_9 ⟨by decide, by decide⟩ rfl rfl (fun _ => Nat.le_of_ble_eq_true rfl) rfl rfl ?_
  obtain ⟨a8, s7, e9, h⟩ := jR h
  refine y_putR (pc := 12) flRX3_12 dX3_init_12 rfl (Or.inr ⟨rfl, rfl, rfl⟩) a8 e9 ?_
  refine z_aload_n (pc := 15) 0 rfl dX3_init_15 rfl ?_
  obtain ⟨a11, s10, e12, h⟩ := iNO h
  refine y_new (pc := 16) (b1 := 24) (b2 := 48029) nlRX3_18 dX3_init_16 a11 rfl rfl e12 ?_
  refine z_dup (pc := 19) dX3_init_19 (fun _ => rfl) ?_
  refine z_sipush (pc := 20) (v := 301) dX3_init_20 (by decide) ?_
  obtain ⟨q13, e15, h⟩ := bnd_i h
  refine y_I (pc := 23) (M2 := mX6_init) (As := [.int 301]) (b1 := 23) (b2 := 44029) (okX6_init e15) mqX6_init miX6_init rfl rfl mlRX3_20 dX3_init_23 ⟨by decide, by decide⟩ rfl rfl (fun _ => Nat.le_of_ble_eq_true rfl) rfl rfl ?_
  obtain ⟨a17, s16, e18, h⟩ := jR h
  refine y_putR (pc := 26) flRX3_23 dX3_init_26 rfl (Or.inr ⟨rfl, rfl, rfl⟩) a17 e18 ?_
  refine z_aload_n (pc := 29) 0 rfl dX3_init_29 rfl ?_
  refine z_iconst (pc := 30) (v := 0) dX3_init_30 (by decide) ?_
  obtain ⟨a20, s19, e21, h⟩ := jZ h
  refine y_putZ (pc := 31) flRX3_27 dX3_init_31 rfl (Or.inl rfl) a20 e21 ?_
  refine z_aload_n (pc := 34) 0 rfl dX3_init_34 rfl ?_
  refine z_iconst (pc := 35) (v := 0) dX3_init_35 (by decide) ?_
  obtain ⟨a23, s22, e24, h⟩ := jZ h
  refine y_putZ (pc := 36) flRX3_31 dX3_init_36 rfl (Or.inl rfl) a23 e24 ?_
  refine z_aload_n (pc := 39) 0 rfl dX3_init_39 rfl ?_
  refine z_iconst (pc := 40) (v := (-1)) dX3_init_40 (by decide) ?_
  obtain ⟨a26, s25, e27, h⟩ := jI h
  refine y_putI (pc := 41) flRX3_34 dX3_init_41 rfl (Or.inl rfl) a26 e27 ?_
  refine z_aload_n (pc := 44) 0 rfl dX3_init_44 rfl ?_
  refine z_iconst (pc := 45) (v := (-1)) dX3_init_45 (by decide) ?_
  obtain ⟨a29, s28, e30, h⟩ := jI h
  refine y_putI (pc := 46) flRX3_38 dX3_init_46 rfl (Or.inl rfl) a29 e30 ?_
  refine z_aload_n (pc := 49) 0 rfl dX3_init_49 rfl ?_
  refine z_iconst (pc := 50) (v := (-1)) dX3_init_50 (by decide) ?_
  obtain ⟨a32, s31, e33, h⟩ := jI h
  refine y_putI (pc := 51) flRX3_41 dX3_init_51 rfl (Or.inl rfl) a32 e33 ?_
  refine z_aload_n (pc := 54) 0 rfl dX3_init_54 rfl ?_
  refine z_iconst (pc := 55) (v := 0) dX3_init_55 (by decide) ?_
  obtain ⟨a35, s34, e36, h⟩ := jI h
  refine y_putI (pc := 56) flRX3_44 dX3_init_56 rfl (Or.inl rfl) a35 e36 ?_
  refine z_aload_n (pc := 59) 0 rfl dX3_init_59 rfl ?_
  refine z_iconst (pc := 60) (v := 0) dX3_init_60 (by decide) ?_
  obtain ⟨a38, s37, e39, h⟩ := jI h
  refine y_putI (pc := 61) flRX3_47 dX3_init_61 rfl (Or.inl rfl) a38 e39 ?_
  refine z_aload_n (pc := 64) 0 rfl dX3_init_64 rfl ?_
  refine z_aload_n (pc := 65) 1 rfl dX3_init_65 rfl ?_
  obtain ⟨a41, s40, e42, h⟩ := jR h
  refine y_putR (pc := 66) flRX3_50 dX3_init_66 rfl (Or.inr ⟨rfl, rfl, rfl⟩) a41 e42 ?_
  refine z_aload_n (pc := 69) 0 rfl dX3_init_69 rfl ?_
  obtain ⟨a44, s43, e45, h⟩ := iNO h
  refine y_new (pc := 70) (b1 := 22) (b2 := 44011) nlRX3_54 dX3_init_70 a44 rfl rfl e45 ?_
  refine z_dup (pc := 73) dX3_init_73 (fun _ => rfl) ?_
  refine z_aload_n (pc := 74) 1 rfl dX3_init_74 rfl ?_
  obtain ⟨q46, e48, h⟩ := bnd_i h
  refine y_I (pc := 75) (M2 := mX4_init) (As := [.ref l1]) (b1 := 0) (b2 := 0) (okX4_init e48) mqX4_init miX4_init rfl rfl mlRX3_56 dX3_init_75 ⟨by decide, by decide⟩ rfl rfl (fun _ => Nat.le_of_ble_eq_true rfl) rfl rfl ?_
  obtain ⟨a50, s49, e51, h⟩ := jR h
  refine y_putR (pc := 78) flRX3_59 dX3_init_78 rfl (Or.inr ⟨rfl, rfl, rfl⟩) a50 e51 ?_
  exact y_ret (pc := 81) dX3_init_81 rfl h
def fX4_forget (l0 : Nat) (s : zS) : Option zS :=
  bnd (wI s 4 l0 17 0) fun s1 =>
  bnd (qR s1 4 l0 2) fun x4 =>
  bnd (cl s1 6 x4 (fX6_fill x4 0 s1)) fun q7 =>
  some q7
set_option maxRecDepth 100000 in
set_option maxHeartbeats 4000000 in
theorem okX4_forget {E : zE} {l0 : Nat} {s : zS} {t : zS} (h : fX4_forget l0 s = some t) : Cv E mX4_forget [.ref l0] s t := by
  refine Ct.of (ls := [(0, .ref l0)]) (by decide) rfl (Nat.le_of_ble_eq_true rfl) ?_
  show Z E mX4_forget 0 [(0, .ref l0)] [] s (0, 0) (zRv E mX4_forget t)
  unfold fX4_forget at h
  refine z_aload_n (pc := 0) 0 rfl dX4_forget_0 rfl ?_
  refine z_iconst (pc := 1) (v := 0) dX4_forget_1 (by decide) ?_
  obtain ⟨a2, s1, e3, h⟩ := jI h
  refine y_putI (pc := 2) flRX4_66 dX4_forget_2 rfl (Or.inl rfl) a2 e3 ?_
  refine z_aload_n (pc := 5) 0 rfl dX4_forget_5 rfl ?_
  obtain ⟨a5, x4, e6, h⟩ := iR h
  refine y_getR (pc := 6) flRX4_20 dX4_forget_6 rfl a5 e6 ?_
  refine z_iconst (pc := 9) (v := 0) dX4_forget_9 (by decide) ?_
  obtain ⟨a8, q7, e9, h⟩ := iC h
  refine y_V (pc := 10) (M2 := mX6_fill) (As := [.int 0]) (okX6_fill e9) mvX6_fill mlRX4_76 dX4_forget_10 ⟨by decide, by decide⟩ rfl rfl rfl zrest0 a8 ?_
  exact y_ret (pc := 13) dX4_forget_13 rfl h
def fX3_forget (l0 : Nat) (s : zS) : Option zS :=
  bnd (qR s 3 l0 1) fun x1 =>
  bnd (cl s 4 x1 (fX4_forget x1  s)) fun q4 =>
  bnd (qR q4 3 l0 2) fun x7 =>
  bnd (cl q4 2 x7 (fX2_clear x7  q4)) fun q10 =>
  bnd (qR q10 3 l0 3) fun x13 =>
  bnd (cl q10 6 x13 (fX6_fill x13 0 q10)) fun q16 =>
  bnd (wI q16 3 l0 6 (-1)) fun s19 =>
  bnd (wI s19 3 l0 7 (-1)) fun s22 =>
  bnd (wI s22 3 l0 8 (-1)) fun s25 =>
  bnd (wI s25 3 l0 9 0) fun s28 =>
  bnd (wI s28 3 l0 10 0) fun s31 =>
  some s31
set_option maxRecDepth 100000 in
set_option maxHeartbeats 4000000 in
theorem okX3_forget {E : zE} {l0 : Nat} {s : zS} {t : zS} (h : fX3_forget l0 s = some t) : Cv E mX3_forget [.ref l0] s t := by
  refine Ct.of (ls := [(0, .ref l0)]) (by decide) rfl (Nat.le_of_ble_eq_true rfl) ?_
  show Z E mX3_forget 0 [(0, .ref l0)] [] s (0, 0) (zRv E mX3_forget t)
  unfold fX3_forget at h
  refine z_aload_n (pc := 0) 0 rfl dX3_forget_0 rfl ?_
  obtain ⟨a2, x1, e3, h⟩ := iR h
  refine y_getR (pc := 1) flRX3_59 dX3_forget_1 rfl a2 e3 ?_
  obtain ⟨a5, q4, e6, h⟩ := iC h
  refine y_V (pc := 4) (M2 := mX4_forget) (As := []) (okX4_forget e6) mvX4_forget mlRX3_63 dX3_forget_4 ⟨by decide, by decide⟩ rfl rfl rfl zrest0 a5 ?_
  refine z_aload_n (pc := 7) 0 rfl dX3_forget_7 rfl ?_
  obtain ⟨a8, x7, e9, h⟩ := iR h
  refine y_getR (pc := 8) flRX3_12 dX3_forget_8 rfl a8 e9 ?_
  obtain ⟨a11, q10, e12, h⟩ := iC h
  refine y_V (pc := 11) (M2 := mX2_clear) (As := []) (okX2_clear e12) mvX2_clear mlRX3_66 dX3_forget_11 ⟨by decide, by decide⟩ rfl rfl rfl zrest0 a11 ?_
  refine z_aload_n (pc := 14) 0 rfl dX3_forget_14 rfl ?_
  obtain ⟨a14, x13, e15, h⟩ := iR h
  refine y_getR (pc := 15) flRX3_23 dX3_forget_15 rfl a14 e15 ?_
  refine z_iconst (pc := 18) (v := 0) dX3_forget_18 (by decide) ?_
  obtain ⟨a17, q16, e18, h⟩ := iC h
  refine y_V (pc := 19) (M2 := mX6_fill) (As := [.int 0]) (okX6_fill e18) mvX6_fill mlRX3_69 dX3_forget_19 ⟨by decide, by decide⟩ rfl rfl rfl zrest0 a17 ?_
  refine z_aload_n (pc := 22) 0 rfl dX3_forget_22 rfl ?_
  refine z_iconst (pc := 23) (v := (-1)) dX3_forget_23 (by decide) ?_
  obtain ⟨a20, s19, e21, h⟩ := jI h
  refine y_putI (pc := 24) flRX3_34 dX3_forget_24 rfl (Or.inl rfl) a20 e21 ?_
  refine z_aload_n (pc := 27) 0 rfl dX3_forget_27 rfl ?_
  refine z_iconst (pc := 28) (v := (-1)) dX3_forget_28 (by decide) ?_
  obtain ⟨a23, s22, e24, h⟩ := jI h
  refine y_putI (pc := 29) flRX3_38 dX3_forget_29 rfl (Or.inl rfl) a23 e24 ?_
  refine z_aload_n (pc := 32) 0 rfl dX3_forget_32 rfl ?_
  refine z_iconst (pc := 33) (v := (-1)) dX3_forget_33 (by decide) ?_
  obtain ⟨a26, s25, e27, h⟩ := jI h
  refine y_putI (pc := 34) flRX3_41 dX3_forget_34 rfl (Or.inl rfl) a26 e27 ?_
  refine z_aload_n (pc := 37) 0 rfl dX3_forget_37 rfl ?_
  refine z_iconst (pc := 38) (v := 0) dX3_forget_38 (by decide) ?_
  obtain ⟨a29, s28, e30, h⟩ := jI h
  refine y_putI (pc := 39) flRX3_44 dX3_forget_39 rfl (Or.inl rfl) a29 e30 ?_
  refine z_aload_n (pc := 42) 0 rfl dX3_forget_42 rfl ?_
  refine z_iconst (pc := 43) (v := 0) dX3_forget_43 (by decide) ?_
  obtain ⟨a32, s31, e33, h⟩ := jI h
  refine y_putI (pc := 44) flRX3_47 dX3_forget_44 rfl (Or.inl rfl) a32 e33 ?_
  exact y_ret (pc := 47) dX3_forget_47 rfl h
