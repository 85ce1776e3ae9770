def fX4_setActive_14  (t0 : Int32) (t1 : Int32) (t2 : Nat) (s : zS) : Option zS :=
  bnd (cl s 6 t2 (fX6_put t2 t1 t0 s)) fun q4 =>
  some q4
set_option maxRecDepth 100000 in
set_option maxHeartbeats 4000000 in
theorem bX4_setActive_14 {E : zE}   {t0 : Int32} {t1 : Int32} {t2 : Nat} {s : zS} {q : zS} (h : fX4_setActive_14  t0 t1 t2 s = some q) : Z E mX4_setActive 14 [] [.int t0, .int t1, .ref t2] s (0, 0) (zRv E mX4_setActive q) := by
  unfold fX4_setActive_14 at h
  obtain ⟨a5, q4, e6, h⟩ := iC h
  refine y_V (pc := 14) (M2 := mX6_put) (As := [.int t1, .int t0]) (okX6_put e6) mvX6_put mlRX4_88 dX4_setActive_14 ⟨by decide, by decide⟩ rfl rfl rfl zrest0 a5 ?_
  exact y_ret (pc := 17) dX4_setActive_17 rfl h
def fX4_setActive (l0 : Nat) (l1 : Int32) (l2 : Int32) (s : zS) : Option zS :=
  bnd (qR s 4 l0 1) fun x1 =>
  if l2 = 0 then
    fX4_setActive_14  0 l1 x1 s
  else
    fX4_setActive_14  1 l1 x1 s
set_option maxRecDepth 100000 in
set_option maxHeartbeats 4000000 in
theorem okX4_setActive {E : zE} {l0 : Nat} {l1 : Int32} {l2 : Int32} {s : zS} {t : zS} (h : fX4_setActive l0 l1 l2 s = some t) : Cv E mX4_setActive [.ref l0, .int l1, .int l2] s t := by
  refine Ct.of (ls := [(0, .ref l0), (1, .int l1), (2, .int l2)]) (by decide) rfl (Nat.le_of_ble_eq_true rfl) ?_
  show Z E mX4_setActive 0 [(0, .ref l0), (1, .int l1), (2, .int l2)] [] s (0, 0) (zRv E mX4_setActive t)
  unfold fX4_setActive at h
  refine z_aload_n (pc := 0) 0 rfl dX4_setActive_0 rfl ?_
  obtain ⟨a2, x1, e3, h⟩ := iR h
  refine y_getR (pc := 1) flRX4_16 dX4_setActive_1 rfl a2 e3 ?_
  refine z_iload_n (pc := 4) 1 rfl dX4_setActive_4 rfl ?_
  refine z_iload_n (pc := 5) 2 rfl dX4_setActive_5 rfl ?_
  refine z_if_eq (pc := 6) (tgt := 13) dX4_setActive_6 (by decide) (fun hc => ?_) (fun hc => ?_)
  · replace h := ifp hc h
    refine z_iconst (pc := 13) (v := 0) dX4_setActive_13 (by decide) ?_
    exact z_sub [] rfl (bX4_setActive_14  h)
  · replace h := ifn hc h
    refine z_iconst (pc := 9) (v := 1) dX4_setActive_9 (by decide) ?_
    refine z_goto (pc := 10) (tgt := 14) dX4_setActive_10 (by decide) ?_
    exact z_sub [] rfl (bX4_setActive_14  h)
def fX3_remove_73 (k8 : Nat → Int32 → Int32 → zS → Option zS) (l0 : Nat) (l1 : Int32) (l2 : Int32) (s : zS) : Option zS :=
  k8 l0 l1 (l2 + (-1)) s
set_option maxRecDepth 100000 in
set_option maxHeartbeats 4000000 in
theorem bX3_remove_73 {E : zE} {k8 : Nat → Int32 → Int32 → zS → Option zS} (hk8 : ∀ {l0 : Nat} {l1 : Int32} {l2 : Int32} {s : zS} {q : zS}, k8 l0 l1 l2 s = some q → Z E mX3_remove 8 [(0, .ref l0), (1, .int l1), (2, .int l2)] [] s (0, 0) (zRv E mX3_remove q)) {l0 : Nat} {l1 : Int32} {l2 : Int32} {s : zS} {q : zS} (h : fX3_remove_73 k8 l0 l1 l2 s = some q) : Z E mX3_remove 73 [(0, .ref l0), (1, .int l1), (2, .int l2)] [] s (0, 0) (zRv E mX3_remove q) := by
  unfold fX3_remove_73 at h
  refine z_iinc (pc := 73) (v := (l2 + (-1))) (ls' := [(2, .int (l2 + (-1))), (0, .ref l0), (1, .int l1)]) 2 rfl (congrArg (fun z : Int32 => l2 + z) (show Int32.ofInt (-1) = -1 by decide)) dX3_remove_73 (by decide) (fun _ => rfl) ?_
  refine z_goto (pc := 76) (tgt := 8) dX3_remove_76 (by decide) ?_
  exact z_sub [1, 2, 0] rfl (hk8 h)
def fX3_remove_54  (l0 : Nat) (l1 : Int32) (l2 : Int32) (s : zS) : Option zS :=
  bnd (qR s 3 l0 1) fun x22 =>
  bnd (cl s 4 x22 (fX4_setActive x22 l2 0 s)) fun q25 =>
  bnd (qR q25 3 l0 3) fun x28 =>
  bnd (cl q25 6 x28 (fX6_put x28 l1 l2 q25)) fun q31 =>
  some q31
set_option maxRecDepth 100000 in
set_option maxHeartbeats 4000000 in
theorem bX3_remove_54 {E : zE}   {l0 : Nat} {l1 : Int32} {l2 : Int32} {s : zS} {q : zS} (h : fX3_remove_54  l0 l1 l2 s = some q) : Z E mX3_remove 54 [(0, .ref l0), (1, .int l1), (2, .int l2)] [] s (0, 0) (zRv E mX3_remove q) := by
  unfold fX3_remove_54 at h
  refine z_aload_n (pc := 54) 0 rfl dX3_remove_54 rfl ?_
  obtain ⟨a23, x22, e24, h⟩ := iR h
  refine y_getR (pc := 55) flRX3_59 dX3_remove_55 rfl a23 e24 ?_
  refine z_iload_n (pc := 58) 2 rfl dX3_remove_58 rfl ?_
  refine z_iconst (pc := 59) (v := 0) dX3_remove_59 (by decide) ?_
  obtain ⟨a26, q25, e27, h⟩ := iC h
  refine y_V (pc := 60) (M2 := mX4_setActive) (As := [.int l2, .int 0]) (okX4_setActive e27) mvX4_setActive mlRX3_96 dX3_remove_60 ⟨by decide, by decide⟩ rfl rfl rfl zrest0 a26 ?_
  refine z_aload_n (pc := 63) 0 rfl dX3_remove_63 rfl ?_
  obtain ⟨a29, x28, e30, h⟩ := iR h
  refine y_getR (pc := 64) flRX3_23 dX3_remove_64 rfl a29 e30 ?_
  refine z_iload_n (pc := 67) 1 rfl dX3_remove_67 rfl ?_
  refine z_iload_n (pc := 68) 2 rfl dX3_remove_68 rfl ?_
  obtain ⟨a32, q31, e33, h⟩ := iC h
  refine y_V (pc := 69) (M2 := mX6_put) (As := [.int l1, .int l2]) (okX6_put e33) mvX6_put mlRX3_184 dX3_remove_69 ⟨by decide, by decide⟩ rfl rfl rfl zrest0 a32 ?_
  exact y_ret (pc := 72) dX3_remove_72 rfl h
def fX3_remove_8  (n : Nat) : Nat → Int32 → Int32 → zS → Option zS := match n with
  | 0 => fun _ _ _ _ => none
  | n + 1 => fun l0 l1 l2 s =>
    if l2 < 1 then
      some s
    else
      bnd (qR s 3 l0 1) fun x7 =>
      bnd (cl s 4 x7 (fX4_isActive x7 l2 s)) fun q10 =>
      if q10.1 = 0 then
        fX3_remove_73 ((fX3_remove_8  n)) l0 l1 l2 q10.2
      else
        bnd (qR q10.2 3 l0 0) fun x13 =>
        bnd (cl q10.2 1 x13 (fX1_isAsStep x13 l2 l1 q10.2)) fun q16 =>
        if q16.1 = 0 then
          fX3_remove_73 ((fX3_remove_8  n)) l0 l1 l2 q16.2
        else
          bnd (qI q16.2 3 l0 5) fun x19 =>
          if x19 = 0 then
            fX3_remove_54  l0 l1 l2 q16.2
          else
            bnd (qR q16.2 3 l0 1) fun x22 =>
            bnd (cl q16.2 4 x22 (fX4_isReason x22 l2 q16.2)) fun q25 =>
            if q25.1 = 0 then
              fX3_remove_54  l0 l1 l2 q25.2
            else
              some q25.2
set_option maxRecDepth 100000 in
set_option maxHeartbeats 4000000 in
theorem bX3_remove_8 {E : zE}  : ∀ (n : Nat) {l0 : Nat} {l1 : Int32} {l2 : Int32} {s : zS} {q : zS}, fX3_remove_8  n l0 l1 l2 s = some q → Z E mX3_remove 8 [(0, .ref l0), (1, .int l1), (2, .int l2)] [] s (0, 0) (zRv E mX3_remove q) := by
  intro n
  induction n with
  | zero => intro l0 l1 l2 s q h; cases h
  | succ n ih =>
    intro l0 l1 l2 s q h
    unfold fX3_remove_8 at h
    refine z_iload_n (pc := 8) 2 rfl dX3_remove_8 rfl ?_
    refine z_iconst (pc := 9) (v := 1) dX3_remove_9 (by decide) ?_
    refine z_icmp_lt (pc := 10) (tgt := 79) dX3_remove_10 (by decide) (fun hc => ?_) (fun hc => ?_)
    · replace h := ifp hc h
      exact y_ret (pc := 79) dX3_remove_79 rfl h
    · replace h := ifn hc h
      refine z_aload_n (pc := 13) 0 rfl dX3_remove_13 rfl ?_
      obtain ⟨a8, x7, e9, h⟩ := iR h
      refine y_getR (pc := 14) flRX3_59 dX3_remove_14 rfl a8 e9 ?_
      refine z_iload_n (pc := 17) 2 rfl dX3_remove_17 rfl ?_
      obtain ⟨a11, q10, e12, h⟩ := iC h
      refine y_Vi (pc := 18) (M2 := mX4_isActive) (As := [.int l2]) (okX4_isActive e12) mvX4_isActive mlRX3_160 dX3_remove_18 ⟨by decide, by decide⟩ rfl rfl rfl zrest0 a11 ?_
      refine z_if_eq (pc := 21) (tgt := 73) dX3_remove_21 (by decide) (fun hc => ?_) (fun hc => ?_)
      · replace h := ifp hc h
        exact z_sub [0, 1, 2] rfl (bX3_remove_73 (fun h => ih h) h)
      · replace h := ifn hc h
        refine z_aload_n (pc := 24) 0 rfl dX3_remove_24 rfl ?_
        obtain ⟨a14, x13, e15, h⟩ := iR h
        refine y_getR (pc := 25) flRX3_50 dX3_remove_25 rfl a14 e15 ?_
        refine z_iload_n (pc := 28) 2 rfl dX3_remove_28 rfl ?_
        refine z_iload_n (pc := 29) 1 rfl dX3_remove_29 rfl ?_
        obtain ⟨a17, q16, e18, h⟩ := iC h
        refine y_Vi (pc := 30) (M2 := mX1_isAsStep) (As := [.int l2, .int l1]) (okX1_isAsStep e18) mvX1_isAsStep mlRX3_178 dX3_remove_30 ⟨by decide, by decide⟩ rfl rfl rfl zrest0 a17 ?_
        refine z_if_eq (pc := 33) (tgt := 73) dX3_remove_33 (by decide) (fun hc => ?_) (fun hc => ?_)
        · replace h := ifp hc h
          exact z_sub [0, 1, 2] rfl (bX3_remove_73 (fun h => ih h) h)
        · replace h := ifn hc h
          refine z_aload_n (pc := 36) 0 rfl dX3_remove_36 rfl ?_
          obtain ⟨a20, x19, e21, h⟩ := iI h
          refine y_getI (pc := 37) flRX3_31 dX3_remove_37 rfl a20 e21 ?_
          refine z_if_eq (pc := 40) (tgt := 54) dX3_remove_40 (by decide) (fun hc => ?_) (fun hc => ?_)
          · replace h := ifp hc h
            exact z_sub [0, 1, 2] rfl (bX3_remove_54  h)
          · replace h := ifn hc h
            refine z_aload_n (pc := 43) 0 rfl dX3_remove_43 rfl ?_
            obtain ⟨a23, x22, e24, h⟩ := iR h
            refine y_getR (pc := 44) flRX3_59 dX3_remove_44 rfl a23 e24 ?_
            refine z_iload_n (pc := 47) 2 rfl dX3_remove_47 rfl ?_
            obtain ⟨a26, q25, e27, h⟩ := iC h
            refine y_Vi (pc := 48) (M2 := mX4_isReason) (As := [.int l2]) (okX4_isReason e27) mvX4_isReason mlRX3_181 dX3_remove_48 ⟨by decide, by decide⟩ rfl rfl rfl zrest0 a26 ?_
            refine z_if_ne (pc := 51) (tgt := 72) dX3_remove_51 (by decide) (fun hc => ?_) (fun hc => ?_)
            · replace h := ifn hc h
              exact y_ret (pc := 72) dX3_remove_72 rfl h
            · replace h := ifp hc h
              exact z_sub [0, 1, 2] rfl (bX3_remove_54  h)
def fX3_remove (l0 : Nat) (l1 : Int32) (s : zS) : Option zS :=
  bnd (qR s 3 l0 0) fun x1 =>
  bnd (cl s 1 x1 (fX1_inAll x1  s)) fun q4 =>
  fX3_remove_8  zfu l0 l1 q4.1 q4.2
set_option maxRecDepth 100000 in
set_option maxHeartbeats 4000000 in
theorem okX3_remove {E : zE} {l0 : Nat} {l1 : Int32} {s : zS} {t : zS} (h : fX3_remove l0 l1 s = some t) : Cv E mX3_remove [.ref l0, .int l1] s t := by
  refine Ct.of (ls := [(0, .ref l0), (1, .int l1)]) (by decide) rfl (Nat.le_of_ble_eq_true rfl) ?_
  show Z E mX3_remove 0 [(0, .ref l0), (1, .int l1)] [] s (0, 0) (zRv E mX3_remove t)
  unfold fX3_remove at h
  refine z_aload_n (pc := 0) 0 rfl dX3_remove_0 rfl ?_
  obtain ⟨a2, x1, e3, h⟩ := iR h
  refine y_getR (pc := 1) flRX3_50 dX3_remove_1 rfl a2 e3 ?_
  obtain ⟨a5, q4, e6, h⟩ := iC h
  refine y_Vi (pc := 4) (M2 := mX1_inAll) (As := []) (okX1_inAll e6) mvX1_inAll mlRX3_175 dX3_remove_4 ⟨by decide, by decide⟩ rfl rfl rfl zrest0 a5 ?_
  refine z_istore_n (pc := 7) (ls' := [(2, .int q4.1), (0, .ref l0), (1, .int l1)]) dX3_remove_7 rfl (by decide) (fun _ => rfl) ?_
  exact z_sub [1, 2, 0] rfl (bX3_remove_8  _ h)
def fX3_goForwards_94  (l0 : Nat) (s : zS) : Option zS :=
  bnd (qI s 3 l0 6) fun x10 =>
  if x10 = (-1) then
    bnd (wI s 3 l0 6 1) fun s13 =>
    some s13
  else
    some s
set_option maxRecDepth 100000 in
set_option maxHeartbeats 4000000 in
theorem bX3_goForwards_94 {E : zE}   {l0 : Nat} {s : zS} {q : zS} (h : fX3_goForwards_94  l0 s = some q) : Z E mX3_goForwards 94 [(0, .ref l0)] [] s (0, 0) (zRv E mX3_goForwards q) := by
  unfold fX3_goForwards_94 at h
  refine z_aload_n (pc := 94) 0 rfl dX3_goForwards_94 rfl ?_
  obtain ⟨a11, x10, e12, h⟩ := iI h
  refine y_getI (pc := 95) flRX3_34 dX3_goForwards_95 rfl a11 e12 ?_
  refine z_iconst (pc := 98) (v := (-1)) dX3_goForwards_98 (by decide) ?_
  refine z_icmp_ne (pc := 99) (tgt := 107) dX3_goForwards_99 (by decide) (fun hc => ?_) (fun hc => ?_)
  · replace h := ifn hc h
    exact y_ret (pc := 107) dX3_goForwards_107 rfl h
  · replace h := ifp hc h
    refine z_aload_n (pc := 102) 0 rfl dX3_goForwards_102 rfl ?_
    refine z_iconst (pc := 103) (v := 1) dX3_goForwards_103 (by decide) ?_
    obtain ⟨a14, s13, e15, h⟩ := jI h
    refine y_putI (pc := 104) flRX3_34 dX3_goForwards_104 rfl (Or.inl rfl) a14 e15 ?_
    exact y_ret (pc := 107) dX3_goForwards_107 rfl h
def fX3_goForwards_88 (k15 : Nat → Int32 → Int32 → Int32 → zS → Option zS) (l0 : Nat) (l1 : Int32) (l2 : Int32) (l3 : Int32) (s : zS) : Option zS :=
  k15 l0 l1 l2 (l3 + 1) s
set_option maxRecDepth 100000 in
set_option maxHeartbeats 4000000 in
theorem bX3_goForwards_88 {E : zE} {k15 : Nat → Int32 → Int32 → Int32 → zS → Option zS} (hk15 : ∀ {l0 : Nat} {l1 : Int32} {l2 : Int32} {l3 : Int32} {s : zS} {q : zS}, k15 l0 l1 l2 l3 s = some q → Z E mX3_goForwards 15 [(0, .ref l0), (1, .int l1), (2, .int l2), (3, .int l3)] [] s (0, 0) (zRv E mX3_goForwards q)) {l0 : Nat} {l1 : Int32} {l2 : Int32} {l3 : Int32} {s : zS} {q : zS} (h : fX3_goForwards_88 k15 l0 l1 l2 l3 s = some q) : Z E mX3_goForwards 88 [(0, .ref l0), (1, .int l1), (2, .int l2), (3, .int l3)] [] s (0, 0) (zRv E mX3_goForwards q) := by
  unfold fX3_goForwards_88 at h
  refine z_iinc (pc := 88) (v := (l3 + 1)) (ls' := [(3, .int (l3 + 1)), (0, .ref l0), (1, .int l1), (2, .int l2)]) 3 rfl rfl dX3_goForwards_88 (by decide) (fun _ => rfl) ?_
  refine z_goto (pc := 91) (tgt := 15) dX3_goForwards_91 (by decide) ?_
  exact z_sub [1, 2, 3, 0] rfl (hk15 h)
def fX3_goForwards_75 (k15 : Nat → Int32 → Int32 → Int32 → zS → Option zS) (l0 : Nat) (l1 : Int32) (l2 : Int32) (l3 : Int32) (s : zS) : Option zS :=
  bnd (qI s 3 l0 6) fun x25 =>
  if x25 = (-1) then
    bnd (cl s 3 l0 (fX3_lookFromNothing l0 l3 s)) fun q28 =>
    fX3_goForwards_88 (k15) l0 l1 l2 l3 q28
  else
    fX3_goForwards_88 (k15) l0 l1 l2 l3 s
set_option maxRecDepth 100000 in
set_option maxHeartbeats 4000000 in
theorem bX3_goForwards_75 {E : zE} {k15 : Nat → Int32 → Int32 → Int32 → zS → Option zS} (hk15 : ∀ {l0 : Nat} {l1 : Int32} {l2 : Int32} {l3 : Int32} {s : zS} {q : zS}, k15 l0 l1 l2 l3 s = some q → Z E mX3_goForwards 15 [(0, .ref l0), (1, .int l1), (2, .int l2), (3, .int l3)] [] s (0, 0) (zRv E mX3_goForwards q)) {l0 : Nat} {l1 : Int32} {l2 : Int32} {l3 : Int32} {s : zS} {q : zS} (h : fX3_goForwards_75 k15 l0 l1 l2 l3 s = some q) : Z E mX3_goForwards 75 [(0, .ref l0), (1, .int l1), (2, .int l2), (3, .int l3)] [] s (0, 0) (zRv E mX3_goForwards q) := by
  unfold fX3_goForwards_75 at h
  refine z_aload_n (pc := 75) 0 rfl dX3_goForwards_75 rfl ?_
  obtain ⟨a26, x25, e27, h⟩ := iI h
  refine y_getI (pc := 76) flRX3_34 dX3_goForwards_76 rfl a26 e27 ?_
  refine z_iconst (pc := 79) (v := (-1)) dX3_goForwards_79 (by decide) ?_
  refine z_icmp_ne (pc := 80) (tgt := 88) dX3_goForwards_80 (by decide) (fun hc => ?_) (fun hc => ?_)
  · replace h := ifn hc h
    exact z_sub [0, 1, 2, 3] rfl (bX3_goForwards_88 (fun h => hk15 h) h)
  · replace h := ifp hc h
    refine z_aload_n (pc := 83) 0 rfl dX3_goForwards_83 rfl ?_
    refine z_iload_n (pc := 84) 3 rfl dX3_goForwards_84 rfl ?_
    obtain ⟨a29, q28, e30, h⟩ := iC h
    refine y_V (pc := 85) (M2 := mX3_lookFromNothing) (As := [.int l3]) (okX3_lookFromNothing e30) mvX3_lookFromNothing mlRX3_76 dX3_goForwards_85 ⟨by decide, by decide⟩ rfl rfl rfl zrest0 a29 ?_
    exact z_sub [0, 1, 2, 3] rfl (bX3_goForwards_88 (fun h => hk15 h) h)
def fX3_goForwards_65 (k15 : Nat → Int32 → Int32 → Int32 → zS → Option zS) (l0 : Nat) (l1 : Int32) (l2 : Int32) (l3 : Int32) (l4 : Int32) (s : zS) : Option zS :=
  bnd (qR s 3 l0 1) fun x19 =>
  bnd (cl s 4 x19 (fX4_setActive x19 l4 1 s)) fun q22 =>
  fX3_goForwards_75 (k15) l0 l1 l2 l3 q22
set_option maxRecDepth 100000 in
set_option maxHeartbeats 4000000 in
theorem bX3_goForwards_65 {E : zE} {k15 : Nat → Int32 → Int32 → Int32 → zS → Option zS} (hk15 : ∀ {l0 : Nat} {l1 : Int32} {l2 : Int32} {l3 : Int32} {s : zS} {q : zS}, k15 l0 l1 l2 l3 s = some q → Z E mX3_goForwards 15 [(0, .ref l0), (1, .int l1), (2, .int l2), (3, .int l3)] [] s (0, 0) (zRv E mX3_goForwards q)) {l0 : Nat} {l1 : Int32} {l2 : Int32} {l3 : Int32} {l4 : Int32} {s : zS} {q : zS} (h : fX3_goForwards_65 k15 l0 l1 l2 l3 l4 s = some q) : Z E mX3_goForwards 65 [(0, .ref l0), (1, .int l1), (2, .int l2), (3, .int l3), (4, .int l4)] [] s (0, 0) (zRv E mX3_goForwards q) := by
  unfold fX3_goForwards_65 at h
  refine z_aload_n (pc := 65) 0 rfl dX3_goForwards_65 rfl ?_
  obtain ⟨a20, x19, e21, h⟩ := iR h
  refine y_getR (pc := 66) flRX3_59 dX3_goForwards_66 rfl a20 e21 ?_
  refine z_iload (pc := 69) 4 rfl dX3_goForwards_69 ?_
  refine z_iconst (pc := 71) (v := 1) dX3_goForwards_71 (by decide) ?_
  obtain ⟨a23, q22, e24, h⟩ := iC h
  refine y_V (pc := 72) (M2 := mX4_setActive) (As := [.int l4, .int 1]) (okX4_setActive e24) mvX4_setActive mlRX3_96 dX3_goForwards_72 ⟨by decide, by decide⟩ rfl rfl rfl zrest0 a23 ?_
  exact z_sub [0, 1, 2, 3] rfl (bX3_goForwards_75 (fun h => hk15 h) h)
def fX3_goForwards_15  (n : Nat) : Nat → Int32 → Int32 → Int32 → zS → Option zS := match n with
  | 0 => fun _ _ _ _ _ => none
  | n + 1 => fun l0 l1 l2 l3 s =>
    if l2 < l3 then
      fX3_goForwards_94  l0 s
    else
      bnd (qI s 3 l0 6) fun x10 =>
      if x10 = (-1) then
        bnd (qR s 3 l0 0) fun x13 =>
        bnd (cl s 1 x13 (fX1_numberOfStep x13 l3 s)) fun q16 =>
        if q16.1 = 0 then
          bnd (cl q16.2 3 l0 (fX3_remove l0 l3 q16.2)) fun q22 =>
          fX3_goForwards_75 ((fX3_goForwards_15  n)) l0 l1 l2 l3 q22
        else
          if l1 = 0 then
            fX3_goForwards_65 ((fX3_goForwards_15  n)) l0 l1 l2 l3 q16.1 q16.2
          else
            bnd (cl q16.2 3 l0 (fX3_holds l0 l3 q16.1 q16.2)) fun q19 =>
            if q19.1 = 0 then
              fX3_goForwards_75 ((fX3_goForwards_15  n)) l0 l1 l2 l3 q19.2
            else
              fX3_goForwards_65 ((fX3_goForwards_15  n)) l0 l1 l2 l3 q16.1 q19.2
      else
        fX3_goForwards_94  l0 s
set_option maxRecDepth 100000 in
set_option maxHeartbeats 4000000 in
theorem bX3_goForwards_15 {E : zE}  : ∀ (n : Nat) {l0 : Nat} {l1 : Int32} {l2 : Int32} {l3 : Int32} {s : zS} {q : zS}, fX3_goForwards_15  n l0 l1 l2 l3 s = some q → Z E mX3_goForwards 15 [(0, .ref l0), (1, .int l1), (2, .int l2), (3, .int l3)] [] s (0, 0) (zRv E mX3_goForwards q) := by
  intro n
  induction n with
  | zero => intro l0 l1 l2 l3 s q h; cases h
  | succ n ih =>
    intro l0 l1 l2 l3 s q h
    unfold fX3_goForwards_15 at h
    refine z_iload_n (pc := 15) 3 rfl dX3_goForwards_15 rfl ?_
    refine z_iload_n (pc := 16) 2 rfl dX3_goForwards_16 rfl ?_
    refine z_icmp_gt (pc := 17) (tgt := 94) dX3_goForwards_17 (by decide) (fun hc => ?_) (fun hc => ?_)
    · replace h := ifp hc h
      exact z_sub [0] rfl (bX3_goForwards_94  h)
    · replace h := ifn hc h
      refine z_aload_n (pc := 20) 0 rfl dX3_goForwards_20 rfl ?_
      obtain ⟨a11, x10, e12, h⟩ := iI h
      refine y_getI (pc := 21) flRX3_34 dX3_goForwards_21 rfl a11 e12 ?_
      refine z_iconst (pc := 24) (v := (-1)) dX3_goForwards_24 (by decide) ?_
      refine z_icmp_ne (pc := 25) (tgt := 94) dX3_goForwards_25 (by decide) (fun hc => ?_) (fun hc => ?_)
      · replace h := ifn hc h
        exact z_sub [0] rfl (bX3_goForwards_94  h)
      · replace h := ifp hc h
        refine z_aload_n (pc := 28) 0 rfl dX3_goForwards_28 rfl ?_
        obtain ⟨a14, x13, e15, h⟩ := iR h
        refine y_getR (pc := 29) flRX3_50 dX3_goForwards_29 rfl a14 e15 ?_
        refine z_iload_n (pc := 32) 3 rfl dX3_goForwards_32 rfl ?_
        obtain ⟨a17, q16, e18, h⟩ := iC h
        refine y_Vi (pc := 33) (M2 := mX1_numberOfStep) (As := [.int l3]) (okX1_numberOfStep e18) mvX1_numberOfStep mlRX3_85 dX3_goForwards_33 ⟨by decide, by decide⟩ rfl rfl rfl zrest0 a17 ?_
        refine z_istore (pc := 36) (ls' := [(4, .int q16.1), (0, .ref l0), (1, .int l1), (2, .int l2), (3, .int l3)]) dX3_goForwards_36 (by decide) (fun _ => rfl) ?_
        refine z_iload (pc := 38) 0 rfl dX3_goForwards_38 ?_
        refine z_if_ne (pc := 40) (tgt := 51) dX3_goForwards_40 (by decide) (fun hc => ?_) (fun hc => ?_)
        · replace h := ifn hc h
          refine z_iload_n (pc := 51) 2 rfl dX3_goForwards_51 rfl ?_
          refine z_if_eq (pc := 52) (tgt := 65) dX3_goForwards_52 (by decide) (fun hc => ?_) (fun hc => ?_)
          · replace h := ifp hc h
            exact z_sub [1, 2, 3, 4, 0] rfl (bX3_goForwards_65 (fun h => ih h) h)
          · replace h := ifn hc h
            refine z_aload_n (pc := 55) 1 rfl dX3_goForwards_55 rfl ?_
            refine z_iload_n (pc := 56) 4 rfl dX3_goForwards_56 rfl ?_
            refine z_iload (pc := 57) 0 rfl dX3_goForwards_57 ?_
            obtain ⟨a20, q19, e21, h⟩ := iC h
            refine y_Vi (pc := 59) (M2 := mX3_holds) (As := [.int l3, .int q16.1]) (okX3_holds e21) mvX3_holds mlRX3_92 dX3_goForwards_59 ⟨by decide, by decide⟩ rfl rfl rfl zrest0 a20 ?_
            refine z_if_eq (pc := 62) (tgt := 75) dX3_goForwards_62 (by decide) (fun hc => ?_) (fun hc => ?_)
            · replace h := ifp hc h
              exact z_sub [1, 2, 3, 4] rfl (bX3_goForwards_75 (fun h => ih h) h)
            · replace h := ifn hc h
              exact z_sub [1, 2, 3, 4, 0] rfl (bX3_goForwards_65 (fun h => ih h) h)
        · replace h := ifp hc h
          refine z_aload_n (pc := 43) 1 rfl dX3_goForwards_43 rfl ?_
          refine z_iload_n (pc := 44) 4 rfl dX3_goForwards_44 rfl ?_
          obtain ⟨a23, q22, e24, h⟩ := iC h
          refine y_V (pc := 45) (M2 := mX3_remove) (As := [.int l3]) (okX3_remove e24) mvX3_remove mlRX3_89 dX3_goForwards_45 ⟨by decide, by decide⟩ rfl rfl rfl zrest0 a23 ?_
          refine z_goto (pc := 48) (tgt := 75) dX3_goForwards_48 (by decide) ?_
          exact z_sub [1, 2, 3, 4] rfl (bX3_goForwards_75 (fun h => ih h) h)
def fX3_goForwards (l0 : Nat) (l1 : Int32) (s : zS) : Option zS :=
  bnd (cl s 3 l0 (fX3_lookFromNothing l0 0 s)) fun q1 =>
  bnd (qR q1 3 l0 0) fun x4 =>
  bnd (cl q1 1 x4 (fX1_steps x4  q1)) fun q7 =>
  fX3_goForwards_15  zfu l0 l1 q7.1 1 q7.2
set_option maxRecDepth 100000 in
set_option maxHeartbeats 4000000 in
theorem okX3_goForwards {E : zE} {l0 : Nat} {l1 : Int32} {s : zS} {t : zS} (h : fX3_goForwards l0 l1 s = some t) : Cv E mX3_goForwards [.ref l0, .int l1] s t := by
  refine Ct.of (ls := [(0, .ref l0), (1, .int l1)]) (by decide) rfl (Nat.le_of_ble_eq_true rfl) ?_
  show Z E mX3_goForwards 0 [(0, .ref l0), (1, .int l1)] [] s (0, 0) (zRv E mX3_goForwards t)
  unfold fX3_goForwards at h
  refine z_aload_n (pc := 0) 0 rfl dX3_goForwards_0 rfl ?_
  refine z_iconst (pc := 1) (v := 0) dX3_goForwards_1 (by decide) ?_
  obtain ⟨a2, q1, e3, h⟩ := iC h
  refine y_V (pc := 2) (M2 := mX3_lookFromNothing) (As := [.int 0]) (okX3_lookFromNothing e3) mvX3_lookFromNothing mlRX3_76 dX3_goForwards_2 ⟨by decide, by decide⟩ rfl rfl rfl zrest0 a2 ?_
  refine z_aload_n (pc := 5) 0 rfl dX3_goForwards_5 rfl ?_
  obtain ⟨a5, x4, e6, h⟩ := iR h
  refine y_getR (pc := 6) flRX3_50 dX3_goForwards_6 rfl a5 e6 ?_
  obtain ⟨a8, q7, e9, h⟩ := iC h
  refine y_Vi (pc := 9) (M2 := mX1_steps) (As := []) (okX1_steps e9) mvX1_steps mlRX3_79 dX3_goForwards_9 ⟨by decide, by decide⟩ rfl rfl rfl zrest0 a8 ?_
  refine z_istore_n (pc := 12) (ls' := [(2, .int q7.1), (0, .ref l0), (1, .int l1)]) dX3_goForwards_12 rfl (by decide) (fun _ => rfl) ?_
  refine z_iconst (pc := 13) (v := 1) dX3_goForwards_13 (by decide) ?_
  refine z_istore_n (pc := 14) (ls' := [(3, .int 1), (2, .int q7.1), (0, .ref l0), (1, .int l1)]) dX3_goForwards_14 rfl (by decide) (fun _ => rfl) ?_
  exact z_sub [2, 3, 1, 0] rfl (bX3_goForwards_15  _ h)
def fX3_putBack (l0 : Nat) (l1 : Int32) (s : zS) : Option zS :=
  bnd (qR s 3 l0 3) fun x1 =>
  bnd (cl s 6 x1 (fX6_at x1 l1 s)) fun q4 =>
  if q4.1 = 0 then
    some q4.2
  else
    bnd (qR q4.2 3 l0 1) fun x7 =>
    bnd (cl q4.2 4 x7 (fX4_setActive x7 q4.1 1 q4.2)) fun q10 =>
    some q10
set_option maxRecDepth 100000 in
set_option maxHeartbeats 4000000 in
theorem okX3_putBack {E : zE} {l0 : Nat} {l1 : Int32} {s : zS} {t : zS} (h : fX3_putBack l0 l1 s = some t) : Cv E mX3_putBack [.ref l0, .int l1] s t := by
  refine Ct.of (ls := [(0, .ref l0), (1, .int l1)]) (by decide) rfl (Nat.le_of_ble_eq_true rfl) ?_
  show Z E mX3_putBack 0 [(0, .ref l0), (1, .int l1)] [] s (0, 0) (zRv E mX3_putBack t)
  unfold fX3_putBack at h
  refine z_aload_n (pc := 0) 0 rfl dX3_putBack_0 rfl ?_
  obtain ⟨a2, x1, e3, h⟩ := iR h
  refine y_getR (pc := 1) flRX3_23 dX3_putBack_1 rfl a2 e3 ?_
  refine z_iload_n (pc := 4) 1 rfl dX3_putBack_4 rfl ?_
  obtain ⟨a5, q4, e6, h⟩ := iC h
  refine y_Vi (pc := 5) (M2 := mX6_at) (As := [.int l1]) (okX6_at e6) mvX6_at mlRX3_115 dX3_putBack_5 ⟨by decide, by decide⟩ rfl rfl rfl zrest0 a5 ?_
  refine z_istore_n (pc := 8) (ls' := [(2, .int q4.1), (0, .ref l0), (1, .int l1)]) dX3_putBack_8 rfl (by decide) (fun _ => rfl) ?_
  refine z_iload_n (pc := 9) 0 rfl dX3_putBack_9 rfl ?_
  refine z_if_eq (pc := 10) (tgt := 22) dX3_putBack_10 (by decide) (fun hc => ?_) (fun hc => ?_)
  · replace h := ifp hc h
    exact y_ret (pc := 22) dX3_putBack_22 rfl h
  · replace h := ifn hc h
    refine z_aload_n (pc := 13) 1 rfl dX3_putBack_13 rfl ?_
    obtain ⟨a8, x7, e9, h⟩ := iR h
    refine y_getR (pc := 14) flRX3_59 dX3_putBack_14 rfl a8 e9 ?_
    refine z_iload_n (pc := 17) 0 rfl dX3_putBack_17 rfl ?_
    refine z_iconst (pc := 18) (v := 1) dX3_putBack_18 (by decide) ?_
    obtain ⟨a11, q10, e12, h⟩ := iC h
    refine y_V (pc := 19) (M2 := mX4_setActive) (As := [.int q4.1, .int 1]) (okX4_setActive e12) mvX4_setActive mlRX3_96 dX3_putBack_19 ⟨by decide, by decide⟩ rfl rfl rfl zrest0 a11 ?_
    exact y_ret (pc := 22) dX3_putBack_22 rfl h
def fX4_isMarked (l0 : Nat) (l1 : Int32) (s : zS) : Option (Int32 × zS) :=
  bnd (qR s 4 l0 2) fun x1 =>
  bnd (cl s 6 x1 (fX6_at x1 l1 s)) fun q4 =>
  if q4.1 = 0 then
    gd ((0 : Int32) = 0 ∨ 0 = 1) (some (0, q4.2))
  else
    gd ((1 : Int32) = 0 ∨ 1 = 1) (some (1, q4.2))
set_option maxRecDepth 100000 in
set_option maxHeartbeats 4000000 in
theorem okX4_isMarked {E : zE} {l0 : Nat} {l1 : Int32} {s : zS} {q : Int32 × zS} (h : fX4_isMarked l0 l1 s = some q) : Ci E mX4_isMarked [.ref l0, .int l1] s q.1 q.2 := by
  refine Ct.of (ls := [(0, .ref l0), (1, .int l1)]) (by decide) rfl (Nat.le_of_ble_eq_true rfl) ?_
  show Z E mX4_isMarked 0 [(0, .ref l0), (1, .int l1)] [] s (0, 0) (zRi E mX4_isMarked q.1 q.2)
  unfold fX4_isMarked at h
  refine z_aload_n (pc := 0) 0 rfl dX4_isMarked_0 rfl ?_
  obtain ⟨a2, x1, e3, h⟩ := iR h
  refine y_getR (pc := 1) flRX4_20 dX4_isMarked_1 rfl a2 e3 ?_
  refine z_iload_n (pc := 4) 1 rfl dX4_isMarked_4 rfl ?_
  obtain ⟨a5, q4, e6, h⟩ := iC h
  refine y_Vi (pc := 5) (M2 := mX6_at) (As := [.int l1]) (okX6_at e6) mvX6_at mlRX4_96 dX4_isMarked_5 ⟨by decide, by decide⟩ rfl rfl rfl zrest0 a5 ?_
  refine z_if_eq (pc := 8) (tgt := 15) dX4_isMarked_8 (by decide) (fun hc => ?_) (fun hc => ?_)
  · replace h := ifp hc h
    refine z_iconst (pc := 15) (v := 0) dX4_isMarked_15 (by decide) ?_
    exact y_zret (pc := 16) dX4_isMarked_16 rfl h
  · replace h := ifn hc h
    refine z_iconst (pc := 11) (v := 1) dX4_isMarked_11 (by decide) ?_
    refine z_goto (pc := 12) (tgt := 16) dX4_isMarked_12 (by decide) ?_
    exact y_zret (pc := 16) dX4_isMarked_16 rfl h
def fX3_goBack_65 (k5 : Nat → Int32 → zS → Option zS) (l0 : Nat) (l1 : Int32) (s : zS) : Option zS :=
  k5 l0 (l1 + (-1)) s
set_option maxRecDepth 100000 in
set_option maxHeartbeats 4000000 in
theorem bX3_goBack_65 {E : zE} {k5 : Nat → Int32 → zS → Option zS} (hk5 : ∀ {l0 : Nat} {l1 : Int32} {s : zS} {q : zS}, k5 l0 l1 s = some q → Z E mX3_goBack 5 [(0, .ref l0), (1, .int l1)] [] s (0, 0) (zRv E mX3_goBack q)) {l0 : Nat} {l1 : Int32} {s : zS} {q : zS} (h : fX3_goBack_65 k5 l0 l1 s = some q) : Z E mX3_goBack 65 [(0, .ref l0), (1, .int l1)] [] s (0, 0) (zRv E mX3_goBack q) := by
  unfold fX3_goBack_65 at h
  refine z_iinc (pc := 65) (v := (l1 + (-1))) (ls' := [(1, .int (l1 + (-1))), (0, .ref l0)]) 1 rfl (congrArg (fun z : Int32 => l1 + z) (show Int32.ofInt (-1) = -1 by decide)) dX3_goBack_65 (by decide) (fun _ => rfl) ?_
  refine z_goto (pc := 68) (tgt := 5) dX3_goBack_68 (by decide) ?_
  exact z_sub [1, 0] rfl (hk5 h)
def fX3_goBack_5  (n : Nat) : Nat → Int32 → zS → Option zS := match n with
  | 0 => fun _ _ _ => none
  | n + 1 => fun l0 l1 s =>
    if l1 < 1 then
      some s
    else
      bnd (qI s 3 l0 6) fun x4 =>
      if x4 = 0 then
        bnd (qR s 3 l0 0) fun x7 =>
        bnd (cl s 1 x7 (fX1_numberOfStep x7 l1 s)) fun q10 =>
        if q10.1 = 0 then
          bnd (cl q10.2 3 l0 (fX3_putBack l0 l1 q10.2)) fun q28 =>
          fX3_goBack_65 ((fX3_goBack_5  n)) l0 l1 q28
        else
          bnd (qR q10.2 3 l0 1) fun x13 =>
          bnd (cl q10.2 4 x13 (fX4_setActive x13 q10.1 0 q10.2)) fun q16 =>
          bnd (qR q16 3 l0 1) fun x19 =>
          bnd (cl q16 4 x19 (fX4_isMarked x19 q10.1 q16)) fun q22 =>
          if q22.1 = 0 then
            fX3_goBack_65 ((fX3_goBack_5  n)) l0 l1 q22.2
          else
            bnd (cl q22.2 3 l0 (fX3_holds l0 l1 q10.1 q22.2)) fun q25 =>
            fX3_goBack_65 ((fX3_goBack_5  n)) l0 l1 q25.2
      else
        some s
set_option maxRecDepth 100000 in
set_option maxHeartbeats 4000000 in
theorem bX3_goBack_5 {E : zE}  : ∀ (n : Nat) {l0 : Nat} {l1 : Int32} {s : zS} {q : zS}, fX3_goBack_5  n l0 l1 s = some q → Z E mX3_goBack 5 [(0, .ref l0), (1, .int l1)] [] s (0, 0) (zRv E mX3_goBack q) := by
  intro n
  induction n with
  | zero => intro l0 l1 s q h; cases h
  | succ n ih =>
    intro l0 l1 s q h
    unfold fX3_goBack_5 at h
    refine z_iload_n (pc := 5) 1 rfl dX3_goBack_5 rfl ?_
    refine z_iconst (pc := 6) (v := 1) dX3_goBack_6 (by decide) ?_
    refine z_icmp_lt (pc := 7) (tgt := 71) dX3_goBack_7 (by decide) (fun hc => ?_) (fun hc => ?_)
    · replace h := ifp hc h
      exact y_ret (pc := 71) dX3_goBack_71 rfl h
    · replace h := ifn hc h
      refine z_aload_n (pc := 10) 0 rfl dX3_goBack_10 rfl ?_
      obtain ⟨a5, x4, e6, h⟩ := iI h
      refine y_getI (pc := 11) flRX3_34 dX3_goBack_11 rfl a5 e6 ?_
      refine z_if_ne (pc := 14) (tgt := 71) dX3_goBack_14 (by decide) (fun hc => ?_) (fun hc => ?_)
      · replace h := ifn hc h
        exact y_ret (pc := 71) dX3_goBack_71 rfl h
      · replace h := ifp hc h
        refine z_aload_n (pc := 17) 0 rfl dX3_goBack_17 rfl ?_
        obtain ⟨a8, x7, e9, h⟩ := iR h
        refine y_getR (pc := 18) flRX3_50 dX3_goBack_18 rfl a8 e9 ?_
        refine z_iload_n (pc := 21) 1 rfl dX3_goBack_21 rfl ?_
        obtain ⟨a11, q10, e12, h⟩ := iC h
        refine y_Vi (pc := 22) (M2 := mX1_numberOfStep) (As := [.int l1]) (okX1_numberOfStep e12) mvX1_numberOfStep mlRX3_85 dX3_goBack_22 ⟨by decide, by decide⟩ rfl rfl rfl zrest0 a11 ?_
        refine z_istore_n (pc := 25) (ls' := [(2, .int q10.1), (0, .ref l0), (1, .int l1)]) dX3_goBack_25 rfl (by decide) (fun _ => rfl) ?_
        refine z_iload_n (pc := 26) 0 rfl dX3_goBack_26 rfl ?_
        refine z_if_ne (pc := 27) (tgt := 38) dX3_goBack_27 (by decide) (fun hc => ?_) (fun hc => ?_)
        · replace h := ifn hc h
          refine z_aload_n (pc := 38) 1 rfl dX3_goBack_38 rfl ?_
          obtain ⟨a14, x13, e15, h⟩ := iR h
          refine y_getR (pc := 39) flRX3_59 dX3_goBack_39 rfl a14 e15 ?_
          refine z_iload_n (pc := 42) 0 rfl dX3_goBack_42 rfl ?_
          refine z_iconst (pc := 43) (v := 0) dX3_goBack_43 (by decide) ?_
          obtain ⟨a17, q16, e18, h⟩ := iC h
          refine y_V (pc := 44) (M2 := mX4_setActive) (As := [.int q10.1, .int 0]) (okX4_setActive e18) mvX4_setActive mlRX3_96 dX3_goBack_44 ⟨by decide, by decide⟩ rfl rfl rfl zrest0 a17 ?_
          refine z_aload_n (pc := 47) 1 rfl dX3_goBack_47 rfl ?_
          obtain ⟨a20, x19, e21, h⟩ := iR h
          refine y_getR (pc := 48) flRX3_59 dX3_goBack_48 rfl a20 e21 ?_
          refine z_iload_n (pc := 51) 0 rfl dX3_goBack_51 rfl ?_
          obtain ⟨a23, q22, e24, h⟩ := iC h
          refine y_Vi (pc := 52) (M2 := mX4_isMarked) (As := [.int q10.1]) (okX4_isMarked e24) mvX4_isMarked mlRX3_103 dX3_goBack_52 ⟨by decide, by decide⟩ rfl rfl rfl zrest0 a23 ?_
          refine z_if_eq (pc := 55) (tgt := 65) dX3_goBack_55 (by decide) (fun hc => ?_) (fun hc => ?_)
          · replace h := ifp hc h
            exact z_sub [1, 2] rfl (bX3_goBack_65 (fun h => ih h) h)
          · replace h := ifn hc h
            refine z_aload_n (pc := 58) 1 rfl dX3_goBack_58 rfl ?_
            refine z_iload_n (pc := 59) 2 rfl dX3_goBack_59 rfl ?_
            refine z_iload_n (pc := 60) 0 rfl dX3_goBack_60 rfl ?_
            obtain ⟨a26, q25, e27, h⟩ := iC h
            refine y_Vi (pc := 61) (M2 := mX3_holds) (As := [.int l1, .int q10.1]) (okX3_holds e27) mvX3_holds mlRX3_92 dX3_goBack_61 ⟨by decide, by decide⟩ rfl rfl rfl zrest0 a26 ?_
            refine z_pop (pc := 64) dX3_goBack_64 (fun _ => rfl) ?_
            exact z_sub [1, 2] rfl (bX3_goBack_65 (fun h => ih h) h)
        · replace h := ifp hc h
          refine z_aload_n (pc := 30) 1 rfl dX3_goBack_30 rfl ?_
          refine z_iload_n (pc := 31) 2 rfl dX3_goBack_31 rfl ?_
          obtain ⟨a29, q28, e30, h⟩ := iC h
          refine y_V (pc := 32) (M2 := mX3_putBack) (As := [.int l1]) (okX3_putBack e30) mvX3_putBack mlRX3_100 dX3_goBack_32 ⟨by decide, by decide⟩ rfl rfl rfl zrest0 a29 ?_
          refine z_goto (pc := 35) (tgt := 65) dX3_goBack_35 (by decide) ?_
          exact z_sub [1, 2] rfl (bX3_goBack_65 (fun h => ih h) h)
def fX3_goBack (l0 : Nat) (s : zS) : Option zS :=
  bnd (qI s 3 l0 8) fun x1 =>
  fX3_goBack_5  zfu l0 x1 s
set_option maxRecDepth 100000 in
set_option maxHeartbeats 4000000 in
theorem okX3_goBack {E : zE} {l0 : Nat} {s : zS} {t : zS} (h : fX3_goBack l0 s = some t) : Cv E mX3_goBack [.ref l0] s t := by
  refine Ct.of (ls := [(0, .ref l0)]) (by decide) rfl (Nat.le_of_ble_eq_true rfl) ?_
  show Z E mX3_goBack 0 [(0, .ref l0)] [] s (0, 0) (zRv E mX3_goBack t)
  unfold fX3_goBack at h
  refine z_aload_n (pc := 0) 0 rfl dX3_goBack_0 rfl ?_
  obtain ⟨a2, x1, e3, h⟩ := iI h
  refine y_getI (pc := 1) flRX3_41 dX3_goBack_1 rfl a2 e3 ?_
  refine z_istore_n (pc := 4) (ls' := [(1, .int x1), (0, .ref l0)]) dX3_goBack_4 rfl (by decide) (fun _ => rfl) ?_
  exact z_sub [1, 0] rfl (bX3_goBack_5  _ h)
def fX3_verdict (l0 : Nat) (s : zS) : Option (Int32 × zS) :=
  bnd (qI s 3 l0 6) fun x1 =>
  some (x1, s)
set_option maxRecDepth 100000 in
set_option maxHeartbeats 4000000 in
theorem okX3_verdict {E : zE} {l0 : Nat} {s : zS} {q : Int32 × zS} (h : fX3_verdict l0 s = some q) : Ci E mX3_verdict [.ref l0] s q.1 q.2 := by
  refine Ct.of (ls := [(0, .ref l0)]) (by decide) rfl (Nat.le_of_ble_eq_true rfl) ?_
  show Z E mX3_verdict 0 [(0, .ref l0)] [] s (0, 0) (zRi E mX3_verdict q.1 q.2)
  unfold fX3_verdict at h
  refine z_aload_n (pc := 0) 0 rfl dX3_verdict_0 rfl ?_
  obtain ⟨a2, x1, e3, h⟩ := iI h
  refine y_getI (pc := 1) flRX3_34 dX3_verdict_1 rfl a2 e3 ?_
  exact y_iret (pc := 4) dX3_verdict_4 rfl h
def fX3_failedStep (l0 : Nat) (s : zS) : Option (Int32 × zS) :=
  bnd (qI s 3 l0 7) fun x1 =>
  some (x1, s)
set_option maxRecDepth 100000 in
set_option maxHeartbeats 4000000 in
theorem okX3_failedStep {E : zE} {l0 : Nat} {s : zS} {q : Int32 × zS} (h : fX3_failedStep l0 s = some q) : Ci E mX3_failedStep [.ref l0] s q.1 q.2 := by
  refine Ct.of (ls := [(0, .ref l0)]) (by decide) rfl (Nat.le_of_ble_eq_true rfl) ?_
  show Z E mX3_failedStep 0 [(0, .ref l0)] [] s (0, 0) (zRi E mX3_failedStep q.1 q.2)
  unfold fX3_failedStep at h
  refine z_aload_n (pc := 0) 0 rfl dX3_failedStep_0 rfl ?_
  obtain ⟨a2, x1, e3, h⟩ := iI h
  refine y_getI (pc := 1) flRX3_38 dX3_failedStep_1 rfl a2 e3 ?_
  exact y_iret (pc := 4) dX3_failedStep_4 rfl h
def fX3_conflictStep (l0 : Nat) (s : zS) : Option (Int32 × zS) :=
  bnd (qI s 3 l0 8) fun x1 =>
  some (x1, s)
set_option maxRecDepth 100000 in
set_option maxHeartbeats 4000000 in
theorem okX3_conflictStep {E : zE} {l0 : Nat} {s : zS} {q : Int32 × zS} (h : fX3_conflictStep l0 s = some q) : Ci E mX3_conflictStep [.ref l0] s q.1 q.2 := by
  refine Ct.of (ls := [(0, .ref l0)]) (by decide) rfl (Nat.le_of_ble_eq_true rfl) ?_
  show Z E mX3_conflictStep 0 [(0, .ref l0)] [] s (0, 0) (zRi E mX3_conflictStep q.1 q.2)
  unfold fX3_conflictStep at h
  refine z_aload_n (pc := 0) 0 rfl dX3_conflictStep_0 rfl ?_
  obtain ⟨a2, x1, e3, h⟩ := iI h
  refine y_getI (pc := 1) flRX3_41 dX3_conflictStep_1 rfl a2 e3 ?_
  exact y_iret (pc := 4) dX3_conflictStep_4 rfl h
def fX4_fuelLeft (l0 : Nat) (s : zS) : Option (Int32 × zS) :=
  bnd (qI s 4 l0 17) fun x1 =>
  some (x1, s)
set_option maxRecDepth 100000 in
set_option maxHeartbeats 4000000 in
theorem okX4_fuelLeft {E : zE} {l0 : Nat} {s : zS} {q : Int32 × zS} (h : fX4_fuelLeft l0 s = some q) : Ci E mX4_fuelLeft [.ref l0] s q.1 q.2 := by
  refine Ct.of (ls := [(0, .ref l0)]) (by decide) rfl (Nat.le_of_ble_eq_true rfl) ?_
  show Z E mX4_fuelLeft 0 [(0, .ref l0)] [] s (0, 0) (zRi E mX4_fuelLeft q.1 q.2)
  unfold fX4_fuelLeft at h
  refine z_aload_n (pc := 0) 0 rfl dX4_fuelLeft_0 rfl ?_
  obtain ⟨a2, x1, e3, h⟩ := iI h
  refine y_getI (pc := 1) flRX4_66 dX4_fuelLeft_1 rfl a2 e3 ?_
  exact y_iret (pc := 4) dX4_fuelLeft_4 rfl h
def fX3_fuelLeft (l0 : Nat) (s : zS) : Option (Int32 × zS) :=
  bnd (qR s 3 l0 1) fun x1 =>
  bnd (cl s 4 x1 (fX4_fuelLeft x1  s)) fun q4 =>
  some (q4.1, q4.2)
set_option maxRecDepth 100000 in
set_option maxHeartbeats 4000000 in
theorem okX3_fuelLeft {E : zE} {l0 : Nat} {s : zS} {q : Int32 × zS} (h : fX3_fuelLeft l0 s = some q) : Ci E mX3_fuelLeft [.ref l0] s q.1 q.2 := by
  refine Ct.of (ls := [(0, .ref l0)]) (by decide) rfl (Nat.le_of_ble_eq_true rfl) ?_
  show Z E mX3_fuelLeft 0 [(0, .ref l0)] [] s (0, 0) (zRi E mX3_fuelLeft q.1 q.2)
  unfold fX3_fuelLeft at h
  refine z_aload_n (pc := 0) 0 rfl dX3_fuelLeft_0 rfl ?_
  obtain ⟨a2, x1, e3, h⟩ := iR h
  refine y_getR (pc := 1) flRX3_59 dX3_fuelLeft_1 rfl a2 e3 ?_
  obtain ⟨a5, q4, e6, h⟩ := iC h
  refine y_Vi (pc := 4) (M2 := mX4_fuelLeft) (As := []) (okX4_fuelLeft e6) mvX4_fuelLeft mlRX3_107 dX3_fuelLeft_4 ⟨by decide, by decide⟩ rfl rfl rfl zrest0 a5 ?_
  exact y_iret (pc := 7) dX3_fuelLeft_7 rfl h
def fX3_heldByRup (l0 : Nat) (s : zS) : Option (Int32 × zS) :=
  bnd (qI s 3 l0 9) fun x1 =>
  some (x1, s)
set_option maxRecDepth 100000 in
set_option maxHeartbeats 4000000 in
theorem okX3_heldByRup {E : zE} {l0 : Nat} {s : zS} {q : Int32 × zS} (h : fX3_heldByRup l0 s = some q) : Ci E mX3_heldByRup [.ref l0] s q.1 q.2 := by
  refine Ct.of (ls := [(0, .ref l0)]) (by decide) rfl (Nat.le_of_ble_eq_true rfl) ?_
  show Z E mX3_heldByRup 0 [(0, .ref l0)] [] s (0, 0) (zRi E mX3_heldByRup q.1 q.2)
  unfold fX3_heldByRup at h
  refine z_aload_n (pc := 0) 0 rfl dX3_heldByRup_0 rfl ?_
  obtain ⟨a2, x1, e3, h⟩ := iI h
  refine y_getI (pc := 1) flRX3_44 dX3_heldByRup_1 rfl a2 e3 ?_
  exact y_iret (pc := 4) dX3_heldByRup_4 rfl h
def fX3_heldByRat (l0 : Nat) (s : zS) : Option (Int32 × zS) :=
  bnd (qI s 3 l0 10) fun x1 =>
  some (x1, s)
set_option maxRecDepth 100000 in
set_option maxHeartbeats 4000000 in
theorem okX3_heldByRat {E : zE} {l0 : Nat} {s : zS} {q : Int32 × zS} (h : fX3_heldByRat l0 s = some q) : Ci E mX3_heldByRat [.ref l0] s q.1 q.2 := by
  refine Ct.of (ls := [(0, .ref l0)]) (by decide) rfl (Nat.le_of_ble_eq_true rfl) ?_
  show Z E mX3_heldByRat 0 [(0, .ref l0)] [] s (0, 0) (zRi E mX3_heldByRat q.1 q.2)
  unfold fX3_heldByRat at h
  refine z_aload_n (pc := 0) 0 rfl dX3_heldByRat_0 rfl ?_
  obtain ⟨a2, x1, e3, h⟩ := iI h
  refine y_getI (pc := 1) flRX3_47 dX3_heldByRat_1 rfl a2 e3 ?_
  exact y_iret (pc := 4) dX3_heldByRat_4 rfl h
def fX3_isMarked (l0 : Nat) (l1 : Int32) (s : zS) : Option (Int32 × zS) :=
  bnd (qR s 3 l0 1) fun x1 =>
  bnd (cl s 4 x1 (fX4_isMarked x1 l1 s)) fun q4 =>
  gd (q4.1 = 0 ∨ q4.1 = 1) (some (q4.1, q4.2))
set_option maxRecDepth 100000 in
set_option maxHeartbeats 4000000 in
theorem okX3_isMarked {E : zE} {l0 : Nat} {l1 : Int32} {s : zS} {q : Int32 × zS} (h : fX3_isMarked l0 l1 s = some q) : Ci E mX3_isMarked [.ref l0, .int l1] s q.1 q.2 := by
  refine Ct.of (ls := [(0, .ref l0), (1, .int l1)]) (by decide) rfl (Nat.le_of_ble_eq_true rfl) ?_
  show Z E mX3_isMarked 0 [(0, .ref l0), (1, .int l1)] [] s (0, 0) (zRi E mX3_isMarked q.1 q.2)
  unfold fX3_isMarked at h
  refine z_aload_n (pc := 0) 0 rfl dX3_isMarked_0 rfl ?_
  obtain ⟨a2, x1, e3, h⟩ := iR h
  refine y_getR (pc := 1) flRX3_59 dX3_isMarked_1 rfl a2 e3 ?_
  refine z_iload_n (pc := 4) 1 rfl dX3_isMarked_4 rfl ?_
  obtain ⟨a5, q4, e6, h⟩ := iC h
  refine y_Vi (pc := 5) (M2 := mX4_isMarked) (As := [.int l1]) (okX4_isMarked e6) mvX4_isMarked mlRX3_103 dX3_isMarked_5 ⟨by decide, by decide⟩ rfl rfl rfl zrest0 a5 ?_
  exact y_zret (pc := 8) dX3_isMarked_8 rfl h
def fX3_markedBetween_26 (k5 : Nat → Int32 → Int32 → Int32 → zS → Option (Int32 × zS)) (l0 : Nat) (l2 : Int32) (l4 : Int32) (t0 : Int32) (t1 : Int32) (s : zS) : Option (Int32 × zS) :=
  k5 l0 l2 (t1 + t0) (l4 + 1) s
set_option maxRecDepth 100000 in
set_option maxHeartbeats 4000000 in
theorem bX3_markedBetween_26 {E : zE} {k5 : Nat → Int32 → Int32 → Int32 → zS → Option (Int32 × zS)} (hk5 : ∀ {l0 : Nat} {l2 : Int32} {l3 : Int32} {l4 : Int32} {s : zS} {q : Int32 × zS}, k5 l0 l2 l3 l4 s = some q → Z E mX3_markedBetween 5 [(0, .ref l0), (2, .int l2), (3, .int l3), (4, .int l4)] [] s (0, 0) (zRi E mX3_markedBetween q.1 q.2)) {l0 : Nat} {l2 : Int32} {l4 : Int32} {t0 : Int32} {t1 : Int32} {s : zS} {q : Int32 × zS} (h : fX3_markedBetween_26 k5 l0 l2 l4 t0 t1 s = some q) : Z E mX3_markedBetween 26 [(0, .ref l0), (2, .int l2), (4, .int l4)] [.int t0, .int t1] s (0, 0) (zRi E mX3_markedBetween q.1 q.2) := by
  unfold fX3_markedBetween_26 at h
  refine z_iadd (pc := 26) dX3_markedBetween_26 ?_
  refine z_istore_n (pc := 27) (ls' := [(3, .int (t1 + t0)), (0, .ref l0), (2, .int l2), (4, .int l4)]) dX3_markedBetween_27 rfl (by decide) (fun _ => rfl) ?_
  refine z_iinc (pc := 28) (v := (l4 + 1)) (ls' := [(4, .int (l4 + 1)), (3, .int (t1 + t0)), (0, .ref l0), (2, .int l2)]) 3 rfl rfl dX3_markedBetween_28 (by decide) (fun _ => rfl) ?_
  refine z_goto (pc := 31) (tgt := 5) dX3_markedBetween_31 (by decide) ?_
  exact z_sub [2, 3, 1, 0] rfl (hk5 h)
def fX3_markedBetween_5  (n : Nat) : Nat → Int32 → Int32 → Int32 → zS → Option (Int32 × zS) := match n with
  | 0 => fun _ _ _ _ _ => none
  | n + 1 => fun l0 l2 l3 l4 s =>
    if l2 < l4 then
      some (l3, s)
    else
      bnd (cl s 3 l0 (fX3_isMarked l0 l4 s)) fun q1 =>
      if q1.1 = 0 then
        fX3_markedBetween_26 ((fX3_markedBetween_5  n)) l0 l2 l4 0 l3 q1.2
      else
        fX3_markedBetween_26 ((fX3_markedBetween_5  n)) l0 l2 l4 1 l3 q1.2
set_option maxRecDepth 100000 in
set_option maxHeartbeats 4000000 in
theorem bX3_markedBetween_5 {E : zE}  : ∀ (n : Nat) {l0 : Nat} {l2 : Int32} {l3 : Int32} {l4 : Int32} {s : zS} {q : Int32 × zS}, fX3_markedBetween_5  n l0 l2 l3 l4 s = some q → Z E mX3_markedBetween 5 [(0, .ref l0), (2, .int l2), (3, .int l3), (4, .int l4)] [] s (0, 0) (zRi E mX3_markedBetween q.1 q.2) := by
  intro n
  induction n with
  | zero => intro l0 l2 l3 l4 s q h; cases h
  | succ n ih =>
    intro l0 l2 l3 l4 s q h
    unfold fX3_markedBetween_5 at h
    refine z_iload (pc := 5) 3 rfl dX3_markedBetween_5 ?_
    refine z_iload_n (pc := 7) 1 rfl dX3_markedBetween_7 rfl ?_
    refine z_icmp_gt (pc := 8) (tgt := 34) dX3_markedBetween_8 (by decide) (fun hc => ?_) (fun hc => ?_)
    · replace h := ifp hc h
      refine z_iload_n (pc := 34) 2 rfl dX3_markedBetween_34 rfl ?_
      exact y_iret (pc := 35) dX3_markedBetween_35 rfl h
    · replace h := ifn hc h
      refine z_iload_n (pc := 11) 2 rfl dX3_markedBetween_11 rfl ?_
      refine z_aload_n (pc := 12) 0 rfl dX3_markedBetween_12 rfl ?_
      refine z_iload (pc := 13) 3 rfl dX3_markedBetween_13 ?_
      obtain ⟨a2, q1, e3, h⟩ := iC h
      refine y_Vi (pc := 15) (M2 := mX3_isMarked) (As := [.int l4]) (okX3_isMarked e3) mvX3_isMarked mlRX3_110 dX3_markedBetween_15 ⟨by decide, by decide⟩ rfl rfl rfl (fun _ => Nat.le_of_ble_eq_true rfl) a2 ?_
      refine z_if_eq (pc := 18) (tgt := 25) dX3_markedBetween_18 (by decide) (fun hc => ?_) (fun hc => ?_)
      · replace h := ifp hc h
        refine z_iconst (pc := 25) (v := 0) dX3_markedBetween_25 (by decide) ?_
        exact z_sub [0, 1, 3] rfl (bX3_markedBetween_26 (fun h => ih h) h)
      · replace h := ifn hc h
        refine z_iconst (pc := 21) (v := 1) dX3_markedBetween_21 (by decide) ?_
        refine z_goto (pc := 22) (tgt := 26) dX3_markedBetween_22 (by decide) ?_
        exact z_sub [0, 1, 3] rfl (bX3_markedBetween_26 (fun h => ih h) h)
def fX3_markedBetween (l0 : Nat) (l1 : Int32) (l2 : Int32) (s : zS) : Option (Int32 × zS) :=
  fX3_markedBetween_5  zfu l0 l2 0 l1 s
set_option maxRecDepth 100000 in
set_option maxHeartbeats 4000000 in
theorem okX3_markedBetween {E : zE} {l0 : Nat} {l1 : Int32} {l2 : Int32} {s : zS} {q : Int32 × zS} (h : fX3_markedBetween l0 l1 l2 s = some q) : Ci E mX3_markedBetween [.ref l0, .int l1, .int l2] s q.1 q.2 := by
  refine Ct.of (ls := [(0, .ref l0), (1, .int l1), (2, .int l2)]) (by decide) rfl (Nat.le_of_ble_eq_true rfl) ?_
  show Z E mX3_markedBetween 0 [(0, .ref l0), (1, .int l1), (2, .int l2)] [] s (0, 0) (zRi E mX3_markedBetween q.1 q.2)
  unfold fX3_markedBetween at h
  refine z_iconst (pc := 0) (v := 0) dX3_markedBetween_0 (by decide) ?_
  refine z_istore_n (pc := 1) (ls' := [(3, .int 0), (0, .ref l0), (1, .int l1), (2, .int l2)]) dX3_markedBetween_1 rfl (by decide) (fun _ => rfl) ?_
  refine z_iload_n (pc := 2) 2 rfl dX3_markedBetween_2 rfl ?_
  refine z_istore (pc := 3) (ls' := [(4, .int l1), (3, .int 0), (0, .ref l0), (1, .int l1), (2, .int l2)]) dX3_markedBetween_3 (by decide) (fun _ => rfl) ?_
  exact z_sub [2, 4, 1, 0] rfl (bX3_markedBetween_5  _ h)
def fX3_hintOf (l0 : Nat) (l1 : Int32) (l2 : Int32) (s : zS) : Option (Int32 × zS) :=
  bnd (qR s 3 l0 2) fun x1 =>
  bnd (cl s 2 x1 (fX2_at x1 l1 l2 s)) fun q4 =>
  some (q4.1, q4.2)
set_option maxRecDepth 100000 in
set_option maxHeartbeats 4000000 in
theorem okX3_hintOf {E : zE} {l0 : Nat} {l1 : Int32} {l2 : Int32} {s : zS} {q : Int32 × zS} (h : fX3_hintOf l0 l1 l2 s = some q) : Ci E mX3_hintOf [.ref l0, .int l1, .int l2] s q.1 q.2 := by
  refine Ct.of (ls := [(0, .ref l0), (1, .int l1), (2, .int l2)]) (by decide) rfl (Nat.le_of_ble_eq_true rfl) ?_
  show Z E mX3_hintOf 0 [(0, .ref l0), (1, .int l1), (2, .int l2)] [] s (0, 0) (zRi E mX3_hintOf q.1 q.2)
  unfold fX3_hintOf at h
  refine z_aload_n (pc := 0) 0 rfl dX3_hintOf_0 rfl ?_
  obtain ⟨a2, x1, e3, h⟩ := iR h
  refine y_getR (pc := 1) flRX3_12 dX3_hintOf_1 rfl a2 e3 ?_
  refine z_iload_n (pc := 4) 1 rfl dX3_hintOf_4 rfl ?_
  refine z_iload_n (pc := 5) 2 rfl dX3_hintOf_5 rfl ?_
  obtain ⟨a5, q4, e6, h⟩ := iC h
  refine y_Vi (pc := 6) (M2 := mX2_at) (As := [.int l1, .int l2]) (okX2_at e6) mvX2_at mlRX3_111 dX3_hintOf_6 ⟨by decide, by decide⟩ rfl rfl rfl zrest0 a5 ?_
  exact y_iret (pc := 9) dX3_hintOf_9 rfl h
def fX3_lastStepWeighed (l0 : Nat) (s : zS) : Option (Int32 × zS) :=
  bnd (qI s 3 l0 8) fun x1 =>
  if x1 = (-1) then
    bnd (qR s 3 l0 0) fun x7 =>
    bnd (cl s 1 x7 (fX1_steps x7  s)) fun q10 =>
    some (q10.1, q10.2)
  else
    bnd (qI s 3 l0 8) fun x4 =>
    some (x4, s)
set_option maxRecDepth 100000 in
set_option maxHeartbeats 4000000 in
theorem okX3_lastStepWeighed {E : zE} {l0 : Nat} {s : zS} {q : Int32 × zS} (h : fX3_lastStepWeighed l0 s = some q) : Ci E mX3_lastStepWeighed [.ref l0] s q.1 q.2 := by
  refine Ct.of (ls := [(0, .ref l0)]) (by decide) rfl (Nat.le_of_ble_eq_true rfl) ?_
  show Z E mX3_lastStepWeighed 0 [(0, .ref l0)] [] s (0, 0) (zRi E mX3_lastStepWeighed q.1 q.2)
  unfold fX3_lastStepWeighed at h
  refine z_aload_n (pc := 0) 0 rfl dX3_lastStepWeighed_0 rfl ?_
  obtain ⟨a2, x1, e3, h⟩ := iI h
  refine y_getI (pc := 1) flRX3_41 dX3_lastStepWeighed_1 rfl a2 e3 ?_
  refine z_iconst (pc := 4) (v := (-1)) dX3_lastStepWeighed_4 (by decide) ?_
  refine z_icmp_ne (pc := 5) (tgt := 18) dX3_lastStepWeighed_5 (by decide) (fun hc => ?_) (fun hc => ?_)
  · replace h := ifn hc h
    refine z_aload_n (pc := 18) 0 rfl dX3_lastStepWeighed_18 rfl ?_
    obtain ⟨a5, x4, e6, h⟩ := iI h
    refine y_getI (pc := 19) flRX3_41 dX3_lastStepWeighed_19 rfl a5 e6 ?_
    exact y_iret (pc := 22) dX3_lastStepWeighed_22 rfl h
  · replace h := ifp hc h
    refine z_aload_n (pc := 8) 0 rfl dX3_lastStepWeighed_8 rfl ?_
    obtain ⟨a8, x7, e9, h⟩ := iR h
    refine y_getR (pc := 9) flRX3_50 dX3_lastStepWeighed_9 rfl a8 e9 ?_
    obtain ⟨a11, q10, e12, h⟩ := iC h
    refine y_Vi (pc := 12) (M2 := mX1_steps) (As := []) (okX1_steps e12) mvX1_steps mlRX3_79 dX3_lastStepWeighed_12 ⟨by decide, by decide⟩ rfl rfl rfl zrest0 a11 ?_
    refine z_goto (pc := 15) (tgt := 22) dX3_lastStepWeighed_15 (by decide) ?_
    exact y_iret (pc := 22) dX3_lastStepWeighed_22 rfl h
def fX3_staysInProof (l0 : Nat) (l1 : Int32) (s : zS) : Option (Int32 × zS) :=
  bnd (qR s 3 l0 0) fun x1 =>
  bnd (cl s 1 x1 (fX1_numberOfStep x1 l1 s)) fun q4 =>
  if q4.1 = 0 then
    bnd (qR q4.2 3 l0 3) fun x7 =>
    bnd (cl q4.2 6 x7 (fX6_at x7 l1 q4.2)) fun q10 =>
    if q10.1 = 0 then
      gd ((0 : Int32) = 0 ∨ 0 = 1) (some (0, q10.2))
    else
      bnd (qR q10.2 3 l0 0) fun x13 =>
      bnd (cl q10.2 1 x13 (fX1_ofFormula x13  q10.2)) fun q16 =>
      if q10.1 ≤ q16.1 then
        gd ((1 : Int32) = 0 ∨ 1 = 1) (some (1, q16.2))
      else
        bnd (cl q16.2 3 l0 (fX3_isMarked l0 q10.1 q16.2)) fun q19 =>
        if q19.1 = 0 then
          gd ((0 : Int32) = 0 ∨ 0 = 1) (some (0, q19.2))
        else
          gd ((1 : Int32) = 0 ∨ 1 = 1) (some (1, q19.2))
  else
    bnd (cl q4.2 3 l0 (fX3_isMarked l0 q4.1 q4.2)) fun q22 =>
    gd (q22.1 = 0 ∨ q22.1 = 1) (some (q22.1, q22.2))
set_option maxRecDepth 100000 in
set_option maxHeartbeats 4000000 in
theorem okX3_staysInProof {E : zE} {l0 : Nat} {l1 : Int32} {s : zS} {q : Int32 × zS} (h : fX3_staysInProof l0 l1 s = some q) : Ci E mX3_staysInProof [.ref l0, .int l1] s q.1 q.2 := by
  refine Ct.of (ls := [(0, .ref l0), (1, .int l1)]) (by decide) rfl (Nat.le_of_ble_eq_true rfl) ?_
  show Z E mX3_staysInProof 0 [(0, .ref l0), (1, .int l1)] [] s (0, 0) (zRi E mX3_staysInProof q.1 q.2)
  unfold fX3_staysInProof at h
  refine z_aload_n (pc := 0) 0 rfl dX3_staysInProof_0 rfl ?_
  obtain ⟨a2, x1, e3, h⟩ := iR h
  refine y_getR (pc := 1) flRX3_50 dX3_staysInProof_1 rfl a2 e3 ?_
  refine z_iload_n (pc := 4) 1 rfl dX3_staysInProof_4 rfl ?_
  obtain ⟨a5, q4, e6, h⟩ := iC h
  refine y_Vi (pc := 5) (M2 := mX1_numberOfStep) (As := [.int l1]) (okX1_numberOfStep e6) mvX1_numberOfStep mlRX3_85 dX3_staysInProof_5 ⟨by decide, by decide⟩ rfl rfl rfl zrest0 a5 ?_
  refine z_istore_n (pc := 8) (ls' := [(2, .int q4.1), (0, .ref l0), (1, .int l1)]) dX3_staysInProof_8 rfl (by decide) (fun _ => rfl) ?_
  refine z_iload_n (pc := 9) 0 rfl dX3_staysInProof_9 rfl ?_
  refine z_if_eq (pc := 10) (tgt := 19) dX3_staysInProof_10 (by decide) (fun hc => ?_) (fun hc => ?_)
  · replace h := ifp hc h
    refine z_aload_n (pc := 19) 1 rfl dX3_staysInProof_19 rfl ?_
    obtain ⟨a8, x7, e9, h⟩ := iR h
    refine y_getR (pc := 20) flRX3_23 dX3_staysInProof_20 rfl a8 e9 ?_
    refine z_iload_n (pc := 23) 2 rfl dX3_staysInProof_23 rfl ?_
    obtain ⟨a11, q10, e12, h⟩ := iC h
    refine y_Vi (pc := 24) (M2 := mX6_at) (As := [.int l1]) (okX6_at e12) mvX6_at mlRX3_115 dX3_staysInProof_24 ⟨by decide, by decide⟩ rfl rfl rfl zrest0 a11 ?_
    refine z_istore_n (pc := 27) (ls' := [(3, .int q10.1), (2, .int q4.1), (0, .ref l0), (1, .int l1)]) dX3_staysInProof_27 rfl (by decide) (fun _ => rfl) ?_
    refine z_iload_n (pc := 28) 0 rfl dX3_staysInProof_28 rfl ?_
    refine z_if_eq (pc := 29) (tgt := 55) dX3_staysInProof_29 (by decide) (fun hc => ?_) (fun hc => ?_)
    · replace h := ifp hc h
      refine z_iconst (pc := 55) (v := 0) dX3_staysInProof_55 (by decide) ?_
      exact y_zret (pc := 56) dX3_staysInProof_56 rfl h
    · replace h := ifn hc h
      refine z_iload_n (pc := 32) 0 rfl dX3_staysInProof_32 rfl ?_
      refine z_aload_n (pc := 33) 2 rfl dX3_staysInProof_33 rfl ?_
      obtain ⟨a14, x13, e15, h⟩ := iR h
      refine y_getR (pc := 34) flRX3_50 dX3_staysInProof_34 rfl a14 e15 ?_
      obtain ⟨a17, q16, e18, h⟩ := iC h
      refine y_Vi (pc := 37) (M2 := mX1_ofFormula) (As := []) (okX1_ofFormula e18) mvX1_ofFormula mlRX3_117 dX3_staysInProof_37 ⟨by decide, by decide⟩ rfl rfl rfl (fun _ => Nat.le_of_ble_eq_true rfl) a17 ?_
      refine z_icmp_le (pc := 40) (tgt := 51) dX3_staysInProof_40 (by decide) (fun hc => ?_) (fun hc => ?_)
      · replace h := ifp hc h
        refine z_iconst (pc := 51) (v := 1) dX3_staysInProof_51 (by decide) ?_
        refine z_goto (pc := 52) (tgt := 56) dX3_staysInProof_52 (by decide) ?_
        exact y_zret (pc := 56) dX3_staysInProof_56 rfl h
      · replace h := ifn hc h
        refine z_aload_n (pc := 43) 2 rfl dX3_staysInProof_43 rfl ?_
        refine z_iload_n (pc := 44) 0 rfl dX3_staysInProof_44 rfl ?_
        obtain ⟨a20, q19, e21, h⟩ := iC h
        refine y_Vi (pc := 45) (M2 := mX3_isMarked) (As := [.int q10.1]) (okX3_isMarked e21) mvX3_isMarked mlRX3_110 dX3_staysInProof_45 ⟨by decide, by decide⟩ rfl rfl rfl zrest0 a20 ?_
        refine z_if_eq (pc := 48) (tgt := 55) dX3_staysInProof_48 (by decide) (fun hc => ?_) (fun hc => ?_)
        · replace h := ifp hc h
          refine z_iconst (pc := 55) (v := 0) dX3_staysInProof_55 (by decide) ?_
          exact y_zret (pc := 56) dX3_staysInProof_56 rfl h
        · replace h := ifn hc h
          refine z_iconst (pc := 51) (v := 1) dX3_staysInProof_51 (by decide) ?_
          refine z_goto (pc := 52) (tgt := 56) dX3_staysInProof_52 (by decide) ?_
          exact y_zret (pc := 56) dX3_staysInProof_56 rfl h
  · replace h := ifn hc h
    refine z_aload_n (pc := 13) 1 rfl dX3_staysInProof_13 rfl ?_
    refine z_iload_n (pc := 14) 0 rfl dX3_staysInProof_14 rfl ?_
    obtain ⟨a23, q22, e24, h⟩ := iC h
    refine y_Vi (pc := 15) (M2 := mX3_isMarked) (As := [.int q4.1]) (okX3_isMarked e24) mvX3_isMarked mlRX3_110 dX3_staysInProof_15 ⟨by decide, by decide⟩ rfl rfl rfl zrest0 a23 ?_
    exact y_zret (pc := 18) dX3_staysInProof_18 rfl h
def fX8_init (l0 : Nat) (l1 : Nat) (s : zS) : Option zS :=
  bnd (wI s 8 l0 1 0) fun s1 =>
  bnd (wI s1 8 l0 2 0) fun s4 =>
  bnd (wI s4 8 l0 3 0) fun s7 =>
  bnd (wR s7 8 l0 0 l1) fun s10 =>
  some s10
set_option maxRecDepth 100000 in
set_option maxHeartbeats 4000000 in
theorem okX8_init {E : zE} {l0 : Nat} {l1 : Nat} {s : zS} {t : zS} (h : fX8_init l0 l1 s = some t) : Cv E mX8_init [.ref l0, .ref l1] s t := by
  refine Ct.of (ls := [(0, .ref l0), (1, .ref l1)]) (by decide) rfl (Nat.le_of_ble_eq_true rfl) ?_
  show Z E mX8_init 0 [(0, .ref l0), (1, .ref l1)] [] s (0, 0) (zRv E mX8_init t)
  unfold fX8_init at h
  refine z_aload_n (pc := 0) 0 rfl dX8_init_0 rfl ?_
  refine z_objInit (pc := 1) mlRX8_1 ob_i ob_c dX8_init_1 (Nat.le_of_ble_eq_true rfl) (Nat.le_of_ble_eq_true rfl) zrest0 ?_
  refine z_aload_n (pc := 4) 0 rfl dX8_init_4 rfl ?_
  refine z_iconst (pc := 5) (v := 0) dX8_init_5 (by decide) ?_
  obtain ⟨a2, s1, e3, h⟩ := jI h
  refine y_putI (pc := 6) flRX8_7 dX8_init_6 rfl (Or.inl rfl) a2 e3 ?_
  refine z_aload_n (pc := 9) 0 rfl dX8_init_9 rfl ?_
  refine z_iconst (pc := 10) (v := 0) dX8_init_10 (by decide) ?_
  obtain ⟨a5, s4, e6, h⟩ := jI h
  refine y_putI (pc := 11) flRX8_13 dX8_init_11 rfl (Or.inl rfl) a5 e6 ?_
  refine z_aload_n (pc := 14) 0 rfl dX8_init_14 rfl ?_
  refine z_iconst (pc := 15) (v := 0) dX8_init_15 (by decide) ?_
  obtain ⟨a8, s7, e9, h⟩ := jI h
  refine y_putI (pc := 16) flRX8_16 dX8_init_16 rfl (Or.inl rfl) a8 e9 ?_
  refine z_aload_n (pc := 19) 0 rfl dX8_init_19 rfl ?_
  refine z_aload_n (pc := 20) 1 rfl dX8_init_20 rfl ?_
  obtain ⟨a11, s10, e12, h⟩ := jR h
  refine y_putR (pc := 21) flRX8_19 dX8_init_21 rfl (Or.inl rfl) a11 e12 ?_
  exact y_ret (pc := 24) dX8_init_24 rfl h
def fX5_init (l0 : Nat) (l1 : Nat) (l2 : Nat) (s : zS) : Option zS :=
  bnd (wI s 5 l0 3 0) fun s1 =>
  bnd (wI s1 5 l0 4 0) fun s4 =>
  bnd (wI s4 5 l0 5 0) fun s7 =>
  bnd (wI s7 5 l0 6 0) fun s10 =>
  bnd (wI s10 5 l0 7 0) fun s13 =>
  bnd (wI s13 5 l0 8 (-1)) fun s16 =>
  bnd (nO s16 8) fun s19 =>
  bnd (fX8_init (zn s16 + 1) l1 s19) fun q22 =>
  bnd (wR q22 5 l0 0 (zn s16 + 1)) fun s25 =>
  bnd (wR s25 5 l0 1 l1) fun s28 =>
  bnd (wR s28 5 l0 2 l2) fun s31 =>
  some s31
set_option maxRecDepth 100000 in
set_option maxHeartbeats 4000000 in
theorem okX5_init {E : zE} {l0 : Nat} {l1 : Nat} {l2 : Nat} {s : zS} {t : zS} (h : fX5_init l0 l1 l2 s = some t) : Cv E mX5_init [.ref l0, .ref l1, .ref l2] s t := by
  refine Ct.of (ls := [(0, .ref l0), (1, .ref l1), (2, .ref l2)]) (by decide) rfl (Nat.le_of_ble_eq_true rfl) ?_
  show Z E mX5_init 0 [(0, .ref l0), (1, .ref l1), (2, .ref l2)] [] s (1, 4) (zRv E mX5_init t)
  unfold fX5_init at h
  refine z_aload_n (pc := 0) 0 rfl dX5_init_0 rfl ?_
  refine z_objInit (pc := 1) mlRX5_3 ob_i ob_c dX5_init_1 (Nat.le_of_ble_eq_true rfl) (Nat.le_of_ble_eq_true rfl) zrest0 ?_
  refine z_aload_n (pc := 4) 0 rfl dX5_init_4 rfl ?_
  refine z_iconst (pc := 5) (v := 0) dX5_init_5 (by decide) ?_
  obtain ⟨a2, s1, e3, h⟩ := jI h
  refine y_putI (pc := 6) flRX5_9 dX5_init_6 rfl (Or.inl rfl) a2 e3 ?_
  refine z_aload_n (pc := 9) 0 rfl dX5_init_9 rfl ?_
  refine z_iconst (pc := 10) (v := 0) dX5_init_10 (by decide) ?_
  obtain ⟨a5, s4, e6, h⟩ := jI h
  refine y_putI (pc := 11) flRX5_15 dX5_init_11 rfl (Or.inl rfl) a5 e6 ?_
  refine z_aload_n (pc := 14) 0 rfl dX5_init_14 rfl ?_
  refine z_iconst (pc := 15) (v := 0) dX5_init_15 (by decide) ?_
  obtain ⟨a8, s7, e9, h⟩ := jI h
  refine y_putI (pc := 16) flRX5_18 dX5_init_16 rfl (Or.inl rfl) a8 e9 ?_
  refine z_aload_n (pc := 19) 0 rfl dX5_init_19 rfl ?_
  refine z_iconst (pc := 20) (v := 0) dX5_init_20 (by decide) ?_
  obtain ⟨a11, s10, e12, h⟩ := jI h
  refine y_putI (pc := 21) flRX5_21 dX5_init_21 rfl (Or.inl rfl) a11 e12 ?_
  refine z_aload_n (pc := 24) 0 rfl dX5_init_24 rfl ?_
  refine z_iconst (pc := 25) (v := 0) dX5_init_25 (by decide) ?_
  obtain ⟨a14, s13, e15, h⟩ := jI h
  refine y_putI (pc := 26) flRX5_24 dX5_init_26 rfl (Or.inl rfl) a14 e15 ?_
  refine z_aload_n (pc := 29) 0 rfl dX5_init_29 rfl ?_
  refine z_iconst (pc := 30) (v := (-1)) dX5_init_30 (by decide) ?_
  obtain ⟨a17, s16, e18, h⟩ := jI h
  refine y_putI (pc := 31) flRX5_27 dX5_init_31 rfl (Or.inl rfl) a17 e18 ?_
  refine z_aload_n (pc := 34) 0 rfl dX5_init_34 rfl ?_
  obtain ⟨a20, s19, e21, h⟩ := iNO h
  refine y_new (pc := 35) (b1 := 0) (b2 := 0) nlRX5_30 dX5_init_35 a20 rfl rfl e21 ?_
  refine z_dup (pc := 38) dX5_init_38 (fun _ => rfl) ?_
  refine z_aload_n (pc := 39) 1 rfl dX5_init_39 rfl ?_
  obtain ⟨q22, e24, h⟩ := bnd_i h
  refine y_I (pc := 40) (M2 := mX8_init) (As := [.ref l1]) (b1 := 0) (b2 := 0) (okX8_init e24) mqX8_init miX8_init rfl rfl mlRX5_32 dX5_init_40 ⟨by decide, by decide⟩ rfl rfl (fun _ => Nat.le_of_ble_eq_true rfl) rfl rfl ?_
  obtain ⟨a26, s25, e27, h⟩ := jR h
  refine y_putR (pc := 43) flRX5_35 dX5_init_43 rfl (Or.inr ⟨rfl, rfl, rfl⟩) a26 e27 ?_
  refine z_aload_n (pc := 46) 0 rfl dX5_init_46 rfl ?_
  refine z_aload_n (pc := 47) 1 rfl dX5_init_47 rfl ?_
  obtain ⟨a29, s28, e30, h⟩ := jR h
  refine y_putR (pc := 48) flRX5_39 dX5_init_48 rfl (Or.inl rfl) a29 e30 ?_
  refine z_aload_n (pc := 51) 0 rfl dX5_init_51 rfl ?_
  refine z_aload_n (pc := 52) 2 rfl dX5_init_52 rfl ?_
  obtain ⟨a32, s31, e33, h⟩ := jR h
  refine y_putR (pc := 53) flRX5_43 dX5_init_53 rfl (Or.inl rfl) a32 e33 ?_
  exact y_ret (pc := 56) dX5_init_56 rfl h
def fX5_kind (l0 : Nat) (s : zS) : Option (Int32 × zS) :=
  bnd (qI s 5 l0 7) fun x1 =>
  some (x1, s)
set_option maxRecDepth 100000 in
set_option maxHeartbeats 4000000 in
theorem okX5_kind {E : zE} {l0 : Nat} {s : zS} {q : Int32 × zS} (h : fX5_kind l0 s = some q) : Ci E mX5_kind [.ref l0] s q.1 q.2 := by
  refine Ct.of (ls := [(0, .ref l0)]) (by decide) rfl (Nat.le_of_ble_eq_true rfl) ?_
  show Z E mX5_kind 0 [(0, .ref l0)] [] s (0, 0) (zRi E mX5_kind q.1 q.2)
  unfold fX5_kind at h
  refine z_aload_n (pc := 0) 0 rfl dX5_kind_0 rfl ?_
  obtain ⟨a2, x1, e3, h⟩ := iI h
  refine y_getI (pc := 1) flRX5_24 dX5_kind_1 rfl a2 e3 ?_
  exact y_iret (pc := 4) dX5_kind_4 rfl h
def fX5_place (l0 : Nat) (s : zS) : Option (Int32 × zS) :=
  bnd (qI s 5 l0 8) fun x1 =>
  some (x1, s)
set_option maxRecDepth 100000 in
set_option maxHeartbeats 4000000 in
theorem okX5_place {E : zE} {l0 : Nat} {s : zS} {q : Int32 × zS} (h : fX5_place l0 s = some q) : Ci E mX5_place [.ref l0] s q.1 q.2 := by
  refine Ct.of (ls := [(0, .ref l0)]) (by decide) rfl (Nat.le_of_ble_eq_true rfl) ?_
  show Z E mX5_place 0 [(0, .ref l0)] [] s (0, 0) (zRi E mX5_place q.1 q.2)
  unfold fX5_place at h
  refine z_aload_n (pc := 0) 0 rfl dX5_place_0 rfl ?_
  obtain ⟨a2, x1, e3, h⟩ := iI h
  refine y_getI (pc := 1) flRX5_27 dX5_place_1 rfl a2 e3 ?_
  exact y_iret (pc := 4) dX5_place_4 rfl h
def fX7_clear (l0 : Nat) (s : zS) : Option zS :=
  bnd (wI s 7 l0 3 0) fun s1 =>
  bnd (wI s1 7 l0 4 0) fun s4 =>
  bnd (wI s4 7 l0 5 0) fun s7 =>
  some s7
set_option maxRecDepth 100000 in
set_option maxHeartbeats 4000000 in
theorem okX7_clear {E : zE} {l0 : Nat} {s : zS} {t : zS} (h : fX7_clear l0 s = some t) : Cv E mX7_clear [.ref l0] s t := by
  refine Ct.of (ls := [(0, .ref l0)]) (by decide) rfl (Nat.le_of_ble_eq_true rfl) ?_
  show Z E mX7_clear 0 [(0, .ref l0)] [] s (0, 0) (zRv E mX7_clear t)
  unfold fX7_clear at h
  refine z_aload_n (pc := 0) 0 rfl dX7_clear_0 rfl ?_
  refine z_iconst (pc := 1) (v := 0) dX7_clear_1 (by decide) ?_
  obtain ⟨a2, s1, e3, h⟩ := jI h
  refine y_putI (pc := 2) flRX7_26 dX7_clear_2 rfl (Or.inl rfl) a2 e3 ?_
  refine z_aload_n (pc := 5) 0 rfl dX7_clear_5 rfl ?_
  refine z_iconst (pc := 6) (v := 0) dX7_clear_6 (by decide) ?_
  obtain ⟨a5, s4, e6, h⟩ := jI h
  refine y_putI (pc := 7) flRX7_30 dX7_clear_7 rfl (Or.inl rfl) a5 e6 ?_
  refine z_aload_n (pc := 10) 0 rfl dX7_clear_10 rfl ?_
  refine z_iconst (pc := 11) (v := 0) dX7_clear_11 (by decide) ?_
  obtain ⟨a8, s7, e9, h⟩ := jI h
  refine y_putI (pc := 12) flRX7_33 dX7_clear_12 rfl (Or.inl rfl) a8 e9 ?_
  exact y_ret (pc := 15) dX7_clear_15 rfl h
def fX8_begin (l0 : Nat) (l1 : Nat) (l2 : Int32) (s : zS) : Option zS :=
  bnd (wR s 8 l0 0 l1) fun s1 =>
  bnd (wI s1 8 l0 1 l2) fun s4 =>
  bnd (wI s4 8 l0 2 0) fun s7 =>
  bnd (wI s7 8 l0 3 0) fun s10 =>
  some s10
set_option maxRecDepth 100000 in
set_option maxHeartbeats 4000000 in
theorem okX8_begin {E : zE} {l0 : Nat} {l1 : Nat} {l2 : Int32} {s : zS} {t : zS} (h : fX8_begin l0 l1 l2 s = some t) : Cv E mX8_begin [.ref l0, .ref l1, .int l2] s t := by
  refine Ct.of (ls := [(0, .ref l0), (1, .ref l1), (2, .int l2)]) (by decide) rfl (Nat.le_of_ble_eq_true rfl) ?_
  show Z E mX8_begin 0 [(0, .ref l0), (1, .ref l1), (2, .int l2)] [] s (0, 0) (zRv E mX8_begin t)
  unfold fX8_begin at h
  refine z_aload_n (pc := 0) 0 rfl dX8_begin_0 rfl ?_
  refine z_aload_n (pc := 1) 1 rfl dX8_begin_1 rfl ?_
  obtain ⟨a2, s1, e3, h⟩ := jR h
  refine y_putR (pc := 2) flRX8_19 dX8_begin_2 rfl (Or.inl rfl) a2 e3 ?_
  refine z_aload_n (pc := 5) 0 rfl dX8_begin_5 rfl ?_
  refine z_iload_n (pc := 6) 2 rfl dX8_begin_6 rfl ?_
  obtain ⟨a5, s4, e6, h⟩ := jI h
  refine y_putI (pc := 7) flRX8_7 dX8_begin_7 rfl (Or.inl rfl) a5 e6 ?_
  refine z_aload_n (pc := 10) 0 rfl dX8_begin_10 rfl ?_
  refine z_iconst (pc := 11) (v := 0) dX8_begin_11 (by decide) ?_
  obtain ⟨a8, s7, e9, h⟩ := jI h
  refine y_putI (pc := 12) flRX8_13 dX8_begin_12 rfl (Or.inl rfl) a8 e9 ?_
  refine z_aload_n (pc := 15) 0 rfl dX8_begin_15 rfl ?_
  refine z_iconst (pc := 16) (v := 0) dX8_begin_16 (by decide) ?_
  obtain ⟨a11, s10, e12, h⟩ := jI h
  refine y_putI (pc := 17) flRX8_16 dX8_begin_17 rfl (Or.inl rfl) a11 e12 ?_
  exact y_ret (pc := 20) dX8_begin_20 rfl h
def fX5_begin (l0 : Nat) (l1 : Nat) (l2 : Int32) (l3 : Nat) (s : zS) : Option zS :=
  bnd (qR s 5 l0 0) fun x1 =>
  bnd (cl s 8 x1 (fX8_begin x1 l1 l2 s)) fun q4 =>
  bnd (wR q4 5 l0 1 l1) fun s7 =>
  bnd (wI s7 5 l0 3 l2) fun s10 =>
  bnd (wR s10 5 l0 2 l3) fun s13 =>
  bnd (qR s13 5 l0 2) fun x16 =>
  bnd (cl s13 7 x16 (fX7_clear x16  s13)) fun q19 =>
  bnd (wI q19 5 l0 4 0) fun s22 =>
  bnd (wI s22 5 l0 6 0) fun s25 =>
  bnd (wI s25 5 l0 7 0) fun s28 =>
  bnd (wI s28 5 l0 8 (-1)) fun s31 =>
  some s31
set_option maxRecDepth 100000 in
set_option maxHeartbeats 4000000 in
theorem okX5_begin {E : zE} {l0 : Nat} {l1 : Nat} {l2 : Int32} {l3 : Nat} {s : zS} {t : zS} (h : fX5_begin l0 l1 l2 l3 s = some t) : Cv E mX5_begin [.ref l0, .ref l1, .int l2, .ref l3] s t := by
  refine Ct.of (ls := [(0, .ref l0), (1, .ref l1), (2, .int l2), (3, .ref l3)]) (by decide) rfl (Nat.le_of_ble_eq_true rfl) ?_
  show Z E mX5_begin 0 [(0, .ref l0), (1, .ref l1), (2, .int l2), (3, .ref l3)] [] s (0, 0) (zRv E mX5_begin t)
  unfold fX5_begin at h
  refine z_aload_n (pc := 0) 0 rfl dX5_begin_0 rfl ?_
  obtain ⟨a2, x1, e3, h⟩ := iR h
  refine y_getR (pc := 1) flRX5_35 dX5_begin_1 rfl a2 e3 ?_
  refine z_aload_n (pc := 4) 1 rfl dX5_begin_4 rfl ?_
  refine z_iload_n (pc := 5) 2 rfl dX5_begin_5 rfl ?_
  obtain ⟨a5, q4, e6, h⟩ := iC h
  refine y_V (pc := 6) (M2 := mX8_begin) (As := [.ref l1, .int l2]) (okX8_begin e6) mvX8_begin mlRX5_108 dX5_begin_6 ⟨by decide, by decide⟩ rfl rfl rfl zrest0 a5 ?_
  refine z_aload_n (pc := 9) 0 rfl dX5_begin_9 rfl ?_
  refine z_aload_n (pc := 10) 1 rfl dX5_begin_10 rfl ?_
  obtain ⟨a8, s7, e9, h⟩ := jR h
  refine y_putR (pc := 11) flRX5_39 dX5_begin_11 rfl (Or.inl rfl) a8 e9 ?_
  refine z_aload_n (pc := 14) 0 rfl dX5_begin_14 rfl ?_
  refine z_iload_n (pc := 15) 2 rfl dX5_begin_15 rfl ?_
  obtain ⟨a11, s10, e12, h⟩ := jI h
  refine y_putI (pc := 16) flRX5_9 dX5_begin_16 rfl (Or.inl rfl) a11 e12 ?_
  refine z_aload_n (pc := 19) 0 rfl dX5_begin_19 rfl ?_
  refine z_aload_n (pc := 20) 3 rfl dX5_begin_20 rfl ?_
  obtain ⟨a14, s13, e15, h⟩ := jR h
  refine y_putR (pc := 21) flRX5_43 dX5_begin_21 rfl (Or.inl rfl) a14 e15 ?_
  refine z_aload_n (pc := 24) 0 rfl dX5_begin_24 rfl ?_
  obtain ⟨a17, x16, e18, h⟩ := iR h
  refine y_getR (pc := 25) flRX5_43 dX5_begin_25 rfl a17 e18 ?_
  obtain ⟨a20, q19, e21, h⟩ := iC h
  refine y_V (pc := 28) (M2 := mX7_clear) (As := []) (okX7_clear e21) mvX7_clear mlRX5_111 dX5_begin_28 ⟨by decide, by decide⟩ rfl rfl rfl zrest0 a20 ?_
  refine z_aload_n (pc := 31) 0 rfl dX5_begin_31 rfl ?_
  refine z_iconst (pc := 32) (v := 0) dX5_begin_32 (by decide) ?_
  obtain ⟨a23, s22, e24, h⟩ := jI h
  refine y_putI (pc := 33) flRX5_15 dX5_begin_33 rfl (Or.inl rfl) a23 e24 ?_
  refine z_aload_n (pc := 36) 0 rfl dX5_begin_36 rfl ?_
  refine z_iconst (pc := 37) (v := 0) dX5_begin_37 (by decide) ?_
  obtain ⟨a26, s25, e27, h⟩ := jI h
  refine y_putI (pc := 38) flRX5_21 dX5_begin_38 rfl (Or.inl rfl) a26 e27 ?_
  refine z_aload_n (pc := 41) 0 rfl dX5_begin_41 rfl ?_
  refine z_iconst (pc := 42) (v := 0) dX5_begin_42 (by decide) ?_
  obtain ⟨a29, s28, e30, h⟩ := jI h
  refine y_putI (pc := 43) flRX5_24 dX5_begin_43 rfl (Or.inl rfl) a29 e30 ?_
  refine z_aload_n (pc := 46) 0 rfl dX5_begin_46 rfl ?_
  refine z_iconst (pc := 47) (v := (-1)) dX5_begin_47 (by decide) ?_
  obtain ⟨a32, s31, e33, h⟩ := jI h
  refine y_putI (pc := 48) flRX5_27 dX5_begin_48 rfl (Or.inl rfl) a32 e33 ?_
  exact y_ret (pc := 51) dX5_begin_51 rfl h
def fX5_blame (l0 : Nat) (l1 : Int32) (l2 : Int32) (s : zS) : Option zS :=
  bnd (wI s 5 l0 7 l1) fun s1 =>
  bnd (wI s1 5 l0 8 l2) fun s4 =>
  some s4
set_option maxRecDepth 100000 in
set_option maxHeartbeats 4000000 in
theorem okX5_blame {E : zE} {l0 : Nat} {l1 : Int32} {l2 : Int32} {s : zS} {t : zS} (h : fX5_blame l0 l1 l2 s = some t) : Cv E mX5_blame [.ref l0, .int l1, .int l2] s t := by
  refine Ct.of (ls := [(0, .ref l0), (1, .int l1), (2, .int l2)]) (by decide) rfl (Nat.le_of_ble_eq_true rfl) ?_
  show Z E mX5_blame 0 [(0, .ref l0), (1, .int l1), (2, .int l2)] [] s (0, 0) (zRv E mX5_blame t)
  unfold fX5_blame at h
  refine z_aload_n (pc := 0) 0 rfl dX5_blame_0 rfl ?_
  refine z_iload_n (pc := 1) 1 rfl dX5_blame_1 rfl ?_
  obtain ⟨a2, s1, e3, h⟩ := jI h
  refine y_putI (pc := 2) flRX5_24 dX5_blame_2 rfl (Or.inl rfl) a2 e3 ?_
  refine z_aload_n (pc := 5) 0 rfl dX5_blame_5 rfl ?_
  refine z_iload_n (pc := 6) 2 rfl dX5_blame_6 rfl ?_
  obtain ⟨a5, s4, e6, h⟩ := jI h
  refine y_putI (pc := 7) flRX5_27 dX5_blame_7 rfl (Or.inl rfl) a5 e6 ?_
  exact y_ret (pc := 10) dX5_blame_10 rfl h
def fX8_firstDigit (l0 : Nat) (s : zS) : Option (Int32 × zS) :=
  bnd (qR s 8 l0 0) fun x1 =>
  bnd (qI s 8 l0 2) fun x4 =>
  bnd (cl s 0 x1 (fX0_at x1 x4 s)) fun q7 =>
  if q7.1 = 45 then
    bnd (qI q7.2 8 l0 2) fun x13 =>
    some ((x13 + 1), q7.2)
  else
    bnd (qI q7.2 8 l0 2) fun x10 =>
    some (x10, q7.2)
set_option maxRecDepth 100000 in
set_option maxHeartbeats 4000000 in
theorem okX8_firstDigit {E : zE} {l0 : Nat} {s : zS} {q : Int32 × zS} (h : fX8_firstDigit l0 s = some q) : Ci E mX8_firstDigit [.ref l0] s q.1 q.2 := by
  refine Ct.of (ls := [(0, .ref l0)]) (by decide) rfl (Nat.le_of_ble_eq_true rfl) ?_
  show Z E mX8_firstDigit 0 [(0, .ref l0)] [] s (0, 0) (zRi E mX8_firstDigit q.1 q.2)
  unfold fX8_firstDigit at h
  refine z_aload_n (pc := 0) 0 rfl dX8_firstDigit_0 rfl ?_
  obtain ⟨a2, x1, e3, h⟩ := iR h
  refine y_getR (pc := 1) flRX8_19 dX8_firstDigit_1 rfl a2 e3 ?_
  refine z_aload_n (pc := 4) 0 rfl dX8_firstDigit_4 rfl ?_
  obtain ⟨a5, x4, e6, h⟩ := iI h
  refine y_getI (pc := 5) flRX8_13 dX8_firstDigit_5 rfl a5 e6 ?_
  obtain ⟨a8, q7, e9, h⟩ := iC h
  refine y_Vi (pc := 8) (M2 := mX0_at) (As := [.int x4]) (okX0_at e9) mvX0_at mlRX8_23 dX8_firstDigit_8 ⟨by decide, by decide⟩ rfl rfl rfl zrest0 a8 ?_
  refine z_bipush (pc := 11) (v := 45) dX8_firstDigit_11 (by decide) ?_
  refine z_icmp_ne (pc := 13) (tgt := 25) dX8_firstDigit_13 (by decide) (fun hc => ?_) (fun hc => ?_)
  · replace h := ifn hc h
    refine z_aload_n (pc := 25) 0 rfl dX8_firstDigit_25 rfl ?_
    obtain ⟨a11, x10, e12, h⟩ := iI h
    refine y_getI (pc := 26) flRX8_13 dX8_firstDigit_26 rfl a11 e12 ?_
    exact y_iret (pc := 29) dX8_firstDigit_29 rfl h
  · replace h := ifp hc h
    refine z_aload_n (pc := 16) 0 rfl dX8_firstDigit_16 rfl ?_
    obtain ⟨a14, x13, e15, h⟩ := iI h
    refine y_getI (pc := 17) flRX8_13 dX8_firstDigit_17 rfl a14 e15 ?_
    refine z_iconst (pc := 20) (v := 1) dX8_firstDigit_20 (by decide) ?_
    refine z_iadd (pc := 21) dX8_firstDigit_21 ?_
    refine z_goto (pc := 22) (tgt := 29) dX8_firstDigit_22 (by decide) ?_
    exact y_iret (pc := 29) dX8_firstDigit_29 rfl h
def fX8_isNumber_27  (n : Nat) : Nat → Int32 → zS → Option (Int32 × zS) := match n with
  | 0 => fun _ _ _ => none
  | n + 1 => fun l0 l3 s =>
    bnd (qI s 8 l0 3) fun x7 =>
    if x7 ≤ l3 then
      gd ((1 : Int32) = 0 ∨ 1 = 1) (some (1, s))
    else
      bnd (qR s 8 l0 0) fun x10 =>
      bnd (cl s 0 x10 (fX0_at x10 l3 s)) fun q13 =>
      if q13.1 < 48 then
        gd ((0 : Int32) = 0 ∨ 0 = 1) (some (0, q13.2))
      else
        if q13.1 ≤ 57 then
          (fX8_isNumber_27  n) l0 (l3 + 1) q13.2
        else
          gd ((0 : Int32) = 0 ∨ 0 = 1) (some (0, q13.2))
set_option maxRecDepth 100000 in
set_option maxHeartbeats 4000000 in
theorem bX8_isNumber_27 {E : zE}  : ∀ (n : Nat) {l0 : Nat} {l3 : Int32} {s : zS} {q : Int32 × zS}, fX8_isNumber_27  n l0 l3 s = some q → Z E mX8_isNumber 27 [(0, .ref l0), (3, .int l3)] [] s (0, 0) (zRi E mX8_isNumber q.1 q.2) := by
  intro n
  induction n with
  | zero => intro l0 l3 s q h; cases h
  | succ n ih =>
    intro l0 l3 s q h
    unfold fX8_isNumber_27 at h
    refine z_iload_n (pc := 27) 1 rfl dX8_isNumber_27 rfl ?_
    refine z_aload_n (pc := 28) 0 rfl dX8_isNumber_28 rfl ?_
    obtain ⟨a8, x7, e9, h⟩ := iI h
    refine y_getI (pc := 29) flRX8_16 dX8_isNumber_29 rfl a8 e9 ?_
    refine z_icmp_ge (pc := 32) (tgt := 67) dX8_isNumber_32 (by decide) (fun hc => ?_) (fun hc => ?_)
    · replace h := ifp hc h
      refine z_iconst (pc := 67) (v := 1) dX8_isNumber_67 (by decide) ?_
      exact y_zret (pc := 68) dX8_isNumber_68 rfl h
    · replace h := ifn hc h
      refine z_aload_n (pc := 35) 0 rfl dX8_isNumber_35 rfl ?_
      obtain ⟨a11, x10, e12, h⟩ := iR h
      refine y_getR (pc := 36) flRX8_19 dX8_isNumber_36 rfl a11 e12 ?_
      refine z_iload_n (pc := 39) 1 rfl dX8_isNumber_39 rfl ?_
      obtain ⟨a14, q13, e15, h⟩ := iC h
      refine y_Vi (pc := 40) (M2 := mX0_at) (As := [.int l3]) (okX0_at e15) mvX0_at mlRX8_23 dX8_isNumber_40 ⟨by decide, by decide⟩ rfl rfl rfl zrest0 a14 ?_
      refine z_istore (pc := 43) (ls' := [(4, .int q13.1), (0, .ref l0), (3, .int l3)]) dX8_isNumber_43 (by decide) (fun _ => rfl) ?_
      refine z_iload (pc := 45) 0 rfl dX8_isNumber_45 ?_
      refine z_bipush (pc := 47) (v := 48) dX8_isNumber_47 (by decide) ?_
      refine z_icmp_lt (pc := 49) (tgt := 59) dX8_isNumber_49 (by decide) (fun hc => ?_) (fun hc => ?_)
      · replace h := ifp hc h
        refine z_iconst (pc := 59) (v := 0) dX8_isNumber_59 (by decide) ?_
        exact y_zret (pc := 60) dX8_isNumber_60 rfl h
      · replace h := ifn hc h
        refine z_iload (pc := 52) 0 rfl dX8_isNumber_52 ?_
        refine z_bipush (pc := 54) (v := 57) dX8_isNumber_54 (by decide) ?_
        refine z_icmp_le (pc := 56) (tgt := 61) dX8_isNumber_56 (by decide) (fun hc => ?_) (fun hc => ?_)
        · replace h := ifp hc h
          refine z_iinc (pc := 61) (v := (l3 + 1)) (ls' := [(3, .int (l3 + 1)), (4, .int q13.1), (0, .ref l0)]) 2 rfl rfl dX8_isNumber_61 (by decide) (fun _ => rfl) ?_
          refine z_goto (pc := 64) (tgt := 27) dX8_isNumber_64 (by decide) ?_
          exact z_sub [2, 0] rfl (ih h)
        · replace h := ifn hc h
          refine z_iconst (pc := 59) (v := 0) dX8_isNumber_59 (by decide) ?_
          exact y_zret (pc := 60) dX8_isNumber_60 rfl h
def fX8_isNumber (l0 : Nat) (s : zS) : Option (Int32 × zS) :=
  bnd (cl s 8 l0 (fX8_firstDigit l0  s)) fun q1 =>
  bnd (qI q1.2 8 l0 3) fun x4 =>
  if (x4 - q1.1) < 1 then
    gd ((0 : Int32) = 0 ∨ 0 = 1) (some (0, q1.2))
  else
    if (x4 - q1.1) ≤ 6 then
      fX8_isNumber_27  zfu l0 q1.1 q1.2
    else
      gd ((0 : Int32) = 0 ∨ 0 = 1) (some (0, q1.2))
set_option maxRecDepth 100000 in
set_option maxHeartbeats 4000000 in
theorem okX8_isNumber {E : zE} {l0 : Nat} {s : zS} {q : Int32 × zS} (h : fX8_isNumber l0 s = some q) : Ci E mX8_isNumber [.ref l0] s q.1 q.2 := by
  refine Ct.of (ls := [(0, .ref l0)]) (by decide) rfl (Nat.le_of_ble_eq_true rfl) ?_
  show Z E mX8_isNumber 0 [(0, .ref l0)] [] s (0, 0) (zRi E mX8_isNumber q.1 q.2)
  unfold fX8_isNumber at h
  refine z_aload_n (pc := 0) 0 rfl dX8_isNumber_0 rfl ?_
  obtain ⟨a2, q1, e3, h⟩ := iC h
  refine y_Vi (pc := 1) (M2 := mX8_firstDigit) (As := []) (okX8_firstDigit e3) mvX8_firstDigit mlRX8_46 dX8_isNumber_1 ⟨by decide, by decide⟩ rfl rfl rfl zrest0 a2 ?_
  refine z_istore_n (pc := 4) (ls' := [(1, .int q1.1), (0, .ref l0)]) dX8_isNumber_4 rfl (by decide) (fun _ => rfl) ?_
  refine z_aload_n (pc := 5) 1 rfl dX8_isNumber_5 rfl ?_
  obtain ⟨a5, x4, e6, h⟩ := iI h
  refine y_getI (pc := 6) flRX8_16 dX8_isNumber_6 rfl a5 e6 ?_
  refine z_iload_n (pc := 9) 0 rfl dX8_isNumber_9 rfl ?_
  refine z_isub (pc := 10) dX8_isNumber_10 ?_
  refine z_istore_n (pc := 11) (ls' := [(2, .int (x4 - q1.1)), (1, .int q1.1), (0, .ref l0)]) dX8_isNumber_11 rfl (by decide) (fun _ => rfl) ?_
  refine z_iload_n (pc := 12) 0 rfl dX8_isNumber_12 rfl ?_
  refine z_iconst (pc := 13) (v := 1) dX8_isNumber_13 (by decide) ?_
  refine z_icmp_lt (pc := 14) (tgt := 23) dX8_isNumber_14 (by decide) (fun hc => ?_) (fun hc => ?_)
  · replace h := ifp hc h
    refine z_iconst (pc := 23) (v := 0) dX8_isNumber_23 (by decide) ?_
    exact y_zret (pc := 24) dX8_isNumber_24 rfl h
  · replace h := ifn hc h
    refine z_iload_n (pc := 17) 0 rfl dX8_isNumber_17 rfl ?_
    refine z_bipush (pc := 18) (v := 6) dX8_isNumber_18 (by decide) ?_
    refine z_icmp_le (pc := 20) (tgt := 25) dX8_isNumber_20 (by decide) (fun hc => ?_) (fun hc => ?_)
    · replace h := ifp hc h
      refine z_iload_n (pc := 25) 1 rfl dX8_isNumber_25 rfl ?_
      refine z_istore_n (pc := 26) (ls' := [(3, .int q1.1), (2, .int (x4 - q1.1)), (1, .int q1.1), (0, .ref l0)]) dX8_isNumber_26 rfl (by decide) (fun _ => rfl) ?_
      exact z_sub [3, 0] rfl (bX8_isNumber_27  _ h)
    · replace h := ifn hc h
      refine z_iconst (pc := 23) (v := 0) dX8_isNumber_23 (by decide) ?_
      exact y_zret (pc := 24) dX8_isNumber_24 rfl h
def fX8_number_9  (n : Nat) : Nat → Int32 → Int32 → Int32 → zS → Option (Int32 × zS) := match n with
  | 0 => fun _ _ _ _ _ => none
  | n + 1 => fun l0 l1 l2 l3 s =>
    bnd (qI s 8 l0 3) fun x4 =>
    if x4 ≤ l3 then
      bnd (qI s 8 l0 2) fun x7 =>
      if l1 ≤ x7 then
        some (l2, s)
      else
        some ((-l2), s)
    else
      bnd (qR s 8 l0 0) fun x10 =>
      bnd (cl s 0 x10 (fX0_at x10 l3 s)) fun q13 =>
      (fX8_number_9  n) l0 l1 (((10 * l2) + q13.1) - 48) (l3 + 1) q13.2
set_option maxRecDepth 100000 in
set_option maxHeartbeats 4000000 in
theorem bX8_number_9 {E : zE}  : ∀ (n : Nat) {l0 : Nat} {l1 : Int32} {l2 : Int32} {l3 : Int32} {s : zS} {q : Int32 × zS}, fX8_number_9  n l0 l1 l2 l3 s = some q → Z E mX8_number 9 [(0, .ref l0), (1, .int l1), (2, .int l2), (3, .int l3)] [] s (0, 0) (zRi E mX8_number q.1 q.2) := by
  intro n
  induction n with
  | zero => intro l0 l1 l2 l3 s q h; cases h
  | succ n ih =>
    intro l0 l1 l2 l3 s q h
    unfold fX8_number_9 at h
    refine z_iload_n (pc := 9) 3 rfl dX8_number_9 rfl ?_
    refine z_aload_n (pc := 10) 0 rfl dX8_number_10 rfl ?_
    obtain ⟨a5, x4, e6, h⟩ := iI h
    refine y_getI (pc := 11) flRX8_16 dX8_number_11 rfl a5 e6 ?_
    refine z_icmp_ge (pc := 14) (tgt := 40) dX8_number_14 (by decide) (fun hc => ?_) (fun hc => ?_)
    · replace h := ifp hc h
      refine z_iload_n (pc := 40) 1 rfl dX8_number_40 rfl ?_
      refine z_aload_n (pc := 41) 0 rfl dX8_number_41 rfl ?_
      obtain ⟨a8, x7, e9, h⟩ := iI h
      refine y_getI (pc := 42) flRX8_13 dX8_number_42 rfl a8 e9 ?_
      refine z_icmp_le (pc := 45) (tgt := 53) dX8_number_45 (by decide) (fun hc => ?_) (fun hc => ?_)
      · replace h := ifp hc h
        refine z_iload_n (pc := 53) 2 rfl dX8_number_53 rfl ?_
        exact y_iret (pc := 54) dX8_number_54 rfl h
      · replace h := ifn hc h
        refine z_iload_n (pc := 48) 2 rfl dX8_number_48 rfl ?_
        refine z_ineg (pc := 49) dX8_number_49 ?_
        refine z_goto (pc := 50) (tgt := 54) dX8_number_50 (by decide) ?_
        exact y_iret (pc := 54) dX8_number_54 rfl h
    · replace h := ifn hc h
      refine z_bipush (pc := 17) (v := 10) dX8_number_17 (by decide) ?_
      refine z_iload_n (pc := 19) 2 rfl dX8_number_19 rfl ?_
      refine z_imul (pc := 20) dX8_number_20 ?_
      refine z_aload_n (pc := 21) 0 rfl dX8_number_21 rfl ?_
      obtain ⟨a11, x10, e12, h⟩ := iR h
      refine y_getR (pc := 22) flRX8_19 dX8_number_22 rfl a11 e12 ?_
      refine z_iload_n (pc := 25) 3 rfl dX8_number_25 rfl ?_
      obtain ⟨a14, q13, e15, h⟩ := iC h
      refine y_Vi (pc := 26) (M2 := mX0_at) (As := [.int l3]) (okX0_at e15) mvX0_at mlRX8_23 dX8_number_26 ⟨by decide, by decide⟩ rfl rfl rfl (fun _ => Nat.le_of_ble_eq_true rfl) a14 ?_
      refine z_iadd (pc := 29) dX8_number_29 ?_
      refine z_bipush (pc := 30) (v := 48) dX8_number_30 (by decide) ?_
      refine z_isub (pc := 32) dX8_number_32 ?_
      refine z_istore_n (pc := 33) (ls' := [(2, .int (((10 * l2) + q13.1) - 48)), (0, .ref l0), (1, .int l1), (3, .int l3)]) dX8_number_33 rfl (by decide) (fun _ => rfl) ?_
      refine z_iinc (pc := 34) (v := (l3 + 1)) (ls' := [(3, .int (l3 + 1)), (2, .int (((10 * l2) + q13.1) - 48)), (0, .ref l0), (1, .int l1)]) 3 rfl rfl dX8_number_34 (by decide) (fun _ => rfl) ?_
      refine z_goto (pc := 37) (tgt := 9) dX8_number_37 (by decide) ?_
      exact z_sub [2, 3, 1, 0] rfl (ih h)
def fX8_number (l0 : Nat) (s : zS) : Option (Int32 × zS) :=
  bnd (cl s 8 l0 (fX8_firstDigit l0  s)) fun q1 =>
  fX8_number_9  zfu l0 q1.1 0 q1.1 q1.2
set_option maxRecDepth 100000 in
set_option maxHeartbeats 4000000 in
theorem okX8_number {E : zE} {l0 : Nat} {s : zS} {q : Int32 × zS} (h : fX8_number l0 s = some q) : Ci E mX8_number [.ref l0] s q.1 q.2 := by
  refine Ct.of (ls := [(0, .ref l0)]) (by decide) rfl (Nat.le_of_ble_eq_true rfl) ?_
  show Z E mX8_number 0 [(0, .ref l0)] [] s (0, 0) (zRi E mX8_number q.1 q.2)
  unfold fX8_number at h
  refine z_aload_n (pc := 0) 0 rfl dX8_number_0 rfl ?_
  obtain ⟨a2, q1, e3, h⟩ := iC h
  refine y_Vi (pc := 1) (M2 := mX8_firstDigit) (As := []) (okX8_firstDigit e3) mvX8_firstDigit mlRX8_46 dX8_number_1 ⟨by decide, by decide⟩ rfl rfl rfl zrest0 a2 ?_
  refine z_istore_n (pc := 4) (ls' := [(1, .int q1.1), (0, .ref l0)]) dX8_number_4 rfl (by decide) (fun _ => rfl) ?_
  refine z_iconst (pc := 5) (v := 0) dX8_number_5 (by decide) ?_
  refine z_istore_n (pc := 6) (ls' := [(2, .int 0), (1, .int q1.1), (0, .ref l0)]) dX8_number_6 rfl (by decide) (fun _ => rfl) ?_
  refine z_iload_n (pc := 7) 1 rfl dX8_number_7 rfl ?_
  refine z_istore_n (pc := 8) (ls' := [(3, .int q1.1), (2, .int 0), (1, .int q1.1), (0, .ref l0)]) dX8_number_8 rfl (by decide) (fun _ => rfl) ?_
  exact z_sub [3, 2, 1, 0] rfl (bX8_number_9  _ h)
def fX5_faultOfToken (l0 : Nat) (l1 : Int32) (s : zS) : Option (Int32 × zS) :=
  bnd (qR s 5 l0 0) fun x1 =>
  bnd (cl s 8 x1 (fX8_isNumber x1  s)) fun q4 =>
  if q4.1 = 0 then
    some (1, q4.2)
  else
    bnd (qR q4.2 5 l0 0) fun x7 =>
    bnd (cl q4.2 8 x7 (fX8_number x7  q4.2)) fun q10 =>
    if (zab q10.1) ≤ l1 then
      some (0, q10.2)
    else
      some (2, q10.2)
set_option maxRecDepth 100000 in
set_option maxHeartbeats 4000000 in
theorem okX5_faultOfToken {E : zE} {l0 : Nat} {l1 : Int32} {s : zS} {q : Int32 × zS} (h : fX5_faultOfToken l0 l1 s = some q) : Ci E mX5_faultOfToken [.ref l0, .int l1] s q.1 q.2 := by
  refine Ct.of (ls := [(0, .ref l0), (1, .int l1)]) (by decide) rfl (Nat.le_of_ble_eq_true rfl) ?_
  show Z E mX5_faultOfToken 0 [(0, .ref l0), (1, .int l1)] [] s (0, 0) (zRi E mX5_faultOfToken q.1 q.2)
  unfold fX5_faultOfToken at h
  refine z_aload_n (pc := 0) 0 rfl dX5_faultOfToken_0 rfl ?_
  obtain ⟨a2, x1, e3, h⟩ := iR h
  refine y_getR (pc := 1) flRX5_35 dX5_faultOfToken_1 rfl a2 e3 ?_
  obtain ⟨a5, q4, e6, h⟩ := iC h
  refine y_Vi (pc := 4) (M2 := mX8_isNumber) (As := []) (okX8_isNumber e6) mvX8_isNumber mlRX5_120 dX5_faultOfToken_4 ⟨by decide, by decide⟩ rfl rfl rfl zrest0 a5 ?_
  refine z_if_ne (pc := 7) (tgt := 12) dX5_faultOfToken_7 (by decide) (fun hc => ?_) (fun hc => ?_)
  · replace h := ifn hc h
    refine z_aload_n (pc := 12) 0 rfl dX5_faultOfToken_12 rfl ?_
    obtain ⟨a8, x7, e9, h⟩ := iR h
    refine y_getR (pc := 13) flRX5_35 dX5_faultOfToken_13 rfl a8 e9 ?_
    obtain ⟨a11, q10, e12, h⟩ := iC h
    refine y_Vi (pc := 16) (M2 := mX8_number) (As := []) (okX8_number e12) mvX8_number mlRX5_117 dX5_faultOfToken_16 ⟨by decide, by decide⟩ rfl rfl rfl zrest0 a11 ?_
    refine z_abs (pc := 19) mlRX5_123 ma_st_abs ma_in ma_co_abs dX5_faultOfToken_19 (Nat.le_of_ble_eq_true rfl) (Nat.le_of_ble_eq_true rfl) (fun _ => Nat.le_of_ble_eq_true rfl) ?_
    refine z_iload_n (pc := 22) 1 rfl dX5_faultOfToken_22 rfl ?_
    refine z_icmp_le (pc := 23) (tgt := 30) dX5_faultOfToken_23 (by decide) (fun hc => ?_) (fun hc => ?_)
    · replace h := ifp hc h
      refine z_iconst (pc := 30) (v := 0) dX5_faultOfToken_30 (by decide) ?_
      exact y_iret (pc := 31) dX5_faultOfToken_31 rfl h
    · replace h := ifn hc h
      refine z_iconst (pc := 26) (v := 2) dX5_faultOfToken_26 (by decide) ?_
      refine z_goto (pc := 27) (tgt := 31) dX5_faultOfToken_27 (by decide) ?_
      exact y_iret (pc := 31) dX5_faultOfToken_31 rfl h
  · replace h := ifp hc h
    refine z_iconst (pc := 10) (v := 1) dX5_faultOfToken_10 (by decide) ?_
    exact y_iret (pc := 11) dX5_faultOfToken_11 rfl h
def fX8_isGap (l0 : Int32) (s : zS) : Option (Int32 × zS) :=
  if l0 = 32 then
    gd ((1 : Int32) = 0 ∨ 1 = 1) (some (1, s))
  else
    if l0 = 9 then
      gd ((1 : Int32) = 0 ∨ 1 = 1) (some (1, s))
    else
      if l0 = 13 then
        gd ((1 : Int32) = 0 ∨ 1 = 1) (some (1, s))
      else
        if l0 = 10 then
          gd ((1 : Int32) = 0 ∨ 1 = 1) (some (1, s))
        else
          gd ((0 : Int32) = 0 ∨ 0 = 1) (some (0, s))
set_option maxRecDepth 100000 in
set_option maxHeartbeats 4000000 in
theorem okX8_isGap {E : zE} {l0 : Int32} {s : zS} {q : Int32 × zS} (h : fX8_isGap l0 s = some q) : Ci E mX8_isGap [.int l0] s q.1 q.2 := by
  refine Ct.of (ls := [(0, .int l0)]) (by decide) rfl (Nat.le_of_ble_eq_true rfl) ?_
  show Z E mX8_isGap 0 [(0, .int l0)] [] s (0, 0) (zRi E mX8_isGap q.1 q.2)
  unfold fX8_isGap at h
  refine z_iload_n (pc := 0) 0 rfl dX8_isGap_0 rfl ?_
  refine z_bipush (pc := 1) (v := 32) dX8_isGap_1 (by decide) ?_
  refine z_icmp_eq (pc := 3) (tgt := 24) dX8_isGap_3 (by decide) (fun hc => ?_) (fun hc => ?_)
  · replace h := ifp hc h
    refine z_iconst (pc := 24) (v := 1) dX8_isGap_24 (by decide) ?_
    refine z_goto (pc := 25) (tgt := 29) dX8_isGap_25 (by decide) ?_
    exact y_zret (pc := 29) dX8_isGap_29 rfl h
  · replace h := ifn hc h
    refine z_iload_n (pc := 6) 0 rfl dX8_isGap_6 rfl ?_
    refine z_bipush (pc := 7) (v := 9) dX8_isGap_7 (by decide) ?_
    refine z_icmp_eq (pc := 9) (tgt := 24) dX8_isGap_9 (by decide) (fun hc => ?_) (fun hc => ?_)
    · replace h := ifp hc h
      refine z_iconst (pc := 24) (v := 1) dX8_isGap_24 (by decide) ?_
      refine z_goto (pc := 25) (tgt := 29) dX8_isGap_25 (by decide) ?_
      exact y_zret (pc := 29) dX8_isGap_29 rfl h
    · replace h := ifn hc h
      refine z_iload_n (pc := 12) 0 rfl dX8_isGap_12 rfl ?_
      refine z_bipush (pc := 13) (v := 13) dX8_isGap_13 (by decide) ?_
      refine z_icmp_eq (pc := 15) (tgt := 24) dX8_isGap_15 (by decide) (fun hc => ?_) (fun hc => ?_)
      · replace h := ifp hc h
        refine z_iconst (pc := 24) (v := 1) dX8_isGap_24 (by decide) ?_
        refine z_goto (pc := 25) (tgt := 29) dX8_isGap_25 (by decide) ?_
        exact y_zret (pc := 29) dX8_isGap_29 rfl h
      · replace h := ifn hc h
        refine z_iload_n (pc := 18) 0 rfl dX8_isGap_18 rfl ?_
        refine z_bipush (pc := 19) (v := 10) dX8_isGap_19 (by decide) ?_
        refine z_icmp_ne (pc := 21) (tgt := 28) dX8_isGap_21 (by decide) (fun hc => ?_) (fun hc => ?_)
        · replace h := ifn hc h
          refine z_iconst (pc := 28) (v := 0) dX8_isGap_28 (by decide) ?_
          exact y_zret (pc := 29) dX8_isGap_29 rfl h
        · replace h := ifp hc h
          refine z_iconst (pc := 24) (v := 1) dX8_isGap_24 (by decide) ?_
          refine z_goto (pc := 25) (tgt := 29) dX8_isGap_25 (by decide) ?_
          exact y_zret (pc := 29) dX8_isGap_29 rfl h
def fX8_endOfToken_2  (n : Nat) : Nat → Int32 → zS → Option (Int32 × zS) := match n with
  | 0 => fun _ _ _ => none
  | n + 1 => fun l0 l2 s =>
    bnd (qI s 8 l0 1) fun x1 =>
    if x1 ≤ l2 then
      bnd (qI s 8 l0 1) fun x4 =>
      some (x4, s)
    else
      bnd (qR s 8 l0 0) fun x7 =>
      bnd (cl s 0 x7 (fX0_at x7 l2 s)) fun q10 =>
      bnd (fX8_isGap q10.1 q10.2) fun q13 =>
      if q13.1 = 0 then
        (fX8_endOfToken_2  n) l0 (l2 + 1) q13.2
      else
        some (l2, q13.2)
set_option maxRecDepth 100000 in
set_option maxHeartbeats 4000000 in
theorem bX8_endOfToken_2 {E : zE}  : ∀ (n : Nat) {l0 : Nat} {l2 : Int32} {s : zS} {q : Int32 × zS}, fX8_endOfToken_2  n l0 l2 s = some q → Z E mX8_endOfToken 2 [(0, .ref l0), (2, .int l2)] [] s (0, 0) (zRi E mX8_endOfToken q.1 q.2) := by
  intro n
  induction n with
  | zero => intro l0 l2 s q h; cases h
  | succ n ih =>
    intro l0 l2 s q h
    unfold fX8_endOfToken_2 at h
    refine z_iload_n (pc := 2) 1 rfl dX8_endOfToken_2 rfl ?_
    refine z_aload_n (pc := 3) 0 rfl dX8_endOfToken_3 rfl ?_
    obtain ⟨a2, x1, e3, h⟩ := iI h
    refine y_getI (pc := 4) flRX8_7 dX8_endOfToken_4 rfl a2 e3 ?_
    refine z_icmp_ge (pc := 7) (tgt := 32) dX8_endOfToken_7 (by decide) (fun hc => ?_) (fun hc => ?_)
    · replace h := ifp hc h
      refine z_aload_n (pc := 32) 0 rfl dX8_endOfToken_32 rfl ?_
      obtain ⟨a5, x4, e6, h⟩ := iI h
      refine y_getI (pc := 33) flRX8_7 dX8_endOfToken_33 rfl a5 e6 ?_
      exact y_iret (pc := 36) dX8_endOfToken_36 rfl h
    · replace h := ifn hc h
      refine z_aload_n (pc := 10) 0 rfl dX8_endOfToken_10 rfl ?_
      obtain ⟨a8, x7, e9, h⟩ := iR h
      refine y_getR (pc := 11) flRX8_19 dX8_endOfToken_11 rfl a8 e9 ?_
      refine z_iload_n (pc := 14) 1 rfl dX8_endOfToken_14 rfl ?_
      obtain ⟨a11, q10, e12, h⟩ := iC h
      refine y_Vi (pc := 15) (M2 := mX0_at) (As := [.int l2]) (okX0_at e12) mvX0_at mlRX8_23 dX8_endOfToken_15 ⟨by decide, by decide⟩ rfl rfl rfl zrest0 a11 ?_
      obtain ⟨q13, e15, h⟩ := bnd_i h
      refine y_Si (pc := 18) (M2 := mX8_isGap) (As := [.int q10.1]) (okX8_isGap e15) mqX8_isGap msX8_isGap mlRX8_29 dX8_endOfToken_18 ⟨by decide, by decide⟩ rfl rfl rfl zrest0 ?_
      refine z_if_eq (pc := 21) (tgt := 26) dX8_endOfToken_21 (by decide) (fun hc => ?_) (fun hc => ?_)
      · replace h := ifp hc h
        refine z_iinc (pc := 26) (v := (l2 + 1)) (ls' := [(2, .int (l2 + 1)), (0, .ref l0)]) 1 rfl rfl dX8_endOfToken_26 (by decide) (fun _ => rfl) ?_
        refine z_goto (pc := 29) (tgt := 2) dX8_endOfToken_29 (by decide) ?_
        exact z_sub [1, 0] rfl (ih h)
      · replace h := ifn hc h
        refine z_iload_n (pc := 24) 1 rfl dX8_endOfToken_24 rfl ?_
        exact y_iret (pc := 25) dX8_endOfToken_25 rfl h
def fX8_endOfToken (l0 : Nat) (l1 : Int32) (s : zS) : Option (Int32 × zS) :=
  fX8_endOfToken_2  zfu l0 l1 s
set_option maxRecDepth 100000 in
set_option maxHeartbeats 4000000 in
theorem okX8_endOfToken {E : zE} {l0 : Nat} {l1 : Int32} {s : zS} {q : Int32 × zS} (h : fX8_endOfToken l0 l1 s = some q) : Ci E mX8_endOfToken [.ref l0, .int l1] s q.1 q.2 := by
  refine Ct.of (ls := [(0, .ref l0), (1, .int l1)]) (by decide) rfl (Nat.le_of_ble_eq_true rfl) ?_
  show Z E mX8_endOfToken 0 [(0, .ref l0), (1, .int l1)] [] s (0, 0) (zRi E mX8_endOfToken q.1 q.2)
  unfold fX8_endOfToken at h
  refine z_iload_n (pc := 0) 1 rfl dX8_endOfToken_0 rfl ?_
  refine z_istore_n (pc := 1) (ls' := [(2, .int l1), (0, .ref l0), (1, .int l1)]) dX8_endOfToken_1 rfl (by decide) (fun _ => rfl) ?_
  exact z_sub [1, 0] rfl (bX8_endOfToken_2  _ h)
def fX8_next_82 (k7 : Nat → Int32 → Int32 → zS → Option (Int32 × zS)) (l0 : Nat) (l1 : Int32) (l2 : Int32) (s : zS) : Option (Int32 × zS) :=
  k7 l0 l1 (l2 + 1) s
set_option maxRecDepth 100000 in
set_option maxHeartbeats 4000000 in
theorem bX8_next_82 {E : zE} {k7 : Nat → Int32 → Int32 → zS → Option (Int32 × zS)} (hk7 : ∀ {l0 : Nat} {l1 : Int32} {l2 : Int32} {s : zS} {q : Int32 × zS}, k7 l0 l1 l2 s = some q → Z E mX8_next 7 [(0, .ref l0), (1, .int l1), (2, .int l2)] [] s (0, 0) (zRi E mX8_next q.1 q.2)) {l0 : Nat} {l1 : Int32} {l2 : Int32} {s : zS} {q : Int32 × zS} (h : fX8_next_82 k7 l0 l1 l2 s = some q) : Z E mX8_next 82 [(0, .ref l0), (1, .int l1), (2, .int l2)] [] s (0, 0) (zRi E mX8_next q.1 q.2) := by
  unfold fX8_next_82 at h
  refine z_iinc (pc := 82) (v := (l2 + 1)) (ls' := [(2, .int (l2 + 1)), (0, .ref l0), (1, .int l1)]) 2 rfl rfl dX8_next_82 (by decide) (fun _ => rfl) ?_
  refine z_goto (pc := 85) (tgt := 7) dX8_next_85 (by decide) ?_
  exact z_sub [1, 2, 0] rfl (hk7 h)
def fX8_next_55 (k7 : Nat → Int32 → Int32 → zS → Option (Int32 × zS)) (l0 : Nat) (l1 : Int32) (l2 : Int32) (l3 : Int32) (s : zS) : Option (Int32 × zS) :=
  if l1 = 0 then
    bnd (fX8_isGap l3 s) fun q25 =>
    if q25.1 = 0 then
      bnd (wI q25.2 8 l0 2 l2) fun s28 =>
      bnd (cl s28 8 l0 (fX8_endOfToken l0 l2 s28)) fun q31 =>
      bnd (wI q31.2 8 l0 3 q31.1) fun s34 =>
      gd ((1 : Int32) = 0 ∨ 1 = 1) (some (1, s34))
    else
      fX8_next_82 (k7) l0 l1 l2 q25.2
  else
    fX8_next_82 (k7) l0 l1 l2 s
set_option maxRecDepth 100000 in
set_option maxHeartbeats 4000000 in
theorem bX8_next_55 {E : zE} {k7 : Nat → Int32 → Int32 → zS → Option (Int32 × zS)} (hk7 : ∀ {l0 : Nat} {l1 : Int32} {l2 : Int32} {s : zS} {q : Int32 × zS}, k7 l0 l1 l2 s = some q → Z E mX8_next 7 [(0, .ref l0), (1, .int l1), (2, .int l2)] [] s (0, 0) (zRi E mX8_next q.1 q.2)) {l0 : Nat} {l1 : Int32} {l2 : Int32} {l3 : Int32} {s : zS} {q : Int32 × zS} (h : fX8_next_55 k7 l0 l1 l2 l3 s = some q) : Z E mX8_next 55 [(0, .ref l0), (1, .int l1), (2, .int l2), (3, .int l3)] [] s (0, 0) (zRi E mX8_next q.1 q.2) := by
  unfold fX8_next_55 at h
  refine z_iload_n (pc := 55) 1 rfl dX8_next_55 rfl ?_
  refine z_if_ne (pc := 56) (tgt := 82) dX8_next_56 (by decide) (fun hc => ?_) (fun hc => ?_)
  · replace h := ifn hc h
    exact z_sub [0, 1, 2] rfl (bX8_next_82 (fun h => hk7 h) h)
  · replace h := ifp hc h
    refine z_iload_n (pc := 59) 3 rfl dX8_next_59 rfl ?_
    obtain ⟨q25, e27, h⟩ := bnd_i h
    refine y_Si (pc := 60) (M2 := mX8_isGap) (As := [.int l3]) (okX8_isGap e27) mqX8_isGap msX8_isGap mlRX8_29 dX8_next_60 ⟨by decide, by decide⟩ rfl rfl rfl zrest0 ?_
    refine z_if_ne (pc := 63) (tgt := 82) dX8_next_63 (by decide) (fun hc => ?_) (fun hc => ?_)
    · replace h := ifn hc h
      exact z_sub [0, 1, 2] rfl (bX8_next_82 (fun h => hk7 h) h)
    · replace h := ifp hc h
      refine z_aload_n (pc := 66) 0 rfl dX8_next_66 rfl ?_
      refine z_iload_n (pc := 67) 2 rfl dX8_next_67 rfl ?_
      obtain ⟨a29, s28, e30, h⟩ := jI h
      refine y_putI (pc := 68) flRX8_13 dX8_next_68 rfl (Or.inl rfl) a29 e30 ?_
      refine z_aload_n (pc := 71) 0 rfl dX8_next_71 rfl ?_
      refine z_aload_n (pc := 72) 0 rfl dX8_next_72 rfl ?_
      refine z_iload_n (pc := 73) 2 rfl dX8_next_73 rfl ?_
      obtain ⟨a32, q31, e33, h⟩ := iC h
      refine y_Vi (pc := 74) (M2 := mX8_endOfToken) (As := [.int l2]) (okX8_endOfToken e33) mvX8_endOfToken mlRX8_33 dX8_next_74 ⟨by decide, by decide⟩ rfl rfl rfl (fun _ => Nat.le_of_ble_eq_true rfl) a32 ?_
      obtain ⟨a35, s34, e36, h⟩ := jI h
      refine y_putI (pc := 77) flRX8_16 dX8_next_77 rfl (Or.inl rfl) a35 e36 ?_
      refine z_iconst (pc := 80) (v := 1) dX8_next_80 (by decide) ?_
      exact y_zret (pc := 81) dX8_next_81 rfl h
def fX8_next_54 (k7 : Nat → Int32 → Int32 → zS → Option (Int32 × zS)) (l0 : Nat) (l2 : Int32) (l3 : Int32) (t0 : Int32) (s : zS) : Option (Int32 × zS) :=
  fX8_next_55 (k7) l0 t0 l2 l3 s
set_option maxRecDepth 100000 in
set_option maxHeartbeats 4000000 in
theorem bX8_next_54 {E : zE} {k7 : Nat → Int32 → Int32 → zS → Option (Int32 × zS)} (hk7 : ∀ {l0 : Nat} {l1 : Int32} {l2 : Int32} {s : zS} {q : Int32 × zS}, k7 l0 l1 l2 s = some q → Z E mX8_next 7 [(0, .ref l0), (1, .int l1), (2, .int l2)] [] s (0, 0) (zRi E mX8_next q.1 q.2)) {l0 : Nat} {l2 : Int32} {l3 : Int32} {t0 : Int32} {s : zS} {q : Int32 × zS} (h : fX8_next_54 k7 l0 l2 l3 t0 s = some q) : Z E mX8_next 54 [(0, .ref l0), (2, .int l2), (3, .int l3)] [.int t0] s (0, 0) (zRi E mX8_next q.1 q.2) := by
  unfold fX8_next_54 at h
  refine z_istore_n (pc := 54) (ls' := [(1, .int t0), (0, .ref l0), (2, .int l2), (3, .int l3)]) dX8_next_54 rfl (by decide) (fun _ => rfl) ?_
  exact z_sub [1, 0, 2, 3] rfl (bX8_next_55 (fun h => hk7 h) h)
def fX8_next_43 (k7 : Nat → Int32 → Int32 → zS → Option (Int32 × zS)) (l0 : Nat) (l2 : Int32) (l3 : Int32) (s : zS) : Option (Int32 × zS) :=
  if l3 = 99 then
    fX8_next_54 (k7) l0 l2 l3 1 s
  else
    fX8_next_54 (k7) l0 l2 l3 0 s
set_option maxRecDepth 100000 in
set_option maxHeartbeats 4000000 in
theorem bX8_next_43 {E : zE} {k7 : Nat → Int32 → Int32 → zS → Option (Int32 × zS)} (hk7 : ∀ {l0 : Nat} {l1 : Int32} {l2 : Int32} {s : zS} {q : Int32 × zS}, k7 l0 l1 l2 s = some q → Z E mX8_next 7 [(0, .ref l0), (1, .int l1), (2, .int l2)] [] s (0, 0) (zRi E mX8_next q.1 q.2)) {l0 : Nat} {l2 : Int32} {l3 : Int32} {s : zS} {q : Int32 × zS} (h : fX8_next_43 k7 l0 l2 l3 s = some q) : Z E mX8_next 43 [(0, .ref l0), (2, .int l2), (3, .int l3)] [] s (0, 0) (zRi E mX8_next q.1 q.2) := by
  unfold fX8_next_43 at h
  refine z_iload_n (pc := 43) 2 rfl dX8_next_43 rfl ?_
  refine z_bipush (pc := 44) (v := 99) dX8_next_44 (by decide) ?_
  refine z_icmp_ne (pc := 46) (tgt := 53) dX8_next_46 (by decide) (fun hc => ?_) (fun hc => ?_)
  · replace h := ifn hc h
    refine z_iconst (pc := 53) (v := 0) dX8_next_53 (by decide) ?_
    exact z_sub [0, 1, 2] rfl (bX8_next_54 (fun h => hk7 h) h)
  · replace h := ifp hc h
    refine z_iconst (pc := 49) (v := 1) dX8_next_49 (by decide) ?_
    refine z_goto (pc := 50) (tgt := 54) dX8_next_50 (by decide) ?_
    exact z_sub [0, 1, 2] rfl (bX8_next_54 (fun h => hk7 h) h)
def fX8_next_7  (n : Nat) : Nat → Int32 → Int32 → zS → Option (Int32 × zS) := match n with
  | 0 => fun _ _ _ _ => none
  | n + 1 => fun l0 l1 l2 s =>
    bnd (qI s 8 l0 1) fun x4 =>
    if x4 ≤ l2 then
      bnd (qI s 8 l0 1) fun x7 =>
      bnd (wI s 8 l0 2 x7) fun s10 =>
      bnd (qI s10 8 l0 1) fun x13 =>
      bnd (wI s10 8 l0 3 x13) fun s16 =>
      gd ((0 : Int32) = 0 ∨ 0 = 1) (some (0, s16))
    else
      bnd (qR s 8 l0 0) fun x19 =>
      bnd (cl s 0 x19 (fX0_at x19 l2 s)) fun q22 =>
      if l2 = 0 then
        fX8_next_43 ((fX8_next_7  n)) l0 l2 q22.1 q22.2
      else
        bnd (qR q22.2 8 l0 0) fun x25 =>
        bnd (cl q22.2 0 x25 (fX0_at x25 (l2 - 1) q22.2)) fun q28 =>
        if q28.1 = 10 then
          fX8_next_43 ((fX8_next_7  n)) l0 l2 q22.1 q28.2
        else
          fX8_next_55 ((fX8_next_7  n)) l0 l1 l2 q22.1 q28.2
set_option maxRecDepth 100000 in
set_option maxHeartbeats 4000000 in
theorem bX8_next_7 {E : zE}  : ∀ (n : Nat) {l0 : Nat} {l1 : Int32} {l2 : Int32} {s : zS} {q : Int32 × zS}, fX8_next_7  n l0 l1 l2 s = some q → Z E mX8_next 7 [(0, .ref l0), (1, .int l1), (2, .int l2)] [] s (0, 0) (zRi E mX8_next q.1 q.2) := by
  intro n
  induction n with
  | zero => intro l0 l1 l2 s q h; cases h
  | succ n ih =>
    intro l0 l1 l2 s q h
    unfold fX8_next_7 at h
    refine z_iload_n (pc := 7) 2 rfl dX8_next_7 rfl ?_
    refine z_aload_n (pc := 8) 0 rfl dX8_next_8 rfl ?_
    obtain ⟨a5, x4, e6, h⟩ := iI h
    refine y_getI (pc := 9) flRX8_7 dX8_next_9 rfl a5 e6 ?_
    refine z_icmp_ge (pc := 12) (tgt := 88) dX8_next_12 (by decide) (fun hc => ?_) (fun hc => ?_)
    · replace h := ifp hc h
      refine z_aload_n (pc := 88) 0 rfl dX8_next_88 rfl ?_
      refine z_aload_n (pc := 89) 0 rfl dX8_next_89 rfl ?_
      obtain ⟨a8, x7, e9, h⟩ := iI h
      refine y_getI (pc := 90) flRX8_7 dX8_next_90 rfl a8 e9 ?_
      obtain ⟨a11, s10, e12, h⟩ := jI h
      refine y_putI (pc := 93) flRX8_13 dX8_next_93 rfl (Or.inl rfl) a11 e12 ?_
      refine z_aload_n (pc := 96) 0 rfl dX8_next_96 rfl ?_
      refine z_aload_n (pc := 97) 0 rfl dX8_next_97 rfl ?_
      obtain ⟨a14, x13, e15, h⟩ := iI h
      refine y_getI (pc := 98) flRX8_7 dX8_next_98 rfl a14 e15 ?_
      obtain ⟨a17, s16, e18, h⟩ := jI h
      refine y_putI (pc := 101) flRX8_16 dX8_next_101 rfl (Or.inl rfl) a17 e18 ?_
      refine z_iconst (pc := 104) (v := 0) dX8_next_104 (by decide) ?_
      exact y_zret (pc := 105) dX8_next_105 rfl h
    · replace h := ifn hc h
      refine z_aload_n (pc := 15) 0 rfl dX8_next_15 rfl ?_
      obtain ⟨a20, x19, e21, h⟩ := iR h
      refine y_getR (pc := 16) flRX8_19 dX8_next_16 rfl a20 e21 ?_
      refine z_iload_n (pc := 19) 2 rfl dX8_next_19 rfl ?_
      obtain ⟨a23, q22, e24, h⟩ := iC h
      refine y_Vi (pc := 20) (M2 := mX0_at) (As := [.int l2]) (okX0_at e24) mvX0_at mlRX8_23 dX8_next_20 ⟨by decide, by decide⟩ rfl rfl rfl zrest0 a23 ?_
      refine z_istore_n (pc := 23) (ls' := [(3, .int q22.1), (0, .ref l0), (1, .int l1), (2, .int l2)]) dX8_next_23 rfl (by decide) (fun _ => rfl) ?_
      refine z_iload_n (pc := 24) 3 rfl dX8_next_24 rfl ?_
      refine z_if_eq (pc := 25) (tgt := 43) dX8_next_25 (by decide) (fun hc => ?_) (fun hc => ?_)
      · replace h := ifp hc h
        exact z_sub [1, 3, 0] rfl (bX8_next_43 (fun h => ih h) h)
      · replace h := ifn hc h
        refine z_aload_n (pc := 28) 1 rfl dX8_next_28 rfl ?_
        obtain ⟨a26, x25, e27, h⟩ := iR h
        refine y_getR (pc := 29) flRX8_19 dX8_next_29 rfl a26 e27 ?_
        refine z_iload_n (pc := 32) 3 rfl dX8_next_32 rfl ?_
        refine z_iconst (pc := 33) (v := 1) dX8_next_33 (by decide) ?_
        refine z_isub (pc := 34) dX8_next_34 ?_
        obtain ⟨a29, q28, e30, h⟩ := iC h
        refine y_Vi (pc := 35) (M2 := mX0_at) (As := [.int (l2 - 1)]) (okX0_at e30) mvX0_at mlRX8_23 dX8_next_35 ⟨by decide, by decide⟩ rfl rfl rfl zrest0 a29 ?_
        refine z_bipush (pc := 38) (v := 10) dX8_next_38 (by decide) ?_
        refine z_icmp_ne (pc := 40) (tgt := 55) dX8_next_40 (by decide) (fun hc => ?_) (fun hc => ?_)
        · replace h := ifn hc h
          exact z_sub [1, 2, 3, 0] rfl (bX8_next_55 (fun h => ih h) h)
        · replace h := ifp hc h
          exact z_sub [1, 3, 0] rfl (bX8_next_43 (fun h => ih h) h)
def fX8_next (l0 : Nat) (s : zS) : Option (Int32 × zS) :=
  bnd (qI s 8 l0 3) fun x1 =>
  fX8_next_7  zfu l0 0 x1 s
set_option maxRecDepth 100000 in
set_option maxHeartbeats 4000000 in
theorem okX8_next {E : zE} {l0 : Nat} {s : zS} {q : Int32 × zS} (h : fX8_next l0 s = some q) : Ci E mX8_next [.ref l0] s q.1 q.2 := by
  refine Ct.of (ls := [(0, .ref l0)]) (by decide) rfl (Nat.le_of_ble_eq_true rfl) ?_
  show Z E mX8_next 0 [(0, .ref l0)] [] s (0, 0) (zRi E mX8_next q.1 q.2)
  unfold fX8_next at h
  refine z_iconst (pc := 0) (v := 0) dX8_next_0 (by decide) ?_
  refine z_istore_n (pc := 1) (ls' := [(1, .int 0), (0, .ref l0)]) dX8_next_1 rfl (by decide) (fun _ => rfl) ?_
  refine z_aload_n (pc := 2) 1 rfl dX8_next_2 rfl ?_
  obtain ⟨a2, x1, e3, h⟩ := iI h
  refine y_getI (pc := 3) flRX8_16 dX8_next_3 rfl a2 e3 ?_
  refine z_istore_n (pc := 6) (ls' := [(2, .int x1), (1, .int 0), (0, .ref l0)]) dX8_next_6 rfl (by decide) (fun _ => rfl) ?_
  exact z_sub [2, 1, 0] rfl (bX8_next_7  _ h)
def fX8_start (l0 : Nat) (s : zS) : Option (Int32 × zS) :=
  bnd (qI s 8 l0 2) fun x1 =>
  some (x1, s)
set_option maxRecDepth 100000 in
set_option maxHeartbeats 4000000 in
theorem okX8_start {E : zE} {l0 : Nat} {s : zS} {q : Int32 × zS} (h : fX8_start l0 s = some q) : Ci E mX8_start [.ref l0] s q.1 q.2 := by
  refine Ct.of (ls := [(0, .ref l0)]) (by decide) rfl (Nat.le_of_ble_eq_true rfl) ?_
  show Z E mX8_start 0 [(0, .ref l0)] [] s (0, 0) (zRi E mX8_start q.1 q.2)
  unfold fX8_start at h
  refine z_aload_n (pc := 0) 0 rfl dX8_start_0 rfl ?_
  obtain ⟨a2, x1, e3, h⟩ := iI h
  refine y_getI (pc := 1) flRX8_13 dX8_start_1 rfl a2 e3 ?_
  exact y_iret (pc := 4) dX8_start_4 rfl h
def fX5_expectNumber_39  (l0 : Nat) (l2 : Int32) (s : zS) : Option (Int32 × zS) :=
  if l2 = 0 then
    bnd (qR s 5 l0 0) fun x13 =>
    bnd (cl s 8 x13 (fX8_number x13  s)) fun q16 =>
    some (q16.1, q16.2)
  else
    bnd (qR s 5 l0 0) fun x19 =>
    bnd (cl s 8 x19 (fX8_start x19  s)) fun q22 =>
    bnd (cl q22.2 5 l0 (fX5_blame l0 l2 q22.1 q22.2)) fun q25 =>
    some (0, q25)
set_option maxRecDepth 100000 in
set_option maxHeartbeats 4000000 in
theorem bX5_expectNumber_39 {E : zE}   {l0 : Nat} {l2 : Int32} {s : zS} {q : Int32 × zS} (h : fX5_expectNumber_39  l0 l2 s = some q) : Z E mX5_expectNumber 39 [(0, .ref l0), (2, .int l2)] [] s (0, 0) (zRi E mX5_expectNumber q.1 q.2) := by
  unfold fX5_expectNumber_39 at h
  refine z_iload_n (pc := 39) 1 rfl dX5_expectNumber_39 rfl ?_
  refine z_if_eq (pc := 40) (tgt := 57) dX5_expectNumber_40 (by decide) (fun hc => ?_) (fun hc => ?_)
  · replace h := ifp hc h
    refine z_aload_n (pc := 57) 0 rfl dX5_expectNumber_57 rfl ?_
    obtain ⟨a14, x13, e15, h⟩ := iR h
    refine y_getR (pc := 58) flRX5_35 dX5_expectNumber_58 rfl a14 e15 ?_
    obtain ⟨a17, q16, e18, h⟩ := iC h
    refine y_Vi (pc := 61) (M2 := mX8_number) (As := []) (okX8_number e18) mvX8_number mlRX5_117 dX5_expectNumber_61 ⟨by decide, by decide⟩ rfl rfl rfl zrest0 a17 ?_
    exact y_iret (pc := 64) dX5_expectNumber_64 rfl h
  · replace h := ifn hc h
    refine z_aload_n (pc := 43) 0 rfl dX5_expectNumber_43 rfl ?_
    refine z_iload_n (pc := 44) 1 rfl dX5_expectNumber_44 rfl ?_
    refine z_aload_n (pc := 45) 0 rfl dX5_expectNumber_45 rfl ?_
    obtain ⟨a20, x19, e21, h⟩ := iR h
    refine y_getR (pc := 46) flRX5_35 dX5_expectNumber_46 rfl a20 e21 ?_
    obtain ⟨a23, q22, e24, h⟩ := iC h
    refine y_Vi (pc := 49) (M2 := mX8_start) (As := []) (okX8_start e24) mvX8_start mlRX5_80 dX5_expectNumber_49 ⟨by decide, by decide⟩ rfl rfl rfl (fun _ => Nat.le_of_ble_eq_true rfl) a23 ?_
    obtain ⟨a26, q25, e27, h⟩ := iC h
    refine y_V (pc := 52) (M2 := mX5_blame) (As := [.int l2, .int q22.1]) (okX5_blame e27) mvX5_blame mlRX5_84 dX5_expectNumber_52 ⟨by decide, by decide⟩ rfl rfl rfl zrest0 a26 ?_
    refine z_iconst (pc := 55) (v := 0) dX5_expectNumber_55 (by decide) ?_
    exact y_iret (pc := 56) dX5_expectNumber_56 rfl h
def fX5_expectNumber (l0 : Nat) (l1 : Int32) (s : zS) : Option (Int32 × zS) :=
  bnd (qI s 5 l0 7) fun x1 =>
  if x1 = 0 then
    bnd (qR s 5 l0 0) fun x4 =>
    bnd (cl s 8 x4 (fX8_next x4  s)) fun q7 =>
    bnd (cl q7.2 5 l0 (fX5_faultOfToken l0 l1 q7.2)) fun q10 =>
    if q10.1 = 0 then
      bnd (qR q10.2 5 l0 0) fun x13 =>
      bnd (cl q10.2 8 x13 (fX8_number x13  q10.2)) fun q16 =>
      if 0 ≤ q16.1 then
        fX5_expectNumber_39  l0 q10.1 q16.2
      else
        fX5_expectNumber_39  l0 2 q16.2
    else
      fX5_expectNumber_39  l0 q10.1 q10.2
  else
    some (0, s)
set_option maxRecDepth 100000 in
set_option maxHeartbeats 4000000 in
theorem okX5_expectNumber {E : zE} {l0 : Nat} {l1 : Int32} {s : zS} {q : Int32 × zS} (h : fX5_expectNumber l0 l1 s = some q) : Ci E mX5_expectNumber [.ref l0, .int l1] s q.1 q.2 := by
  refine Ct.of (ls := [(0, .ref l0), (1, .int l1)]) (by decide) rfl (Nat.le_of_ble_eq_true rfl) ?_
  show Z E mX5_expectNumber 0 [(0, .ref l0), (1, .int l1)] [] s (0, 0) (zRi E mX5_expectNumber q.1 q.2)
  unfold fX5_expectNumber at h
  refine z_aload_n (pc := 0) 0 rfl dX5_expectNumber_0 rfl ?_
  obtain ⟨a2, x1, e3, h⟩ := iI h
  refine y_getI (pc := 1) flRX5_24 dX5_expectNumber_1 rfl a2 e3 ?_
  refine z_if_eq (pc := 4) (tgt := 9) dX5_expectNumber_4 (by decide) (fun hc => ?_) (fun hc => ?_)
  · replace h := ifp hc h
    refine z_aload_n (pc := 9) 0 rfl dX5_expectNumber_9 rfl ?_
    obtain ⟨a5, x4, e6, h⟩ := iR h
    refine y_getR (pc := 10) flRX5_35 dX5_expectNumber_10 rfl a5 e6 ?_
    obtain ⟨a8, q7, e9, h⟩ := iC h
    refine y_Vi (pc := 13) (M2 := mX8_next) (As := []) (okX8_next e9) mvX8_next mlRX5_76 dX5_expectNumber_13 ⟨by decide, by decide⟩ rfl rfl rfl zrest0 a8 ?_
    refine z_pop (pc := 16) dX5_expectNumber_16 (fun _ => rfl) ?_
    refine z_aload_n (pc := 17) 0 rfl dX5_expectNumber_17 rfl ?_
    refine z_iload_n (pc := 18) 1 rfl dX5_expectNumber_18 rfl ?_
    obtain ⟨a11, q10, e12, h⟩ := iC h
    refine y_Vi (pc := 19) (M2 := mX5_faultOfToken) (As := [.int l1]) (okX5_faultOfToken e12) mvX5_faultOfToken mlRX5_114 dX5_expectNumber_19 ⟨by decide, by decide⟩ rfl rfl rfl zrest0 a11 ?_
    refine z_istore_n (pc := 22) (ls' := [(2, .int q10.1), (0, .ref l0), (1, .int l1)]) dX5_expectNumber_22 rfl (by decide) (fun _ => rfl) ?_
    refine z_iload_n (pc := 23) 0 rfl dX5_expectNumber_23 rfl ?_
    refine z_if_ne (pc := 24) (tgt := 39) dX5_expectNumber_24 (by decide) (fun hc => ?_) (fun hc => ?_)
    · replace h := ifn hc h
      exact z_sub [1, 0] rfl (bX5_expectNumber_39  h)
    · replace h := ifp hc h
      refine z_aload_n (pc := 27) 1 rfl dX5_expectNumber_27 rfl ?_
      obtain ⟨a14, x13, e15, h⟩ := iR h
      refine y_getR (pc := 28) flRX5_35 dX5_expectNumber_28 rfl a14 e15 ?_
      obtain ⟨a17, q16, e18, h⟩ := iC h
      refine y_Vi (pc := 31) (M2 := mX8_number) (As := []) (okX8_number e18) mvX8_number mlRX5_117 dX5_expectNumber_31 ⟨by decide, by decide⟩ rfl rfl rfl zrest0 a17 ?_
      refine z_if_ge (pc := 34) (tgt := 39) dX5_expectNumber_34 (by decide) (fun hc => ?_) (fun hc => ?_)
      · replace h := ifp hc h
        exact z_sub [1, 0] rfl (bX5_expectNumber_39  h)
      · replace h := ifn hc h
        refine z_iconst (pc := 37) (v := 2) dX5_expectNumber_37 (by decide) ?_
        refine z_istore_n (pc := 38) (ls' := [(2, .int 2), (0, .ref l0), (1, .int l1)]) dX5_expectNumber_38 rfl (by decide) (fun _ => rfl) ?_
        exact z_sub [1, 0] rfl (bX5_expectNumber_39  h)
  · replace h := ifn hc h
    refine z_iconst (pc := 7) (v := 0) dX5_expectNumber_7 (by decide) ?_
    exact y_iret (pc := 8) dX5_expectNumber_8 rfl h
def fX8_spells_22  (n : Nat) : Nat → Nat → Int32 → Int32 → zS → Option (Int32 × zS) := match n with
  | 0 => fun _ _ _ _ _ => none
  | n + 1 => fun l0 l1 l2 l3 s =>
    if l2 ≤ l3 then
      gd ((1 : Int32) = 0 ∨ 1 = 1) (some (1, s))
    else
      bnd (qR s 8 l0 0) fun x10 =>
      bnd (qI s 8 l0 2) fun x13 =>
      bnd (cl s 0 x10 (fX0_at x10 (x13 + l3) s)) fun q16 =>
      bnd (sCh l1 l3 q16.2) fun q19 =>
      if q16.1 = q19.1 then
        (fX8_spells_22  n) l0 l1 l2 (l3 + 1) q19.2
      else
        gd ((0 : Int32) = 0 ∨ 0 = 1) (some (0, q19.2))
set_option maxRecDepth 100000 in
set_option maxHeartbeats 4000000 in
theorem bX8_spells_22 {E : zE}  : ∀ (n : Nat) {l0 : Nat} {l1 : Nat} {l2 : Int32} {l3 : Int32} {s : zS} {q : Int32 × zS}, fX8_spells_22  n l0 l1 l2 l3 s = some q → Z E mX8_spells 22 [(0, .ref l0), (1, .retAddr l1), (2, .int l2), (3, .int l3)] [] s (0, 0) (zRi E mX8_spells q.1 q.2) := by
  intro n
  induction n with
  | zero => intro l0 l1 l2 l3 s q h; cases h
  | succ n ih =>
    intro l0 l1 l2 l3 s q h
    unfold fX8_spells_22 at h
    refine z_iload_n (pc := 22) 3 rfl dX8_spells_22 rfl ?_
    refine z_iload_n (pc := 23) 2 rfl dX8_spells_23 rfl ?_
    refine z_icmp_ge (pc := 24) (tgt := 56) dX8_spells_24 (by decide) (fun hc => ?_) (fun hc => ?_)
    · replace h := ifp hc h
      refine z_iconst (pc := 56) (v := 1) dX8_spells_56 (by decide) ?_
      exact y_zret (pc := 57) dX8_spells_57 rfl h
    · replace h := ifn hc h
      refine z_aload_n (pc := 27) 0 rfl dX8_spells_27 rfl ?_
      obtain ⟨a11, x10, e12, h⟩ := iR h
      refine y_getR (pc := 28) flRX8_19 dX8_spells_28 rfl a11 e12 ?_
      refine z_aload_n (pc := 31) 0 rfl dX8_spells_31 rfl ?_
      obtain ⟨a14, x13, e15, h⟩ := iI h
      refine y_getI (pc := 32) flRX8_13 dX8_spells_32 rfl a14 e15 ?_
      refine z_iload_n (pc := 35) 3 rfl dX8_spells_35 rfl ?_
      refine z_iadd (pc := 36) dX8_spells_36 ?_
      obtain ⟨a17, q16, e18, h⟩ := iC h
      refine y_Vi (pc := 37) (M2 := mX0_at) (As := [.int (x13 + l3)]) (okX0_at e18) mvX0_at mlRX8_23 dX8_spells_37 ⟨by decide, by decide⟩ rfl rfl rfl zrest0 a17 ?_
      refine z_tload_n (pc := 40) 1 rfl dX8_spells_40 rfl ?_
      refine z_iload_n (pc := 41) 3 rfl dX8_spells_41 rfl ?_
      obtain ⟨q19, e21, h⟩ := bnd_i h
      refine y_VTi (pc := 42) (M2 := mJ0_charAt_5068e) (As := [.int l3]) (ok_sCh e21) mtJ0_charAt_5068e mlRX8_42 dX8_spells_42 ⟨by decide, by decide⟩ rfl rfl rfl (fun _ => Nat.le_of_ble_eq_true rfl) (sCh_lt e21) ?_
      refine z_icmp_eq (pc := 45) (tgt := 50) dX8_spells_45 (by decide) (fun hc => ?_) (fun hc => ?_)
      · replace h := ifp hc h
        refine z_iinc (pc := 50) (v := (l3 + 1)) (ls' := [(3, .int (l3 + 1)), (0, .ref l0), (1, .retAddr l1), (2, .int l2)]) 3 rfl rfl dX8_spells_50 (by decide) (fun _ => rfl) ?_
        refine z_goto (pc := 53) (tgt := 22) dX8_spells_53 (by decide) ?_
        exact z_sub [1, 2, 3, 0] rfl (ih h)
      · replace h := ifn hc h
        refine z_iconst (pc := 48) (v := 0) dX8_spells_48 (by decide) ?_
        exact y_zret (pc := 49) dX8_spells_49 rfl h
def fX8_spells (l0 : Nat) (l1 : Nat) (s : zS) : Option (Int32 × zS) :=
  bnd (sLn l1 s) fun q1 =>
  bnd (qI q1.2 8 l0 3) fun x4 =>
  bnd (qI q1.2 8 l0 2) fun x7 =>
  if (x4 - x7) = q1.1 then
    fX8_spells_22  zfu l0 l1 q1.1 0 q1.2
  else
    gd ((0 : Int32) = 0 ∨ 0 = 1) (some (0, q1.2))
set_option maxRecDepth 100000 in
set_option maxHeartbeats 4000000 in
theorem okX8_spells {E : zE} {l0 : Nat} {l1 : Nat} {s : zS} {q : Int32 × zS} (h : fX8_spells l0 l1 s = some q) : Ci E mX8_spells [.ref l0, .retAddr l1] s q.1 q.2 := by
  refine Ct.of (ls := [(0, .ref l0), (1, .retAddr l1)]) (by decide) rfl (Nat.le_of_ble_eq_true rfl) ?_
  show Z E mX8_spells 0 [(0, .ref l0), (1, .retAddr l1)] [] s (0, 0) (zRi E mX8_spells q.1 q.2)
  unfold fX8_spells at h
  refine z_tload_n (pc := 0) 1 rfl dX8_spells_0 rfl ?_
  obtain ⟨q1, e3, h⟩ := bnd_i h
  refine y_VTi (pc := 1) (M2 := mJ0_length_8abf5) (As := []) (ok_sLn e3) mtJ0_length_8abf5 mlRX8_36 dX8_spells_1 ⟨by decide, by decide⟩ rfl rfl rfl zrest0 (sLn_lt e3) ?_
  refine z_istore_n (pc := 4) (ls' := [(2, .int q1.1), (0, .ref l0), (1, .retAddr l1)]) dX8_spells_4 rfl (by decide) (fun _ => rfl) ?_
  refine z_aload_n (pc := 5) 1 rfl dX8_spells_5 rfl ?_
  obtain ⟨a5, x4, e6, h⟩ := iI h
  refine y_getI (pc := 6) flRX8_16 dX8_spells_6 rfl a5 e6 ?_
  refine z_aload_n (pc := 9) 1 rfl dX8_spells_9 rfl ?_
  obtain ⟨a8, x7, e9, h⟩ := iI h
  refine y_getI (pc := 10) flRX8_13 dX8_spells_10 rfl a8 e9 ?_
  refine z_isub (pc := 13) dX8_spells_13 ?_
  refine z_iload_n (pc := 14) 0 rfl dX8_spells_14 rfl ?_
  refine z_icmp_eq (pc := 15) (tgt := 20) dX8_spells_15 (by decide) (fun hc => ?_) (fun hc => ?_)
  · replace h := ifp hc h
    refine z_iconst (pc := 20) (v := 0) dX8_spells_20 (by decide) ?_
    refine z_istore_n (pc := 21) (ls' := [(3, .int 0), (2, .int q1.1), (0, .ref l0), (1, .retAddr l1)]) dX8_spells_21 rfl (by decide) (fun _ => rfl) ?_
    exact z_sub [2, 3, 1, 0] rfl (bX8_spells_22  _ h)
  · replace h := ifn hc h
    refine z_iconst (pc := 18) (v := 0) dX8_spells_18 (by decide) ?_
    exact y_zret (pc := 19) dX8_spells_19 rfl h
def fX5_expectWord_28  (l0 : Nat) (s : zS) : Option zS :=
  bnd (qR s 5 l0 0) fun x10 =>
  bnd (cl s 8 x10 (fX8_start x10  s)) fun q13 =>
  bnd (cl q13.2 5 l0 (fX5_blame l0 1 q13.1 q13.2)) fun q16 =>
  some q16
set_option maxRecDepth 100000 in
set_option maxHeartbeats 4000000 in
theorem bX5_expectWord_28 {E : zE}   {l0 : Nat} {s : zS} {q : zS} (h : fX5_expectWord_28  l0 s = some q) : Z E mX5_expectWord 28 [(0, .ref l0)] [] s (0, 0) (zRv E mX5_expectWord q) := by
  unfold fX5_expectWord_28 at h
  refine z_aload_n (pc := 28) 0 rfl dX5_expectWord_28 rfl ?_
  refine z_iconst (pc := 29) (v := 1) dX5_expectWord_29 (by decide) ?_
  refine z_aload_n (pc := 30) 0 rfl dX5_expectWord_30 rfl ?_
  obtain ⟨a11, x10, e12, h⟩ := iR h
  refine y_getR (pc := 31) flRX5_35 dX5_expectWord_31 rfl a11 e12 ?_
  obtain ⟨a14, q13, e15, h⟩ := iC h
  refine y_Vi (pc := 34) (M2 := mX8_start) (As := []) (okX8_start e15) mvX8_start mlRX5_80 dX5_expectWord_34 ⟨by decide, by decide⟩ rfl rfl rfl (fun _ => Nat.le_of_ble_eq_true rfl) a14 ?_
  obtain ⟨a17, q16, e18, h⟩ := iC h
  refine y_V (pc := 37) (M2 := mX5_blame) (As := [.int 1, .int q13.1]) (okX5_blame e18) mvX5_blame mlRX5_84 dX5_expectWord_37 ⟨by decide, by decide⟩ rfl rfl rfl zrest0 a17 ?_
  exact y_ret (pc := 40) dX5_expectWord_40 rfl h
def fX5_expectWord (l0 : Nat) (l1 : Nat) (s : zS) : Option zS :=
  bnd (qI s 5 l0 7) fun x1 =>
  if x1 = 0 then
    bnd (qR s 5 l0 0) fun x4 =>
    bnd (cl s 8 x4 (fX8_next x4  s)) fun q7 =>
    if q7.1 = 0 then
      fX5_expectWord_28  l0 q7.2
    else
      bnd (qR q7.2 5 l0 0) fun x10 =>
      bnd (cl q7.2 8 x10 (fX8_spells x10 l1 q7.2)) fun q13 =>
      if q13.1 = 0 then
        fX5_expectWord_28  l0 q13.2
      else
        some q13.2
  else
    some s
set_option maxRecDepth 100000 in
set_option maxHeartbeats 4000000 in
theorem okX5_expectWord {E : zE} {l0 : Nat} {l1 : Nat} {s : zS} {t : zS} (h : fX5_expectWord l0 l1 s = some t) : Cv E mX5_expectWord [.ref l0, .retAddr l1] s t := by
  refine Ct.of (ls := [(0, .ref l0), (1, .retAddr l1)]) (by decide) rfl (Nat.le_of_ble_eq_true rfl) ?_
  show Z E mX5_expectWord 0 [(0, .ref l0), (1, .retAddr l1)] [] s (0, 0) (zRv E mX5_expectWord t)
  unfold fX5_expectWord at h
  refine z_aload_n (pc := 0) 0 rfl dX5_expectWord_0 rfl ?_
  obtain ⟨a2, x1, e3, h⟩ := iI h
  refine y_getI (pc := 1) flRX5_24 dX5_expectWord_1 rfl a2 e3 ?_
  refine z_if_ne (pc := 4) (tgt := 40) dX5_expectWord_4 (by decide) (fun hc => ?_) (fun hc => ?_)
  · replace h := ifn hc h
    exact y_ret (pc := 40) dX5_expectWord_40 rfl h
  · replace h := ifp hc h
    refine z_aload_n (pc := 7) 0 rfl dX5_expectWord_7 rfl ?_
    obtain ⟨a5, x4, e6, h⟩ := iR h
    refine y_getR (pc := 8) flRX5_35 dX5_expectWord_8 rfl a5 e6 ?_
    obtain ⟨a8, q7, e9, h⟩ := iC h
    refine y_Vi (pc := 11) (M2 := mX8_next) (As := []) (okX8_next e9) mvX8_next mlRX5_76 dX5_expectWord_11 ⟨by decide, by decide⟩ rfl rfl rfl zrest0 a8 ?_
    refine z_if_eq (pc := 14) (tgt := 28) dX5_expectWord_14 (by decide) (fun hc => ?_) (fun hc => ?_)
    · replace h := ifp hc h
      exact z_sub [0] rfl (bX5_expectWord_28  h)
    · replace h := ifn hc h
      refine z_aload_n (pc := 17) 0 rfl dX5_expectWord_17 rfl ?_
      obtain ⟨a11, x10, e12, h⟩ := iR h
      refine y_getR (pc := 18) flRX5_35 dX5_expectWord_18 rfl a11 e12 ?_
      refine z_tload_n (pc := 21) 1 rfl dX5_expectWord_21 rfl ?_
      obtain ⟨a14, q13, e15, h⟩ := iC h
      refine y_Vi (pc := 22) (M2 := mX8_spells) (As := [.retAddr l1]) (okX8_spells e15) mvX8_spells mlRX5_90 dX5_expectWord_22 ⟨by decide, by decide⟩ rfl rfl rfl zrest0 a14 ?_
      refine z_if_ne (pc := 25) (tgt := 40) dX5_expectWord_25 (by decide) (fun hc => ?_) (fun hc => ?_)
      · replace h := ifn hc h
        exact y_ret (pc := 40) dX5_expectWord_40 rfl h
      · replace h := ifp hc h
        exact z_sub [0] rfl (bX5_expectWord_28  h)
def fX7_add_12  (n : Nat) : Nat → Int32 → Int32 → zS → Option zS := match n with
  | 0 => fun _ _ _ _ => none
  | n + 1 => fun l0 l1 l2 s =>
    bnd (qI s 7 l0 4) fun x10 =>
    if x10 ≤ l2 then
      bnd (qR s 7 l0 0) fun x13 =>
      bnd (qI s 7 l0 4) fun x16 =>
      bnd (cl s 6 x13 (fX6_put x13 x16 l1 s)) fun q19 =>
      bnd (qI q19 7 l0 4) fun x22 =>
      bnd (wI q19 7 l0 4 (x22 + 1)) fun s25 =>
      some s25
    else
      bnd (qR s 7 l0 0) fun x28 =>
      bnd (cl s 6 x28 (fX6_at x28 l2 s)) fun q31 =>
      if q31.1 = l1 then
        some q31.2
      else
        (fX7_add_12  n) l0 l1 (l2 + 1) q31.2
set_option maxRecDepth 100000 in
set_option maxHeartbeats 4000000 in
theorem bX7_add_12 {E : zE}  : ∀ (n : Nat) {l0 : Nat} {l1 : Int32} {l2 : Int32} {s : zS} {q : zS}, fX7_add_12  n l0 l1 l2 s = some q → Z E mX7_add 12 [(0, .ref l0), (1, .int l1), (2, .int l2)] [] s (0, 0) (zRv E mX7_add q) := by
  intro n
  induction n with
  | zero => intro l0 l1 l2 s q h; cases h
  | succ n ih =>
    intro l0 l1 l2 s q h
    unfold fX7_add_12 at h
    refine z_iload_n (pc := 12) 2 rfl dX7_add_12 rfl ?_
    refine z_aload_n (pc := 13) 0 rfl dX7_add_13 rfl ?_
    obtain ⟨a11, x10, e12, h⟩ := iI h
    refine y_getI (pc := 14) flRX7_30 dX7_add_14 rfl a11 e12 ?_
    refine z_icmp_ge (pc := 17) (tgt := 39) dX7_add_17 (by decide) (fun hc => ?_) (fun hc => ?_)
    · replace h := ifp hc h
      refine z_aload_n (pc := 39) 0 rfl dX7_add_39 rfl ?_
      obtain ⟨a14, x13, e15, h⟩ := iR h
      refine y_getR (pc := 40) flRX7_14 dX7_add_40 rfl a14 e15 ?_
      refine z_aload_n (pc := 43) 0 rfl dX7_add_43 rfl ?_
      obtain ⟨a17, x16, e18, h⟩ := iI h
      refine y_getI (pc := 44) flRX7_30 dX7_add_44 rfl a17 e18 ?_
      refine z_iload_n (pc := 47) 1 rfl dX7_add_47 rfl ?_
      obtain ⟨a20, q19, e21, h⟩ := iC h
      refine y_V (pc := 48) (M2 := mX6_put) (As := [.int x16, .int l1]) (okX6_put e21) mvX6_put mlRX7_40 dX7_add_48 ⟨by decide, by decide⟩ rfl rfl rfl zrest0 a20 ?_
      refine z_aload_n (pc := 51) 0 rfl dX7_add_51 rfl ?_
      refine z_dup (pc := 52) dX7_add_52 (fun _ => rfl) ?_
      obtain ⟨a23, x22, e24, h⟩ := iI h
      refine y_getI (pc := 53) flRX7_30 dX7_add_53 rfl a23 e24 ?_
      refine z_iconst (pc := 56) (v := 1) dX7_add_56 (by decide) ?_
      refine z_iadd (pc := 57) dX7_add_57 ?_
      obtain ⟨a26, s25, e27, h⟩ := jI h
      refine y_putI (pc := 58) flRX7_30 dX7_add_58 rfl (Or.inl rfl) a26 e27 ?_
      exact y_ret (pc := 61) dX7_add_61 rfl h
    · replace h := ifn hc h
      refine z_aload_n (pc := 20) 0 rfl dX7_add_20 rfl ?_
      obtain ⟨a29, x28, e30, h⟩ := iR h
      refine y_getR (pc := 21) flRX7_14 dX7_add_21 rfl a29 e30 ?_
      refine z_iload_n (pc := 24) 2 rfl dX7_add_24 rfl ?_
      obtain ⟨a32, q31, e33, h⟩ := iC h
      refine y_Vi (pc := 25) (M2 := mX6_at) (As := [.int l2]) (okX6_at e33) mvX6_at mlRX7_36 dX7_add_25 ⟨by decide, by decide⟩ rfl rfl rfl zrest0 a32 ?_
      refine z_iload_n (pc := 28) 1 rfl dX7_add_28 rfl ?_
      refine z_icmp_ne (pc := 29) (tgt := 33) dX7_add_29 (by decide) (fun hc => ?_) (fun hc => ?_)
      · replace h := ifn hc h
        refine z_iinc (pc := 33) (v := (l2 + 1)) (ls' := [(2, .int (l2 + 1)), (0, .ref l0), (1, .int l1)]) 2 rfl rfl dX7_add_33 (by decide) (fun _ => rfl) ?_
        refine z_goto (pc := 36) (tgt := 12) dX7_add_36 (by decide) ?_
        exact z_sub [1, 2, 0] rfl (ih h)
      · replace h := ifp hc h
        exact y_ret (pc := 32) dX7_add_32 rfl h
def fX7_add (l0 : Nat) (l1 : Int32) (s : zS) : Option zS :=
  bnd (qR s 7 l0 1) fun x1 =>
  bnd (qI s 7 l0 3) fun x4 =>
  bnd (cl s 6 x1 (fX6_at x1 x4 s)) fun q7 =>
  fX7_add_12  zfu l0 l1 q7.1 q7.2
set_option maxRecDepth 100000 in
set_option maxHeartbeats 4000000 in
theorem okX7_add {E : zE} {l0 : Nat} {l1 : Int32} {s : zS} {t : zS} (h : fX7_add l0 l1 s = some t) : Cv E mX7_add [.ref l0, .int l1] s t := by
  refine Ct.of (ls := [(0, .ref l0), (1, .int l1)]) (by decide) rfl (Nat.le_of_ble_eq_true rfl) ?_
  show Z E mX7_add 0 [(0, .ref l0), (1, .int l1)] [] s (0, 0) (zRv E mX7_add t)
  unfold fX7_add at h
  refine z_aload_n (pc := 0) 0 rfl dX7_add_0 rfl ?_
  obtain ⟨a2, x1, e3, h⟩ := iR h
  refine y_getR (pc := 1) flRX7_20 dX7_add_1 rfl a2 e3 ?_
  refine z_aload_n (pc := 4) 0 rfl dX7_add_4 rfl ?_
  obtain ⟨a5, x4, e6, h⟩ := iI h
  refine y_getI (pc := 5) flRX7_26 dX7_add_5 rfl a5 e6 ?_
  obtain ⟨a8, q7, e9, h⟩ := iC h
  refine y_Vi (pc := 8) (M2 := mX6_at) (As := [.int x4]) (okX6_at e9) mvX6_at mlRX7_36 dX7_add_8 ⟨by decide, by decide⟩ rfl rfl rfl zrest0 a8 ?_
  refine z_istore_n (pc := 11) (ls' := [(2, .int q7.1), (0, .ref l0), (1, .int l1)]) dX7_add_11 rfl (by decide) (fun _ => rfl) ?_
  exact z_sub [1, 2, 0] rfl (bX7_add_12  _ h)
def fX5_takeLiteral_39  (l0 : Nat) (l2 : Int32) (s : zS) : Option zS :=
  bnd (cl s 5 l0 (fX5_blame l0 3 l2 s)) fun q16 =>
  some q16
set_option maxRecDepth 100000 in
set_option maxHeartbeats 4000000 in
theorem bX5_takeLiteral_39 {E : zE}   {l0 : Nat} {l2 : Int32} {s : zS} {q : zS} (h : fX5_takeLiteral_39  l0 l2 s = some q) : Z E mX5_takeLiteral 39 [(0, .ref l0), (2, .int l2)] [] s (0, 0) (zRv E mX5_takeLiteral q) := by
  unfold fX5_takeLiteral_39 at h
  refine z_aload_n (pc := 39) 0 rfl dX5_takeLiteral_39 rfl ?_
  refine z_iconst (pc := 40) (v := 3) dX5_takeLiteral_40 (by decide) ?_
  refine z_iload_n (pc := 41) 1 rfl dX5_takeLiteral_41 rfl ?_
  obtain ⟨a17, q16, e18, h⟩ := iC h
  refine y_V (pc := 42) (M2 := mX5_blame) (As := [.int 3, .int l2]) (okX5_blame e18) mvX5_blame mlRX5_84 dX5_takeLiteral_42 ⟨by decide, by decide⟩ rfl rfl rfl zrest0 a17 ?_
  refine z_goto (pc := 45) (tgt := 56) dX5_takeLiteral_45 (by decide) ?_
  exact y_ret (pc := 56) dX5_takeLiteral_56 rfl h
def fX5_takeLiteral (l0 : Nat) (l1 : Int32) (l2 : Int32) (s : zS) : Option zS :=
  bnd (qI s 5 l0 5) fun x1 =>
  bnd (wI s 5 l0 5 (x1 + 1)) fun s4 =>
  bnd (qI s4 5 l0 6) fun x7 =>
  bnd (wI s4 5 l0 6 (x7 + 1)) fun s10 =>
  bnd (qI s10 5 l0 5) fun x13 =>
  if 40 < x13 then
    fX5_takeLiteral_39  l0 l2 s10
  else
    bnd (qI s10 5 l0 6) fun x16 =>
    if x16 ≤ 2000 then
      bnd (qR s10 5 l0 2) fun x19 =>
      bnd (cl s10 7 x19 (fX7_add x19 l1 s10)) fun q22 =>
      some q22
    else
      fX5_takeLiteral_39  l0 l2 s10
set_option maxRecDepth 100000 in
set_option maxHeartbeats 4000000 in
theorem okX5_takeLiteral {E : zE} {l0 : Nat} {l1 : Int32} {l2 : Int32} {s : zS} {t : zS} (h : fX5_takeLiteral l0 l1 l2 s = some t) : Cv E mX5_takeLiteral [.ref l0, .int l1, .int l2] s t := by
  refine Ct.of (ls := [(0, .ref l0), (1, .int l1), (2, .int l2)]) (by decide) rfl (Nat.le_of_ble_eq_true rfl) ?_
  show Z E mX5_takeLiteral 0 [(0, .ref l0), (1, .int l1), (2, .int l2)] [] s (0, 0) (zRv E mX5_takeLiteral t)
  unfold fX5_takeLiteral at h
  refine z_aload_n (pc := 0) 0 rfl dX5_takeLiteral_0 rfl ?_
  refine z_dup (pc := 1) dX5_takeLiteral_1 (fun _ => rfl) ?_
  obtain ⟨a2, x1, e3, h⟩ := iI h
  refine y_getI (pc := 2) flRX5_18 dX5_takeLiteral_2 rfl a2 e3 ?_
  refine z_iconst (pc := 5) (v := 1) dX5_takeLiteral_5 (by decide) ?_
  refine z_iadd (pc := 6) dX5_takeLiteral_6 ?_
  obtain ⟨a5, s4, e6, h⟩ := jI h
  refine y_putI (pc := 7) flRX5_18 dX5_takeLiteral_7 rfl (Or.inl rfl) a5 e6 ?_
  refine z_aload_n (pc := 10) 0 rfl dX5_takeLiteral_10 rfl ?_
  refine z_dup (pc := 11) dX5_takeLiteral_11 (fun _ => rfl) ?_
  obtain ⟨a8, x7, e9, h⟩ := iI h
  refine y_getI (pc := 12) flRX5_21 dX5_takeLiteral_12 rfl a8 e9 ?_
  refine z_iconst (pc := 15) (v := 1) dX5_takeLiteral_15 (by decide) ?_
  refine z_iadd (pc := 16) dX5_takeLiteral_16 ?_
  obtain ⟨a11, s10, e12, h⟩ := jI h
  refine y_putI (pc := 17) flRX5_21 dX5_takeLiteral_17 rfl (Or.inl rfl) a11 e12 ?_
  refine z_aload_n (pc := 20) 0 rfl dX5_takeLiteral_20 rfl ?_
  obtain ⟨a14, x13, e15, h⟩ := iI h
  refine y_getI (pc := 21) flRX5_18 dX5_takeLiteral_21 rfl a14 e15 ?_
  refine z_bipush (pc := 24) (v := 40) dX5_takeLiteral_24 (by decide) ?_
  refine z_icmp_gt (pc := 26) (tgt := 39) dX5_takeLiteral_26 (by decide) (fun hc => ?_) (fun hc => ?_)
  · replace h := ifp hc h
    exact z_sub [0, 2] rfl (bX5_takeLiteral_39  h)
  · replace h := ifn hc h
    refine z_aload_n (pc := 29) 0 rfl dX5_takeLiteral_29 rfl ?_
    obtain ⟨a17, x16, e18, h⟩ := iI h
    refine y_getI (pc := 30) flRX5_21 dX5_takeLiteral_30 rfl a17 e18 ?_
    refine z_sipush (pc := 33) (v := 2000) dX5_takeLiteral_33 (by decide) ?_
    refine z_icmp_le (pc := 36) (tgt := 48) dX5_takeLiteral_36 (by decide) (fun hc => ?_) (fun hc => ?_)
    · replace h := ifp hc h
      refine z_aload_n (pc := 48) 0 rfl dX5_takeLiteral_48 rfl ?_
      obtain ⟨a20, x19, e21, h⟩ := iR h
      refine y_getR (pc := 49) flRX5_43 dX5_takeLiteral_49 rfl a20 e21 ?_
      refine z_iload_n (pc := 52) 1 rfl dX5_takeLiteral_52 rfl ?_
      obtain ⟨a23, q22, e24, h⟩ := iC h
      refine y_V (pc := 53) (M2 := mX7_add) (As := [.int l1]) (okX7_add e24) mvX7_add mlRX5_131 dX5_takeLiteral_53 ⟨by decide, by decide⟩ rfl rfl rfl zrest0 a23 ?_
      exact y_ret (pc := 56) dX5_takeLiteral_56 rfl h
    · replace h := ifn hc h
      exact z_sub [0, 2] rfl (bX5_takeLiteral_39  h)
def fX5_readRow_82 (k7 : Nat → Int32 → Int32 → zS → Option zS) (l0 : Nat) (l1 : Int32) (l2 : Int32) (s : zS) : Option zS :=
  k7 l0 l1 (l2 + 1) s
set_option maxRecDepth 100000 in
set_option maxHeartbeats 4000000 in
theorem bX5_readRow_82 {E : zE} {k7 : Nat → Int32 → Int32 → zS → Option zS} (hk7 : ∀ {l0 : Nat} {l1 : Int32} {l2 : Int32} {s : zS} {q : zS}, k7 l0 l1 l2 s = some q → Z E mX5_readRow 7 [(0, .ref l0), (1, .int l1), (2, .int l2)] [] s (0, 0) (zRv E mX5_readRow q)) {l0 : Nat} {l1 : Int32} {l2 : Int32} {s : zS} {q : zS} (h : fX5_readRow_82 k7 l0 l1 l2 s = some q) : Z E mX5_readRow 82 [(0, .ref l0), (1, .int l1), (2, .int l2)] [] s (0, 0) (zRv E mX5_readRow q) := by
  unfold fX5_readRow_82 at h
  refine z_iinc (pc := 82) (v := (l2 + 1)) (ls' := [(2, .int (l2 + 1)), (0, .ref l0), (1, .int l1)]) 2 rfl rfl dX5_readRow_82 (by decide) (fun _ => rfl) ?_
  refine z_goto (pc := 85) (tgt := 7) dX5_readRow_85 (by decide) ?_
  exact z_sub [1, 2, 0] rfl (hk7 h)
def fX5_readRow_7  (n : Nat) : Nat → Int32 → Int32 → zS → Option zS := match n with
  | 0 => fun _ _ _ _ => none
  | n + 1 => fun l0 l1 l2 s =>
    if 40 < l2 then
      some s
    else
      bnd (qI s 5 l0 7) fun x4 =>
      if x4 = 0 then
        bnd (qR s 5 l0 0) fun x7 =>
        bnd (cl s 8 x7 (fX8_next x7  s)) fun q10 =>
        bnd (cl q10.2 5 l0 (fX5_faultOfToken l0 l1 q10.2)) fun q13 =>
        if q13.1 = 0 then
          bnd (qR q13.2 5 l0 0) fun x16 =>
          bnd (cl q13.2 8 x16 (fX8_number x16  q13.2)) fun q19 =>
          if q19.1 = 0 then
            some q19.2
          else
            bnd (qR q19.2 5 l0 0) fun x22 =>
            bnd (cl q19.2 8 x22 (fX8_number x22  q19.2)) fun q25 =>
            bnd (qR q25.2 5 l0 0) fun x28 =>
            bnd (cl q25.2 8 x28 (fX8_start x28  q25.2)) fun q31 =>
            bnd (cl q31.2 5 l0 (fX5_takeLiteral l0 q25.1 q31.1 q31.2)) fun q34 =>
            fX5_readRow_82 ((fX5_readRow_7  n)) l0 l1 l2 q34
        else
          bnd (qR q13.2 5 l0 0) fun x37 =>
          bnd (cl q13.2 8 x37 (fX8_start x37  q13.2)) fun q40 =>
          bnd (cl q40.2 5 l0 (fX5_blame l0 q13.1 q40.1 q40.2)) fun q43 =>
          fX5_readRow_82 ((fX5_readRow_7  n)) l0 l1 l2 q43
      else
        some s
set_option maxRecDepth 100000 in
set_option maxHeartbeats 4000000 in
theorem bX5_readRow_7 {E : zE}  : ∀ (n : Nat) {l0 : Nat} {l1 : Int32} {l2 : Int32} {s : zS} {q : zS}, fX5_readRow_7  n l0 l1 l2 s = some q → Z E mX5_readRow 7 [(0, .ref l0), (1, .int l1), (2, .int l2)] [] s (0, 0) (zRv E mX5_readRow q) := by
  intro n
  induction n with
  | zero => intro l0 l1 l2 s q h; cases h
  | succ n ih =>
    intro l0 l1 l2 s q h
    unfold fX5_readRow_7 at h
    refine z_iload_n (pc := 7) 2 rfl dX5_readRow_7 rfl ?_
    refine z_bipush (pc := 8) (v := 40) dX5_readRow_8 (by decide) ?_
    refine z_icmp_gt (pc := 10) (tgt := 88) dX5_readRow_10 (by decide) (fun hc => ?_) (fun hc => ?_)
    · replace h := ifp hc h
      exact y_ret (pc := 88) dX5_readRow_88 rfl h
    · replace h := ifn hc h
      refine z_aload_n (pc := 13) 0 rfl dX5_readRow_13 rfl ?_
      obtain ⟨a5, x4, e6, h⟩ := iI h
      refine y_getI (pc := 14) flRX5_24 dX5_readRow_14 rfl a5 e6 ?_
      refine z_if_ne (pc := 17) (tgt := 88) dX5_readRow_17 (by decide) (fun hc => ?_) (fun hc => ?_)
      · replace h := ifn hc h
        exact y_ret (pc := 88) dX5_readRow_88 rfl h
      · replace h := ifp hc h
        refine z_aload_n (pc := 20) 0 rfl dX5_readRow_20 rfl ?_
        obtain ⟨a8, x7, e9, h⟩ := iR h
        refine y_getR (pc := 21) flRX5_35 dX5_readRow_21 rfl a8 e9 ?_
        obtain ⟨a11, q10, e12, h⟩ := iC h
        refine y_Vi (pc := 24) (M2 := mX8_next) (As := []) (okX8_next e12) mvX8_next mlRX5_76 dX5_readRow_24 ⟨by decide, by decide⟩ rfl rfl rfl zrest0 a11 ?_
        refine z_pop (pc := 27) dX5_readRow_27 (fun _ => rfl) ?_
        refine z_aload_n (pc := 28) 0 rfl dX5_readRow_28 rfl ?_
        refine z_iload_n (pc := 29) 1 rfl dX5_readRow_29 rfl ?_
        obtain ⟨a14, q13, e15, h⟩ := iC h
        refine y_Vi (pc := 30) (M2 := mX5_faultOfToken) (As := [.int l1]) (okX5_faultOfToken e15) mvX5_faultOfToken mlRX5_114 dX5_readRow_30 ⟨by decide, by decide⟩ rfl rfl rfl zrest0 a14 ?_
        refine z_istore_n (pc := 33) (ls' := [(3, .int q13.1), (0, .ref l0), (1, .int l1), (2, .int l2)]) dX5_readRow_33 rfl (by decide) (fun _ => rfl) ?_
        refine z_iload_n (pc := 34) 0 rfl dX5_readRow_34 rfl ?_
        refine z_if_eq (pc := 35) (tgt := 53) dX5_readRow_35 (by decide) (fun hc => ?_) (fun hc => ?_)
        · replace h := ifp hc h
          refine z_aload_n (pc := 53) 1 rfl dX5_readRow_53 rfl ?_
          obtain ⟨a17, x16, e18, h⟩ := iR h
          refine y_getR (pc := 54) flRX5_35 dX5_readRow_54 rfl a17 e18 ?_
          obtain ⟨a20, q19, e21, h⟩ := iC h
          refine y_Vi (pc := 57) (M2 := mX8_number) (As := []) (okX8_number e21) mvX8_number mlRX5_117 dX5_readRow_57 ⟨by decide, by decide⟩ rfl rfl rfl zrest0 a20 ?_
          refine z_if_ne (pc := 60) (tgt := 64) dX5_readRow_60 (by decide) (fun hc => ?_) (fun hc => ?_)
          · replace h := ifn hc h
            refine z_aload_n (pc := 64) 1 rfl dX5_readRow_64 rfl ?_
            refine z_aload_n (pc := 65) 1 rfl dX5_readRow_65 rfl ?_
            obtain ⟨a23, x22, e24, h⟩ := iR h
            refine y_getR (pc := 66) flRX5_35 dX5_readRow_66 rfl a23 e24 ?_
            obtain ⟨a26, q25, e27, h⟩ := iC h
            refine y_Vi (pc := 69) (M2 := mX8_number) (As := []) (okX8_number e27) mvX8_number mlRX5_117 dX5_readRow_69 ⟨by decide, by decide⟩ rfl rfl rfl (fun _ => Nat.le_of_ble_eq_true rfl) a26 ?_
            refine z_aload_n (pc := 72) 1 rfl dX5_readRow_72 rfl ?_
            obtain ⟨a29, x28, e30, h⟩ := iR h
            refine y_getR (pc := 73) flRX5_35 dX5_readRow_73 rfl a29 e30 ?_
            obtain ⟨a32, q31, e33, h⟩ := iC h
            refine y_Vi (pc := 76) (M2 := mX8_start) (As := []) (okX8_start e33) mvX8_start mlRX5_80 dX5_readRow_76 ⟨by decide, by decide⟩ rfl rfl rfl (fun _ => Nat.le_of_ble_eq_true rfl) a32 ?_
            obtain ⟨a35, q34, e36, h⟩ := iC h
            refine y_V (pc := 79) (M2 := mX5_takeLiteral) (As := [.int q25.1, .int q31.1]) (okX5_takeLiteral e36) mvX5_takeLiteral mlRX5_128 dX5_readRow_79 ⟨by decide, by decide⟩ rfl rfl rfl zrest0 a35 ?_
            exact z_sub [1, 2, 3] rfl (bX5_readRow_82 (fun h => ih h) h)
          · replace h := ifp hc h
            exact y_ret (pc := 63) dX5_readRow_63 rfl h
        · replace h := ifn hc h
          refine z_aload_n (pc := 38) 1 rfl dX5_readRow_38 rfl ?_
          refine z_iload_n (pc := 39) 0 rfl dX5_readRow_39 rfl ?_
          refine z_aload_n (pc := 40) 1 rfl dX5_readRow_40 rfl ?_
          obtain ⟨a38, x37, e39, h⟩ := iR h
          refine y_getR (pc := 41) flRX5_35 dX5_readRow_41 rfl a38 e39 ?_
          obtain ⟨a41, q40, e42, h⟩ := iC h
          refine y_Vi (pc := 44) (M2 := mX8_start) (As := []) (okX8_start e42) mvX8_start mlRX5_80 dX5_readRow_44 ⟨by decide, by decide⟩ rfl rfl rfl (fun _ => Nat.le_of_ble_eq_true rfl) a41 ?_
          obtain ⟨a44, q43, e45, h⟩ := iC h
          refine y_V (pc := 47) (M2 := mX5_blame) (As := [.int q13.1, .int q40.1]) (okX5_blame e45) mvX5_blame mlRX5_84 dX5_readRow_47 ⟨by decide, by decide⟩ rfl rfl rfl zrest0 a44 ?_
          refine z_goto (pc := 50) (tgt := 82) dX5_readRow_50 (by decide) ?_
          exact z_sub [1, 2, 3] rfl (bX5_readRow_82 (fun h => ih h) h)
def fX5_readRow (l0 : Nat) (l1 : Int32) (s : zS) : Option zS :=
  bnd (wI s 5 l0 5 0) fun s1 =>
  fX5_readRow_7  zfu l0 l1 0 s1
set_option maxRecDepth 100000 in
set_option maxHeartbeats 4000000 in
theorem okX5_readRow {E : zE} {l0 : Nat} {l1 : Int32} {s : zS} {t : zS} (h : fX5_readRow l0 l1 s = some t) : Cv E mX5_readRow [.ref l0, .int l1] s t := by
  refine Ct.of (ls := [(0, .ref l0), (1, .int l1)]) (by decide) rfl (Nat.le_of_ble_eq_true rfl) ?_
  show Z E mX5_readRow 0 [(0, .ref l0), (1, .int l1)] [] s (0, 0) (zRv E mX5_readRow t)
  unfold fX5_readRow at h
  refine z_aload_n (pc := 0) 0 rfl dX5_readRow_0 rfl ?_
  refine z_iconst (pc := 1) (v := 0) dX5_readRow_1 (by decide) ?_
  obtain ⟨a2, s1, e3, h⟩ := jI h
  refine y_putI (pc := 2) flRX5_18 dX5_readRow_2 rfl (Or.inl rfl) a2 e3 ?_
  refine z_iconst (pc := 5) (v := 0) dX5_readRow_5 (by decide) ?_
  refine z_istore_n (pc := 6) (ls' := [(2, .int 0), (0, .ref l0), (1, .int l1)]) dX5_readRow_6 rfl (by decide) (fun _ => rfl) ?_
  exact z_sub [1, 2, 0] rfl (bX5_readRow_7  _ h)
def fX7_closeRow_42  (t0 : Int32) (t1 : Int32) (t2 : Nat) (s : zS) : Option zS :=
  bnd (cl s 6 t2 (fX6_put t2 t1 t0 s)) fun q25 =>
  some q25
set_option maxRecDepth 100000 in
set_option maxHeartbeats 4000000 in
theorem bX7_closeRow_42 {E : zE}   {t0 : Int32} {t1 : Int32} {t2 : Nat} {s : zS} {q : zS} (h : fX7_closeRow_42  t0 t1 t2 s = some q) : Z E mX7_closeRow 42 [] [.int t0, .int t1, .ref t2] s (0, 0) (zRv E mX7_closeRow q) := by
  unfold fX7_closeRow_42 at h
  obtain ⟨a26, q25, e27, h⟩ := iC h
  refine y_V (pc := 42) (M2 := mX6_put) (As := [.int t1, .int t0]) (okX6_put e27) mvX6_put mlRX7_40 dX7_closeRow_42 ⟨by decide, by decide⟩ rfl rfl rfl zrest0 a26 ?_
  exact y_ret (pc := 45) dX7_closeRow_45 rfl h
def fX7_closeRow (l0 : Nat) (l1 : Int32) (s : zS) : Option zS :=
  bnd (qI s 7 l0 3) fun x1 =>
  bnd (wI s 7 l0 3 (x1 + 1)) fun s4 =>
  bnd (qR s4 7 l0 1) fun x7 =>
  bnd (qI s4 7 l0 3) fun x10 =>
  bnd (qI s4 7 l0 4) fun x13 =>
  bnd (cl s4 6 x7 (fX6_put x7 x10 x13 s4)) fun q16 =>
  bnd (qR q16 7 l0 2) fun x19 =>
  bnd (qI q16 7 l0 3) fun x22 =>
  if l1 = 0 then
    fX7_closeRow_42  0 x22 x19 q16
  else
    fX7_closeRow_42  1 x22 x19 q16
set_option maxRecDepth 100000 in
set_option maxHeartbeats 4000000 in
theorem okX7_closeRow {E : zE} {l0 : Nat} {l1 : Int32} {s : zS} {t : zS} (h : fX7_closeRow l0 l1 s = some t) : Cv E mX7_closeRow [.ref l0, .int l1] s t := by
  refine Ct.of (ls := [(0, .ref l0), (1, .int l1)]) (by decide) rfl (Nat.le_of_ble_eq_true rfl) ?_
  show Z E mX7_closeRow 0 [(0, .ref l0), (1, .int l1)] [] s (0, 0) (zRv E mX7_closeRow t)
  unfold fX7_closeRow at h
  refine z_aload_n (pc := 0) 0 rfl dX7_closeRow_0 rfl ?_
  refine z_dup (pc := 1) dX7_closeRow_1 (fun _ => rfl) ?_
  obtain ⟨a2, x1, e3, h⟩ := iI h
  refine y_getI (pc := 2) flRX7_26 dX7_closeRow_2 rfl a2 e3 ?_
  refine z_iconst (pc := 5) (v := 1) dX7_closeRow_5 (by decide) ?_
  refine z_iadd (pc := 6) dX7_closeRow_6 ?_
  obtain ⟨a5, s4, e6, h⟩ := jI h
  refine y_putI (pc := 7) flRX7_26 dX7_closeRow_7 rfl (Or.inl rfl) a5 e6 ?_
  refine z_aload_n (pc := 10) 0 rfl dX7_closeRow_10 rfl ?_
  obtain ⟨a8, x7, e9, h⟩ := iR h
  refine y_getR (pc := 11) flRX7_20 dX7_closeRow_11 rfl a8 e9 ?_
  refine z_aload_n (pc := 14) 0 rfl dX7_closeRow_14 rfl ?_
  obtain ⟨a11, x10, e12, h⟩ := iI h
  refine y_getI (pc := 15) flRX7_26 dX7_closeRow_15 rfl a11 e12 ?_
  refine z_aload_n (pc := 18) 0 rfl dX7_closeRow_18 rfl ?_
  obtain ⟨a14, x13, e15, h⟩ := iI h
  refine y_getI (pc := 19) flRX7_30 dX7_closeRow_19 rfl a14 e15 ?_
  obtain ⟨a17, q16, e18, h⟩ := iC h
  refine y_V (pc := 22) (M2 := mX6_put) (As := [.int x10, .int x13]) (okX6_put e18) mvX6_put mlRX7_40 dX7_closeRow_22 ⟨by decide, by decide⟩ rfl rfl rfl zrest0 a17 ?_
  refine z_aload_n (pc := 25) 0 rfl dX7_closeRow_25 rfl ?_
  obtain ⟨a20, x19, e21, h⟩ := iR h
  refine y_getR (pc := 26) flRX7_23 dX7_closeRow_26 rfl a20 e21 ?_
  refine z_aload_n (pc := 29) 0 rfl dX7_closeRow_29 rfl ?_
  obtain ⟨a23, x22, e24, h⟩ := iI h
  refine y_getI (pc := 30) flRX7_26 dX7_closeRow_30 rfl a23 e24 ?_
  refine z_iload_n (pc := 33) 1 rfl dX7_closeRow_33 rfl ?_
  refine z_if_eq (pc := 34) (tgt := 41) dX7_closeRow_34 (by decide) (fun hc => ?_) (fun hc => ?_)
  · replace h := ifp hc h
    refine z_iconst (pc := 41) (v := 0) dX7_closeRow_41 (by decide) ?_
    exact z_sub [] rfl (bX7_closeRow_42  h)
  · replace h := ifn hc h
    refine z_iconst (pc := 37) (v := 1) dX7_closeRow_37 (by decide) ?_
    refine z_goto (pc := 38) (tgt := 42) dX7_closeRow_38 (by decide) ?_
    exact z_sub [] rfl (bX7_closeRow_42  h)
def fX7_setVariables (l0 : Nat) (l1 : Int32) (s : zS) : Option zS :=
  bnd (wI s 7 l0 5 l1) fun s1 =>
  some s1
set_option maxRecDepth 100000 in
set_option maxHeartbeats 4000000 in
theorem okX7_setVariables {E : zE} {l0 : Nat} {l1 : Int32} {s : zS} {t : zS} (h : fX7_setVariables l0 l1 s = some t) : Cv E mX7_setVariables [.ref l0, .int l1] s t := by
  refine Ct.of (ls := [(0, .ref l0), (1, .int l1)]) (by decide) rfl (Nat.le_of_ble_eq_true rfl) ?_
  show Z E mX7_setVariables 0 [(0, .ref l0), (1, .int l1)] [] s (0, 0) (zRv E mX7_setVariables t)
  unfold fX7_setVariables at h
  refine z_aload_n (pc := 0) 0 rfl dX7_setVariables_0 rfl ?_
  refine z_iload_n (pc := 1) 1 rfl dX7_setVariables_1 rfl ?_
  obtain ⟨a2, s1, e3, h⟩ := jI h
  refine y_putI (pc := 2) flRX7_33 dX7_setVariables_2 rfl (Or.inl rfl) a2 e3 ?_
  exact y_ret (pc := 5) dX7_setVariables_5 rfl h
def fX5_readFormula_83  (l0 : Nat) (s : zS) : Option zS :=
  bnd (qI s 5 l0 7) fun x22 =>
  if x22 = 0 then
    bnd (qR s 5 l0 0) fun x25 =>
    bnd (cl s 8 x25 (fX8_next x25  s)) fun q28 =>
    if q28.1 = 0 then
      some q28.2
    else
      bnd (qR q28.2 5 l0 0) fun x31 =>
      bnd (cl q28.2 8 x31 (fX8_start x31  q28.2)) fun q34 =>
      bnd (cl q34.2 5 l0 (fX5_blame l0 1 q34.1 q34.2)) fun q37 =>
      some q37
  else
    some s
set_option maxRecDepth 100000 in
set_option maxHeartbeats 4000000 in
theorem bX5_readFormula_83 {E : zE}   {l0 : Nat} {s : zS} {q : zS} (h : fX5_readFormula_83  l0 s = some q) : Z E mX5_readFormula 83 [(0, .ref l0)] [] s (0, 0) (zRv E mX5_readFormula q) := by
  unfold fX5_readFormula_83 at h
  refine z_aload_n (pc := 83) 0 rfl dX5_readFormula_83 rfl ?_
  obtain ⟨a23, x22, e24, h⟩ := iI h
  refine y_getI (pc := 84) flRX5_24 dX5_readFormula_84 rfl a23 e24 ?_
  refine z_if_ne (pc := 87) (tgt := 112) dX5_readFormula_87 (by decide) (fun hc => ?_) (fun hc => ?_)
  · replace h := ifn hc h
    exact y_ret (pc := 112) dX5_readFormula_112 rfl h
  · replace h := ifp hc h
    refine z_aload_n (pc := 90) 0 rfl dX5_readFormula_90 rfl ?_
    obtain ⟨a26, x25, e27, h⟩ := iR h
    refine y_getR (pc := 91) flRX5_35 dX5_readFormula_91 rfl a26 e27 ?_
    obtain ⟨a29, q28, e30, h⟩ := iC h
    refine y_Vi (pc := 94) (M2 := mX8_next) (As := []) (okX8_next e30) mvX8_next mlRX5_76 dX5_readFormula_94 ⟨by decide, by decide⟩ rfl rfl rfl zrest0 a29 ?_
    refine z_if_eq (pc := 97) (tgt := 112) dX5_readFormula_97 (by decide) (fun hc => ?_) (fun hc => ?_)
    · replace h := ifp hc h
      exact y_ret (pc := 112) dX5_readFormula_112 rfl h
    · replace h := ifn hc h
      refine z_aload_n (pc := 100) 0 rfl dX5_readFormula_100 rfl ?_
      refine z_iconst (pc := 101) (v := 1) dX5_readFormula_101 (by decide) ?_
      refine z_aload_n (pc := 102) 0 rfl dX5_readFormula_102 rfl ?_
      obtain ⟨a32, x31, e33, h⟩ := iR h
      refine y_getR (pc := 103) flRX5_35 dX5_readFormula_103 rfl a32 e33 ?_
      obtain ⟨a35, q34, e36, h⟩ := iC h
      refine y_Vi (pc := 106) (M2 := mX8_start) (As := []) (okX8_start e36) mvX8_start mlRX5_80 dX5_readFormula_106 ⟨by decide, by decide⟩ rfl rfl rfl (fun _ => Nat.le_of_ble_eq_true rfl) a35 ?_
      obtain ⟨a38, q37, e39, h⟩ := iC h
      refine y_V (pc := 109) (M2 := mX5_blame) (As := [.int 1, .int q34.1]) (okX5_blame e39) mvX5_blame mlRX5_84 dX5_readFormula_109 ⟨by decide, by decide⟩ rfl rfl rfl zrest0 a38 ?_
      exact y_ret (pc := 112) dX5_readFormula_112 rfl h
def fX5_readFormula_49  (n : Nat) : Nat → Int32 → Int32 → Int32 → zS → Option zS := match n with
  | 0 => fun _ _ _ _ _ => none
  | n + 1 => fun l0 l4 l5 l6 s =>
    if l5 < l6 then
      fX5_readFormula_83  l0 s
    else
      bnd (qI s 5 l0 7) fun x22 =>
      if x22 = 0 then
        bnd (cl s 5 l0 (fX5_readRow l0 l4 s)) fun q25 =>
        bnd (qR q25 5 l0 2) fun x28 =>
        bnd (cl q25 7 x28 (fX7_closeRow x28 0 q25)) fun q31 =>
        (fX5_readFormula_49  n) l0 l4 l5 (l6 + 1) q31
      else
        fX5_readFormula_83  l0 s
set_option maxRecDepth 100000 in
set_option maxHeartbeats 4000000 in
theorem bX5_readFormula_49 {E : zE}  : ∀ (n : Nat) {l0 : Nat} {l4 : Int32} {l5 : Int32} {l6 : Int32} {s : zS} {q : zS}, fX5_readFormula_49  n l0 l4 l5 l6 s = some q → Z E mX5_readFormula 49 [(0, .ref l0), (4, .int l4), (5, .int l5), (6, .int l6)] [] s (0, 0) (zRv E mX5_readFormula q) := by
  intro n
  induction n with
  | zero => intro l0 l4 l5 l6 s q h; cases h
  | succ n ih =>
    intro l0 l4 l5 l6 s q h
    unfold fX5_readFormula_49 at h
    refine z_iload (pc := 49) 3 rfl dX5_readFormula_49 ?_
    refine z_iload (pc := 51) 2 rfl dX5_readFormula_51 ?_
    refine z_icmp_gt (pc := 53) (tgt := 83) dX5_readFormula_53 (by decide) (fun hc => ?_) (fun hc => ?_)
    · replace h := ifp hc h
      exact z_sub [0] rfl (bX5_readFormula_83  h)
    · replace h := ifn hc h
      refine z_aload_n (pc := 56) 0 rfl dX5_readFormula_56 rfl ?_
      obtain ⟨a23, x22, e24, h⟩ := iI h
      refine y_getI (pc := 57) flRX5_24 dX5_readFormula_57 rfl a23 e24 ?_
      refine z_if_ne (pc := 60) (tgt := 83) dX5_readFormula_60 (by decide) (fun hc => ?_) (fun hc => ?_)
      · replace h := ifn hc h
        exact z_sub [0] rfl (bX5_readFormula_83  h)
      · replace h := ifp hc h
        refine z_aload_n (pc := 63) 0 rfl dX5_readFormula_63 rfl ?_
        refine z_iload (pc := 64) 1 rfl dX5_readFormula_64 ?_
        obtain ⟨a26, q25, e27, h⟩ := iC h
        refine y_V (pc := 66) (M2 := mX5_readRow) (As := [.int l4]) (okX5_readRow e27) mvX5_readRow mlRX5_69 dX5_readFormula_66 ⟨by decide, by decide⟩ rfl rfl rfl zrest0 a26 ?_
        refine z_aload_n (pc := 69) 0 rfl dX5_readFormula_69 rfl ?_
        obtain ⟨a29, x28, e30, h⟩ := iR h
        refine y_getR (pc := 70) flRX5_43 dX5_readFormula_70 rfl a29 e30 ?_
        refine z_iconst (pc := 73) (v := 0) dX5_readFormula_73 (by decide) ?_
        obtain ⟨a32, q31, e33, h⟩ := iC h
        refine y_V (pc := 74) (M2 := mX7_closeRow) (As := [.int 0]) (okX7_closeRow e33) mvX7_closeRow mlRX5_72 dX5_readFormula_74 ⟨by decide, by decide⟩ rfl rfl rfl zrest0 a32 ?_
        refine z_iinc (pc := 77) (v := (l6 + 1)) (ls' := [(6, .int (l6 + 1)), (0, .ref l0), (4, .int l4), (5, .int l5)]) 3 rfl rfl dX5_readFormula_77 (by decide) (fun _ => rfl) ?_
        refine z_goto (pc := 80) (tgt := 49) dX5_readFormula_80 (by decide) ?_
        exact z_sub [1, 2, 3, 0] rfl (ih h)
def fX5_readFormula (l0 : Nat) (l1 : Nat) (l2 : Int32) (l3 : Nat) (s : zS) : Option zS :=
  bnd (cl s 5 l0 (fX5_begin l0 l1 l2 l3 s)) fun q1 =>
  bnd (cl q1 5 l0 (fX5_expectWord l0 0 q1)) fun q4 =>
  bnd (cl q4 5 l0 (fX5_expectWord l0 1 q4)) fun q7 =>
  bnd (cl q7 5 l0 (fX5_expectNumber l0 150 q7)) fun q10 =>
  bnd (cl q10.2 5 l0 (fX5_expectNumber l0 300 q10.2)) fun q13 =>
  bnd (qR q13.2 5 l0 2) fun x16 =>
  bnd (cl q13.2 7 x16 (fX7_setVariables x16 q10.1 q13.2)) fun q19 =>
  fX5_readFormula_49  zfu l0 q10.1 q13.1 1 q19
set_option maxRecDepth 100000 in
set_option maxHeartbeats 4000000 in
theorem okX5_readFormula {E : zE} {l0 : Nat} {l1 : Nat} {l2 : Int32} {l3 : Nat} {s : zS} {t : zS} (h : fX5_readFormula l0 l1 l2 l3 s = some t) : Cv E mX5_readFormula [.ref l0, .ref l1, .int l2, .ref l3] s t := by
  refine Ct.of (ls := [(0, .ref l0), (1, .ref l1), (2, .int l2), (3, .ref l3)]) (by decide) rfl (Nat.le_of_ble_eq_true rfl) ?_
  show Z E mX5_readFormula 0 [(0, .ref l0), (1, .ref l1), (2, .int l2), (3, .ref l3)] [] s (0, 0) (zRv E mX5_readFormula t)
  unfold fX5_readFormula at h
  refine z_aload_n (pc := 0) 0 rfl dX5_readFormula_0 rfl ?_
  refine z_aload_n (pc := 1) 1 rfl dX5_readFormula_1 rfl ?_
  refine z_iload_n (pc := 2) 2 rfl dX5_readFormula_2 rfl ?_
  refine z_aload_n (pc := 3) 3 rfl dX5_readFormula_3 rfl ?_
  obtain ⟨a2, q1, e3, h⟩ := iC h
  refine y_V (pc := 4) (M2 := mX5_begin) (As := [.ref l1, .int l2, .ref l3]) (okX5_begin e3) mvX5_begin mlRX5_47 dX5_readFormula_4 ⟨by decide, by decide⟩ rfl rfl rfl zrest0 a2 ?_
  refine z_aload_n (pc := 7) 0 rfl dX5_readFormula_7 rfl ?_
  refine z_ldcS (pc := 8) (k := 0) (fun E U h => h.2.1.1) dX5_readFormula_8 ?_
  obtain ⟨a5, q4, e6, h⟩ := iC h
  refine y_V (pc := 10) (M2 := mX5_expectWord) (As := [.retAddr 0]) (okX5_expectWord e6) mvX5_expectWord mlRX5_53 dX5_readFormula_10 ⟨by decide, by decide⟩ rfl rfl rfl zrest0 a5 ?_
  refine z_aload_n (pc := 13) 0 rfl dX5_readFormula_13 rfl ?_
  refine z_ldcS (pc := 14) (k := 1) (fun E U h => h.2.1.2.1) dX5_readFormula_14 ?_
  obtain ⟨a8, q7, e9, h⟩ := iC h
  refine y_V (pc := 16) (M2 := mX5_expectWord) (As := [.retAddr 1]) (okX5_expectWord e9) mvX5_expectWord mlRX5_53 dX5_readFormula_16 ⟨by decide, by decide⟩ rfl rfl rfl zrest0 a8 ?_
  refine z_aload_n (pc := 19) 0 rfl dX5_readFormula_19 rfl ?_
  refine z_sipush (pc := 20) (v := 150) dX5_readFormula_20 (by decide) ?_
  obtain ⟨a11, q10, e12, h⟩ := iC h
  refine y_Vi (pc := 23) (M2 := mX5_expectNumber) (As := [.int 150]) (okX5_expectNumber e12) mvX5_expectNumber mlRX5_59 dX5_readFormula_23 ⟨by decide, by decide⟩ rfl rfl rfl zrest0 a11 ?_
  refine z_istore (pc := 26) (ls' := [(4, .int q10.1), (0, .ref l0), (1, .ref l1), (2, .int l2), (3, .ref l3)]) dX5_readFormula_26 (by decide) (fun _ => rfl) ?_
  refine z_aload_n (pc := 28) 1 rfl dX5_readFormula_28 rfl ?_
  refine z_sipush (pc := 29) (v := 300) dX5_readFormula_29 (by decide) ?_
  obtain ⟨a14, q13, e15, h⟩ := iC h
  refine y_Vi (pc := 32) (M2 := mX5_expectNumber) (As := [.int 300]) (okX5_expectNumber e15) mvX5_expectNumber mlRX5_59 dX5_readFormula_32 ⟨by decide, by decide⟩ rfl rfl rfl zrest0 a14 ?_
  refine z_istore (pc := 35) (ls' := [(5, .int q13.1), (4, .int q10.1), (0, .ref l0), (1, .ref l1), (2, .int l2), (3, .ref l3)]) dX5_readFormula_35 (by decide) (fun _ => rfl) ?_
  refine z_aload_n (pc := 37) 2 rfl dX5_readFormula_37 rfl ?_
  obtain ⟨a17, x16, e18, h⟩ := iR h
  refine y_getR (pc := 38) flRX5_43 dX5_readFormula_38 rfl a17 e18 ?_
  refine z_iload (pc := 41) 1 rfl dX5_readFormula_41 ?_
  obtain ⟨a20, q19, e21, h⟩ := iC h
  refine y_V (pc := 43) (M2 := mX7_setVariables) (As := [.int q10.1]) (okX7_setVariables e21) mvX7_setVariables mlRX5_63 dX5_readFormula_43 ⟨by decide, by decide⟩ rfl rfl rfl zrest0 a20 ?_
  refine z_iconst (pc := 46) (v := 1) dX5_readFormula_46 (by decide) ?_
  refine z_istore (pc := 47) (ls' := [(6, .int 1), (5, .int q13.1), (4, .int q10.1), (0, .ref l0), (1, .ref l1), (2, .int l2), (3, .ref l3)]) dX5_readFormula_47 (by decide) (fun _ => rfl) ?_
  exact z_sub [3, 2, 1, 0] rfl (bX5_readFormula_49  _ h)
def fX5_blameStepTooMany_34  (l0 : Nat) (t0 : Int32) (t1 : Nat) (s : zS) : Option zS :=
  bnd (qR s 5 l0 0) fun x1 =>
  bnd (cl s 8 x1 (fX8_start x1  s)) fun q4 =>
  bnd (cl q4.2 5 t1 (fX5_blame t1 t0 q4.1 q4.2)) fun q7 =>
  some q7
set_option maxRecDepth 100000 in
set_option maxHeartbeats 4000000 in
theorem bX5_blameStepTooMany_34 {E : zE}   {l0 : Nat} {t0 : Int32} {t1 : Nat} {s : zS} {q : zS} (h : fX5_blameStepTooMany_34  l0 t0 t1 s = some q) : Z E mX5_blameStepTooMany 34 [(0, .ref l0)] [.int t0, .ref t1] s (0, 0) (zRv E mX5_blameStepTooMany q) := by
  unfold fX5_blameStepTooMany_34 at h
  refine z_aload_n (pc := 34) 0 rfl dX5_blameStepTooMany_34 rfl ?_
  obtain ⟨a2, x1, e3, h⟩ := iR h
  refine y_getR (pc := 35) flRX5_35 dX5_blameStepTooMany_35 rfl a2 e3 ?_
  obtain ⟨a5, q4, e6, h⟩ := iC h
  refine y_Vi (pc := 38) (M2 := mX8_start) (As := []) (okX8_start e6) mvX8_start mlRX5_80 dX5_blameStepTooMany_38 ⟨by decide, by decide⟩ rfl rfl rfl (fun _ => Nat.le_of_ble_eq_true rfl) a5 ?_
  obtain ⟨a8, q7, e9, h⟩ := iC h
  refine y_V (pc := 41) (M2 := mX5_blame) (As := [.int t0, .int q4.1]) (okX5_blame e9) mvX5_blame mlRX5_84 dX5_blameStepTooMany_41 ⟨by decide, by decide⟩ rfl rfl rfl zrest0 a8 ?_
  exact y_ret (pc := 44) dX5_blameStepTooMany_44 rfl h
def fX5_blameStepTooMany_24  (l0 : Nat) (l2 : Int32) (s : zS) : Option zS :=
  if l2 = 0 then
    fX5_blameStepTooMany_34  l0 3 l0 s
  else
    fX5_blameStepTooMany_34  l0 l2 l0 s
set_option maxRecDepth 100000 in
set_option maxHeartbeats 4000000 in
theorem bX5_blameStepTooMany_24 {E : zE}   {l0 : Nat} {l2 : Int32} {s : zS} {q : zS} (h : fX5_blameStepTooMany_24  l0 l2 s = some q) : Z E mX5_blameStepTooMany 24 [(0, .ref l0), (2, .int l2)] [] s (0, 0) (zRv E mX5_blameStepTooMany q) := by
  unfold fX5_blameStepTooMany_24 at h
  refine z_aload_n (pc := 24) 0 rfl dX5_blameStepTooMany_24 rfl ?_
  refine z_iload_n (pc := 25) 1 rfl dX5_blameStepTooMany_25 rfl ?_
  refine z_if_ne (pc := 26) (tgt := 33) dX5_blameStepTooMany_26 (by decide) (fun hc => ?_) (fun hc => ?_)
  · replace h := ifn hc h
    refine z_iload_n (pc := 33) 1 rfl dX5_blameStepTooMany_33 rfl ?_
    exact z_sub [0] rfl (bX5_blameStepTooMany_34  h)
  · replace h := ifp hc h
    refine z_iconst (pc := 29) (v := 3) dX5_blameStepTooMany_29 (by decide) ?_
    refine z_goto (pc := 30) (tgt := 34) dX5_blameStepTooMany_30 (by decide) ?_
    exact z_sub [0] rfl (bX5_blameStepTooMany_34  h)
def fX5_blameStepTooMany (l0 : Nat) (l1 : Int32) (s : zS) : Option zS :=
  if l1 = 0 then
    bnd (qR s 5 l0 0) fun x1 =>
    bnd (cl s 8 x1 (fX8_next x1  s)) fun q4 =>
    if q4.1 = 0 then
      fX5_blameStepTooMany_24  l0 0 q4.2
    else
      bnd (cl q4.2 5 l0 (fX5_faultOfToken l0 150 q4.2)) fun q7 =>
      fX5_blameStepTooMany_24  l0 q7.1 q7.2
  else
    fX5_blameStepTooMany_24  l0 0 s
set_option maxRecDepth 100000 in
set_option maxHeartbeats 4000000 in
theorem okX5_blameStepTooMany {E : zE} {l0 : Nat} {l1 : Int32} {s : zS} {t : zS} (h : fX5_blameStepTooMany l0 l1 s = some t) : Cv E mX5_blameStepTooMany [.ref l0, .int l1] s t := by
  refine Ct.of (ls := [(0, .ref l0), (1, .int l1)]) (by decide) rfl (Nat.le_of_ble_eq_true rfl) ?_
  show Z E mX5_blameStepTooMany 0 [(0, .ref l0), (1, .int l1)] [] s (0, 0) (zRv E mX5_blameStepTooMany t)
  unfold fX5_blameStepTooMany at h
  refine z_iconst (pc := 0) (v := 0) dX5_blameStepTooMany_0 (by decide) ?_
  refine z_istore_n (pc := 1) (ls' := [(2, .int 0), (0, .ref l0), (1, .int l1)]) dX5_blameStepTooMany_1 rfl (by decide) (fun _ => rfl) ?_
  refine z_iload_n (pc := 2) 2 rfl dX5_blameStepTooMany_2 rfl ?_
  refine z_if_ne (pc := 3) (tgt := 24) dX5_blameStepTooMany_3 (by decide) (fun hc => ?_) (fun hc => ?_)
  · replace h := ifn hc h
    exact z_sub [1, 0] rfl (bX5_blameStepTooMany_24  h)
  · replace h := ifp hc h
    refine z_aload_n (pc := 6) 1 rfl dX5_blameStepTooMany_6 rfl ?_
    obtain ⟨a2, x1, e3, h⟩ := iR h
    refine y_getR (pc := 7) flRX5_35 dX5_blameStepTooMany_7 rfl a2 e3 ?_
    obtain ⟨a5, q4, e6, h⟩ := iC h
    refine y_Vi (pc := 10) (M2 := mX8_next) (As := []) (okX8_next e6) mvX8_next mlRX5_76 dX5_blameStepTooMany_10 ⟨by decide, by decide⟩ rfl rfl rfl zrest0 a5 ?_
    refine z_if_eq (pc := 13) (tgt := 24) dX5_blameStepTooMany_13 (by decide) (fun hc => ?_) (fun hc => ?_)
    · replace h := ifp hc h
      exact z_sub [1, 0] rfl (bX5_blameStepTooMany_24  h)
    · replace h := ifn hc h
      refine z_aload_n (pc := 16) 1 rfl dX5_blameStepTooMany_16 rfl ?_
      refine z_sipush (pc := 17) (v := 150) dX5_blameStepTooMany_17 (by decide) ?_
      obtain ⟨a8, q7, e9, h⟩ := iC h
      refine y_Vi (pc := 20) (M2 := mX5_faultOfToken) (As := [.int 150]) (okX5_faultOfToken e9) mvX5_faultOfToken mlRX5_114 dX5_blameStepTooMany_20 ⟨by decide, by decide⟩ rfl rfl rfl zrest0 a8 ?_
      refine z_istore_n (pc := 23) (ls' := [(2, .int q7.1), (0, .ref l0), (1, .int l1)]) dX5_blameStepTooMany_23 rfl (by decide) (fun _ => rfl) ?_
      exact z_sub [1, 0] rfl (bX5_blameStepTooMany_24  h)
def fX8_putBack (l0 : Nat) (s : zS) : Option zS :=
  bnd (qI s 8 l0 2) fun x1 =>
  bnd (wI s 8 l0 3 x1) fun s4 =>
  some s4
set_option maxRecDepth 100000 in
set_option maxHeartbeats 4000000 in
theorem okX8_putBack {E : zE} {l0 : Nat} {s : zS} {t : zS} (h : fX8_putBack l0 s = some t) : Cv E mX8_putBack [.ref l0] s t := by
  refine Ct.of (ls := [(0, .ref l0)]) (by decide) rfl (Nat.le_of_ble_eq_true rfl) ?_
  show Z E mX8_putBack 0 [(0, .ref l0)] [] s (0, 0) (zRv E mX8_putBack t)
  unfold fX8_putBack at h
  refine z_aload_n (pc := 0) 0 rfl dX8_putBack_0 rfl ?_
  refine z_aload_n (pc := 1) 0 rfl dX8_putBack_1 rfl ?_
  obtain ⟨a2, x1, e3, h⟩ := iI h
  refine y_getI (pc := 2) flRX8_13 dX8_putBack_2 rfl a2 e3 ?_
  obtain ⟨a5, s4, e6, h⟩ := jI h
  refine y_putI (pc := 5) flRX8_16 dX8_putBack_5 rfl (Or.inl rfl) a5 e6 ?_
  exact y_ret (pc := 8) dX8_putBack_8 rfl h
