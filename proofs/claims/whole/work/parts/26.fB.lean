def fX10_readText_113 (k0 : Nat → zS → Option zS) (l0 : Nat) (s : zS) : Option zS :=
  k0 l0 s
set_option maxRecDepth 100000 in
set_option maxHeartbeats 4000000 in
theorem bX10_readText_113 {E : zE} {k0 : Nat → zS → Option zS} (hk0 : ∀ {l0 : Nat} {s : zS} {q : zS}, k0 l0 s = some q → Z E mX10_readText 0 [(0, .ref l0)] [] s (0, 0) (zRv E mX10_readText q)) {l0 : Nat} {s : zS} {q : zS} (h : fX10_readText_113 k0 l0 s = some q) : Z E mX10_readText 113 [(0, .ref l0)] [] s (0, 0) (zRv E mX10_readText q) := by
  unfold fX10_readText_113 at h
  refine z_goto (pc := 113) (tgt := 0) dX10_readText_113 (by decide) ?_
  exact z_sub [0] rfl (hk0 h)
def fX10_readText_110 (k0 : Nat → zS → Option zS) (l0 : Nat) (t0 : Int32) (t1 : Nat) (s : zS) : Option zS :=
  bnd (cl s 10 t1 (fX10_readRowOf t1 t0 s)) fun q28 =>
  fX10_readText_113 (k0) l0 q28
set_option maxRecDepth 100000 in
set_option maxHeartbeats 4000000 in
theorem bX10_readText_110 {E : zE} {k0 : Nat → zS → Option zS} (hk0 : ∀ {l0 : Nat} {s : zS} {q : zS}, k0 l0 s = some q → Z E mX10_readText 0 [(0, .ref l0)] [] s (0, 0) (zRv E mX10_readText q)) {l0 : Nat} {t0 : Int32} {t1 : Nat} {s : zS} {q : zS} (h : fX10_readText_110 k0 l0 t0 t1 s = some q) : Z E mX10_readText 110 [(0, .ref l0)] [.int t0, .ref t1] s (0, 0) (zRv E mX10_readText q) := by
  unfold fX10_readText_110 at h
  obtain ⟨a29, q28, e30, h⟩ := iC h
  refine y_V (pc := 110) (M2 := mX10_readRowOf) (As := [.int t0]) (okX10_readRowOf e30) mvX10_readRowOf mlRX10_175 dX10_readText_110 ⟨by decide, by decide⟩ rfl rfl rfl zrest0 a29 ?_
  exact z_sub [0] rfl (bX10_readText_113 (fun h => hk0 h) h)
def fX10_readText_79 (k0 : Nat → zS → Option zS) (l0 : Nat) (l1 : Int32) (s : zS) : Option zS :=
  bnd (qI s 10 l0 8) fun x13 =>
  if x13 = 0 then
    bnd (cl s 10 l0 (fX10_beginRow l0  s)) fun q16 =>
    bnd (qR q16 10 l0 25) fun x19 =>
    bnd (qI q16 10 l0 26) fun x22 =>
    bnd (uZ q16 x19 x22 l1) fun s25 =>
    if l1 = 0 then
      fX10_readText_110 (k0) l0 1 l0 s25
    else
      fX10_readText_110 (k0) l0 0 l0 s25
  else
    fX10_readText_113 (k0) l0 s
set_option maxRecDepth 100000 in
set_option maxHeartbeats 4000000 in
theorem bX10_readText_79 {E : zE} {k0 : Nat → zS → Option zS} (hk0 : ∀ {l0 : Nat} {s : zS} {q : zS}, k0 l0 s = some q → Z E mX10_readText 0 [(0, .ref l0)] [] s (0, 0) (zRv E mX10_readText q)) {l0 : Nat} {l1 : Int32} {s : zS} {q : zS} (h : fX10_readText_79 k0 l0 l1 s = some q) : Z E mX10_readText 79 [(0, .ref l0), (1, .int l1)] [] s (0, 0) (zRv E mX10_readText q) := by
  unfold fX10_readText_79 at h
  refine z_aload_n (pc := 79) 0 rfl dX10_readText_79 rfl ?_
  obtain ⟨a14, x13, e15, h⟩ := iI h
  refine y_getI (pc := 80) flRX10_102 dX10_readText_80 rfl a14 e15 ?_
  refine z_if_ne (pc := 83) (tgt := 113) dX10_readText_83 (by decide) (fun hc => ?_) (fun hc => ?_)
  · replace h := ifn hc h
    exact z_sub [0] rfl (bX10_readText_113 (fun h => hk0 h) h)
  · replace h := ifp hc h
    refine z_aload_n (pc := 86) 0 rfl dX10_readText_86 rfl ?_
    obtain ⟨a17, q16, e18, h⟩ := iC h
    refine y_V (pc := 87) (M2 := mX10_beginRow) (As := []) (okX10_beginRow e18) mvX10_beginRow mlRX10_172 dX10_readText_87 ⟨by decide, by decide⟩ rfl rfl rfl zrest0 a17 ?_
    refine z_aload_n (pc := 90) 0 rfl dX10_readText_90 rfl ?_
    obtain ⟨a20, x19, e21, h⟩ := iR h
    refine y_getR (pc := 91) flRX10_51 dX10_readText_91 rfl a20 e21 ?_
    refine z_aload_n (pc := 94) 0 rfl dX10_readText_94 rfl ?_
    obtain ⟨a23, x22, e24, h⟩ := iI h
    refine y_getI (pc := 95) flRX10_139 dX10_readText_95 rfl a23 e24 ?_
    refine z_iload_n (pc := 98) 1 rfl dX10_readText_98 rfl ?_
    obtain ⟨a26, s25, e27, h⟩ := kZ h
    refine y_zast (pc := 99) dX10_readText_99 a26 e27 ?_
    refine z_aload_n (pc := 100) 0 rfl dX10_readText_100 rfl ?_
    refine z_iload_n (pc := 101) 1 rfl dX10_readText_101 rfl ?_
    refine z_if_ne (pc := 102) (tgt := 109) dX10_readText_102 (by decide) (fun hc => ?_) (fun hc => ?_)
    · replace h := ifn hc h
      refine z_iconst (pc := 109) (v := 0) dX10_readText_109 (by decide) ?_
      exact z_sub [0] rfl (bX10_readText_110 (fun h => hk0 h) h)
    · replace h := ifp hc h
      refine z_iconst (pc := 105) (v := 1) dX10_readText_105 (by decide) ?_
      refine z_goto (pc := 106) (tgt := 110) dX10_readText_106 (by decide) ?_
      exact z_sub [0] rfl (bX10_readText_110 (fun h => hk0 h) h)
def fX10_readText_70 (k0 : Nat → zS → Option zS) (l0 : Nat) (l1 : Int32) (s : zS) : Option zS :=
  bnd (qI s 10 l0 6) fun x22 =>
  bnd (cl s 10 l0 (fX10_wrong l0 3 x22 s)) fun q25 =>
  fX10_readText_79 (k0) l0 l1 q25
set_option maxRecDepth 100000 in
set_option maxHeartbeats 4000000 in
theorem bX10_readText_70 {E : zE} {k0 : Nat → zS → Option zS} (hk0 : ∀ {l0 : Nat} {s : zS} {q : zS}, k0 l0 s = some q → Z E mX10_readText 0 [(0, .ref l0)] [] s (0, 0) (zRv E mX10_readText q)) {l0 : Nat} {l1 : Int32} {s : zS} {q : zS} (h : fX10_readText_70 k0 l0 l1 s = some q) : Z E mX10_readText 70 [(0, .ref l0), (1, .int l1)] [] s (0, 0) (zRv E mX10_readText q) := by
  unfold fX10_readText_70 at h
  refine z_aload_n (pc := 70) 0 rfl dX10_readText_70 rfl ?_
  refine z_iconst (pc := 71) (v := 3) dX10_readText_71 (by decide) ?_
  refine z_aload_n (pc := 72) 0 rfl dX10_readText_72 rfl ?_
  obtain ⟨a23, x22, e24, h⟩ := iI h
  refine y_getI (pc := 73) flRX10_118 dX10_readText_73 rfl a23 e24 ?_
  obtain ⟨a26, q25, e27, h⟩ := iC h
  refine y_V (pc := 76) (M2 := mX10_wrong) (As := [.int 3, .int x22]) (okX10_wrong e27) mvX10_wrong mlRX10_128 dX10_readText_76 ⟨by decide, by decide⟩ rfl rfl rfl zrest0 a26 ?_
  exact z_sub [0, 1] rfl (bX10_readText_79 (fun h => hk0 h) h)
def fX10_readText_61 (k0 : Nat → zS → Option zS) (l0 : Nat) (l1 : Int32) (s : zS) : Option zS :=
  bnd (qI s 10 l0 6) fun x16 =>
  bnd (cl s 10 l0 (fX10_wrong l0 2 x16 s)) fun q19 =>
  fX10_readText_70 (k0) l0 l1 q19
set_option maxRecDepth 100000 in
set_option maxHeartbeats 4000000 in
theorem bX10_readText_61 {E : zE} {k0 : Nat → zS → Option zS} (hk0 : ∀ {l0 : Nat} {s : zS} {q : zS}, k0 l0 s = some q → Z E mX10_readText 0 [(0, .ref l0)] [] s (0, 0) (zRv E mX10_readText q)) {l0 : Nat} {l1 : Int32} {s : zS} {q : zS} (h : fX10_readText_61 k0 l0 l1 s = some q) : Z E mX10_readText 61 [(0, .ref l0), (1, .int l1)] [] s (0, 0) (zRv E mX10_readText q) := by
  unfold fX10_readText_61 at h
  refine z_aload_n (pc := 61) 0 rfl dX10_readText_61 rfl ?_
  refine z_iconst (pc := 62) (v := 2) dX10_readText_62 (by decide) ?_
  refine z_aload_n (pc := 63) 0 rfl dX10_readText_63 rfl ?_
  obtain ⟨a17, x16, e18, h⟩ := iI h
  refine y_getI (pc := 64) flRX10_118 dX10_readText_64 rfl a17 e18 ?_
  obtain ⟨a20, q19, e21, h⟩ := iC h
  refine y_V (pc := 67) (M2 := mX10_wrong) (As := [.int 2, .int x16]) (okX10_wrong e21) mvX10_wrong mlRX10_128 dX10_readText_67 ⟨by decide, by decide⟩ rfl rfl rfl zrest0 a20 ?_
  exact z_sub [0, 1] rfl (bX10_readText_70 (fun h => hk0 h) h)
def fX10_readText_46 (k0 : Nat → zS → Option zS) (l0 : Nat) (l1 : Int32) (t0 : Int32) (s : zS) : Option zS :=
  if t0 < (-150) then
    fX10_readText_61 (k0) l0 l1 s
  else
    if t0 ≤ 150 then
      fX10_readText_70 (k0) l0 l1 s
    else
      fX10_readText_61 (k0) l0 l1 s
set_option maxRecDepth 100000 in
set_option maxHeartbeats 4000000 in
theorem bX10_readText_46 {E : zE} {k0 : Nat → zS → Option zS} (hk0 : ∀ {l0 : Nat} {s : zS} {q : zS}, k0 l0 s = some q → Z E mX10_readText 0 [(0, .ref l0)] [] s (0, 0) (zRv E mX10_readText q)) {l0 : Nat} {l1 : Int32} {t0 : Int32} {s : zS} {q : zS} (h : fX10_readText_46 k0 l0 l1 t0 s = some q) : Z E mX10_readText 46 [(0, .ref l0), (1, .int l1)] [.int t0] s (0, 0) (zRv E mX10_readText q) := by
  unfold fX10_readText_46 at h
  refine z_istore_n (pc := 46) (ls' := [(2, .int t0), (0, .ref l0), (1, .int l1)]) dX10_readText_46 rfl (by decide) (fun _ => rfl) ?_
  refine z_iload_n (pc := 47) 0 rfl dX10_readText_47 rfl ?_
  refine z_sipush (pc := 48) (v := (-150)) dX10_readText_48 (by decide) ?_
  refine z_icmp_lt (pc := 51) (tgt := 61) dX10_readText_51 (by decide) (fun hc => ?_) (fun hc => ?_)
  · replace h := ifp hc h
    exact z_sub [1, 2] rfl (bX10_readText_61 (fun h => hk0 h) h)
  · replace h := ifn hc h
    refine z_iload_n (pc := 54) 0 rfl dX10_readText_54 rfl ?_
    refine z_sipush (pc := 55) (v := 150) dX10_readText_55 (by decide) ?_
    refine z_icmp_le (pc := 58) (tgt := 70) dX10_readText_58 (by decide) (fun hc => ?_) (fun hc => ?_)
    · replace h := ifp hc h
      exact z_sub [1, 2] rfl (bX10_readText_70 (fun h => hk0 h) h)
    · replace h := ifn hc h
      exact z_sub [1, 2] rfl (bX10_readText_61 (fun h => hk0 h) h)
def fX10_readText_0  (n : Nat) : Nat → zS → Option zS := match n with
  | 0 => fun _ _ => none
  | n + 1 => fun l0 s =>
    bnd (qI s 10 l0 8) fun x1 =>
    if x1 = 0 then
      bnd (cl s 10 l0 (fX10_next l0  s)) fun q4 =>
      if q4.1 = 0 then
        some q4.2
      else
        bnd (cl q4.2 10 l0 (fX10_isWord l0 1 100 0 0 q4.2)) fun q7 =>
        bnd (qI q7.2 10 l0 26) fun x10 =>
        if x10 = 300 then
          if q7.1 = 0 then
            bnd (cl q7.2 10 l0 (fX10_number l0  q7.2)) fun q13 =>
            fX10_readText_46 ((fX10_readText_0  n)) l0 q7.1 q13.1 q13.2
          else
            fX10_readText_46 ((fX10_readText_0  n)) l0 q7.1 0 q7.2
        else
          fX10_readText_79 ((fX10_readText_0  n)) l0 q7.1 q7.2
    else
      some s
set_option maxRecDepth 100000 in
set_option maxHeartbeats 4000000 in
theorem bX10_readText_0 {E : zE}  : ∀ (n : Nat) {l0 : Nat} {s : zS} {q : zS}, fX10_readText_0  n l0 s = some q → Z E mX10_readText 0 [(0, .ref l0)] [] s (0, 0) (zRv E mX10_readText q) := by
  intro n
  induction n with
  | zero => intro l0 s q h; cases h
  | succ n ih =>
    intro l0 s q h
    unfold fX10_readText_0 at h
    refine z_aload_n (pc := 0) 0 rfl dX10_readText_0 rfl ?_
    obtain ⟨a2, x1, e3, h⟩ := iI h
    refine y_getI (pc := 1) flRX10_102 dX10_readText_1 rfl a2 e3 ?_
    refine z_if_ne (pc := 4) (tgt := 116) dX10_readText_4 (by decide) (fun hc => ?_) (fun hc => ?_)
    · replace h := ifn hc h
      exact y_ret (pc := 116) dX10_readText_116 rfl h
    · replace h := ifp hc h
      refine z_aload_n (pc := 7) 0 rfl dX10_readText_7 rfl ?_
      obtain ⟨a5, q4, e6, h⟩ := iC h
      refine y_Vi (pc := 8) (M2 := mX10_next) (As := []) (okX10_next e6) mvX10_next mlRX10_124 dX10_readText_8 ⟨by decide, by decide⟩ rfl rfl rfl zrest0 a5 ?_
      refine z_if_eq (pc := 11) (tgt := 116) dX10_readText_11 (by decide) (fun hc => ?_) (fun hc => ?_)
      · replace h := ifp hc h
        exact y_ret (pc := 116) dX10_readText_116 rfl h
      · replace h := ifn hc h
        refine z_aload_n (pc := 14) 0 rfl dX10_readText_14 rfl ?_
        refine z_iconst (pc := 15) (v := 1) dX10_readText_15 (by decide) ?_
        refine z_bipush (pc := 16) (v := 100) dX10_readText_16 (by decide) ?_
        refine z_iconst (pc := 18) (v := 0) dX10_readText_18 (by decide) ?_
        refine z_iconst (pc := 19) (v := 0) dX10_readText_19 (by decide) ?_
        obtain ⟨a8, q7, e9, h⟩ := iC h
        refine y_Vi (pc := 20) (M2 := mX10_isWord) (As := [.int 1, .int 100, .int 0, .int 0]) (okX10_isWord e9) mvX10_isWord mlRX10_164 dX10_readText_20 ⟨by decide, by decide⟩ rfl rfl rfl zrest0 a8 ?_
        refine z_istore_n (pc := 23) (ls' := [(1, .int q7.1), (0, .ref l0)]) dX10_readText_23 rfl (by decide) (fun _ => rfl) ?_
        refine z_aload_n (pc := 24) 1 rfl dX10_readText_24 rfl ?_
        obtain ⟨a11, x10, e12, h⟩ := iI h
        refine y_getI (pc := 25) flRX10_139 dX10_readText_25 rfl a11 e12 ?_
        refine z_sipush (pc := 28) (v := 300) dX10_readText_28 (by decide) ?_
        refine z_icmp_ne (pc := 31) (tgt := 79) dX10_readText_31 (by decide) (fun hc => ?_) (fun hc => ?_)
        · replace h := ifn hc h
          exact z_sub [1, 0] rfl (bX10_readText_79 (fun h => ih h) h)
        · replace h := ifp hc h
          refine z_iload_n (pc := 34) 0 rfl dX10_readText_34 rfl ?_
          refine z_if_eq (pc := 35) (tgt := 42) dX10_readText_35 (by decide) (fun hc => ?_) (fun hc => ?_)
          · replace h := ifp hc h
            refine z_aload_n (pc := 42) 1 rfl dX10_readText_42 rfl ?_
            obtain ⟨a14, q13, e15, h⟩ := iC h
            refine y_Vi (pc := 43) (M2 := mX10_number) (As := []) (okX10_number e15) mvX10_number mlRX10_135 dX10_readText_43 ⟨by decide, by decide⟩ rfl rfl rfl zrest0 a14 ?_
            exact z_sub [1, 0] rfl (bX10_readText_46 (fun h => ih h) h)
          · replace h := ifn hc h
            refine z_iconst (pc := 38) (v := 0) dX10_readText_38 (by decide) ?_
            refine z_goto (pc := 39) (tgt := 46) dX10_readText_39 (by decide) ?_
            exact z_sub [1, 0] rfl (bX10_readText_46 (fun h => ih h) h)
def fX10_readText (l0 : Nat) (s : zS) : Option zS :=
  fX10_readText_0  zfu l0 s
set_option maxRecDepth 100000 in
set_option maxHeartbeats 4000000 in
theorem okX10_readText {E : zE} {l0 : Nat} {s : zS} {t : zS} (h : fX10_readText l0 s = some t) : Cv E mX10_readText [.ref l0] s t := by
  refine Ct.of (ls := [(0, .ref l0)]) (by decide) rfl (Nat.le_of_ble_eq_true rfl) ?_
  show Z E mX10_readText 0 [(0, .ref l0)] [] s (0, 0) (zRv E mX10_readText t)
  unfold fX10_readText at h
  exact z_sub [0] rfl (bX10_readText_0  _ h)
def fX10_readNumber_189  (l0 : Nat) (s : zS) : Option (Int32 × zS) :=
  bnd (qI s 10 l0 8) fun x28 =>
  if x28 = 0 then
    gd ((1 : Int32) = 0 ∨ 1 = 1) (some (1, s))
  else
    gd ((0 : Int32) = 0 ∨ 0 = 1) (some (0, s))
set_option maxRecDepth 100000 in
set_option maxHeartbeats 4000000 in
theorem bX10_readNumber_189 {E : zE}   {l0 : Nat} {s : zS} {q : Int32 × zS} (h : fX10_readNumber_189  l0 s = some q) : Z E mX10_readNumber 189 [(0, .ref l0)] [] s (0, 0) (zRi E mX10_readNumber q.1 q.2) := by
  unfold fX10_readNumber_189 at h
  refine z_aload_n (pc := 189) 0 rfl dX10_readNumber_189 rfl ?_
  obtain ⟨a29, x28, e30, h⟩ := iI h
  refine y_getI (pc := 190) flRX10_102 dX10_readNumber_190 rfl a29 e30 ?_
  refine z_if_ne (pc := 193) (tgt := 200) dX10_readNumber_193 (by decide) (fun hc => ?_) (fun hc => ?_)
  · replace h := ifn hc h
    refine z_iconst (pc := 200) (v := 0) dX10_readNumber_200 (by decide) ?_
    exact y_zret (pc := 201) dX10_readNumber_201 rfl h
  · replace h := ifp hc h
    refine z_iconst (pc := 196) (v := 1) dX10_readNumber_196 (by decide) ?_
    refine z_goto (pc := 197) (tgt := 201) dX10_readNumber_197 (by decide) ?_
    exact y_zret (pc := 201) dX10_readNumber_201 rfl h
def fX10_readNumber_159  (l0 : Nat) (l1 : Int32) (s : zS) : Option (Int32 × zS) :=
  bnd (cl s 10 l0 (fX10_wrong l0 2 l1 s)) fun q25 =>
  fX10_readNumber_189  l0 q25
set_option maxRecDepth 100000 in
set_option maxHeartbeats 4000000 in
theorem bX10_readNumber_159 {E : zE}   {l0 : Nat} {l1 : Int32} {s : zS} {q : Int32 × zS} (h : fX10_readNumber_159  l0 l1 s = some q) : Z E mX10_readNumber 159 [(0, .ref l0), (1, .int l1)] [] s (0, 0) (zRi E mX10_readNumber q.1 q.2) := by
  unfold fX10_readNumber_159 at h
  refine z_aload_n (pc := 159) 0 rfl dX10_readNumber_159 rfl ?_
  refine z_iconst (pc := 160) (v := 2) dX10_readNumber_160 (by decide) ?_
  refine z_iload_n (pc := 161) 1 rfl dX10_readNumber_161 rfl ?_
  obtain ⟨a26, q25, e27, h⟩ := iC h
  refine y_V (pc := 162) (M2 := mX10_wrong) (As := [.int 2, .int l1]) (okX10_wrong e27) mvX10_wrong mlRX10_128 dX10_readNumber_162 ⟨by decide, by decide⟩ rfl rfl rfl zrest0 a26 ?_
  refine z_goto (pc := 165) (tgt := 189) dX10_readNumber_165 (by decide) ?_
  exact z_sub [0] rfl (bX10_readNumber_189  h)
def fX10_readNumber_185  (l0 : Nat) (l1 : Int32) (t0 : Int32) (t1 : Nat) (s : zS) : Option (Int32 × zS) :=
  bnd (cl s 10 t1 (fX10_literal t1 t0 l1 s)) fun q25 =>
  fX10_readNumber_189  l0 q25
set_option maxRecDepth 100000 in
set_option maxHeartbeats 4000000 in
theorem bX10_readNumber_185 {E : zE}   {l0 : Nat} {l1 : Int32} {t0 : Int32} {t1 : Nat} {s : zS} {q : Int32 × zS} (h : fX10_readNumber_185  l0 l1 t0 t1 s = some q) : Z E mX10_readNumber 185 [(0, .ref l0), (1, .int l1)] [.int t0, .ref t1] s (0, 0) (zRi E mX10_readNumber q.1 q.2) := by
  unfold fX10_readNumber_185 at h
  refine z_iload_n (pc := 185) 1 rfl dX10_readNumber_185 rfl ?_
  obtain ⟨a26, q25, e27, h⟩ := iC h
  refine y_V (pc := 186) (M2 := mX10_literal) (As := [.int t0, .int l1]) (okX10_literal e27) mvX10_literal mlRX10_154 dX10_readNumber_186 ⟨by decide, by decide⟩ rfl rfl rfl zrest0 a26 ?_
  exact z_sub [0] rfl (bX10_readNumber_189  h)
def fX10_readNumber_141  (l0 : Nat) (l1 : Int32) (l2 : Int32) (s : zS) : Option (Int32 × zS) :=
  if l2 = 0 then
    gd ((0 : Int32) = 0 ∨ 0 = 1) (some (0, s))
  else
    if l2 < 2 then
      fX10_readNumber_159  l0 l1 s
    else
      if l2 ≤ 301 then
        if (l2 - l2 / 2 * 2) = 0 then
          fX10_readNumber_185  l0 l1 (l2 / 2) l0 s
        else
          fX10_readNumber_185  l0 l1 (-(l2 / 2)) l0 s
      else
        fX10_readNumber_159  l0 l1 s
set_option maxRecDepth 100000 in
set_option maxHeartbeats 4000000 in
theorem bX10_readNumber_141 {E : zE}   {l0 : Nat} {l1 : Int32} {l2 : Int32} {s : zS} {q : Int32 × zS} (h : fX10_readNumber_141  l0 l1 l2 s = some q) : Z E mX10_readNumber 141 [(0, .ref l0), (1, .int l1), (2, .int l2)] [] s (0, 0) (zRi E mX10_readNumber q.1 q.2) := by
  unfold fX10_readNumber_141 at h
  refine z_iload_n (pc := 141) 2 rfl dX10_readNumber_141 rfl ?_
  refine z_if_ne (pc := 142) (tgt := 147) dX10_readNumber_142 (by decide) (fun hc => ?_) (fun hc => ?_)
  · replace h := ifn hc h
    refine z_iload_n (pc := 147) 2 rfl dX10_readNumber_147 rfl ?_
    refine z_iconst (pc := 148) (v := 2) dX10_readNumber_148 (by decide) ?_
    refine z_icmp_lt (pc := 149) (tgt := 159) dX10_readNumber_149 (by decide) (fun hc => ?_) (fun hc => ?_)
    · replace h := ifp hc h
      exact z_sub [0, 1] rfl (bX10_readNumber_159  h)
    · replace h := ifn hc h
      refine z_iload_n (pc := 152) 2 rfl dX10_readNumber_152 rfl ?_
      refine z_sipush (pc := 153) (v := 301) dX10_readNumber_153 (by decide) ?_
      refine z_icmp_le (pc := 156) (tgt := 168) dX10_readNumber_156 (by decide) (fun hc => ?_) (fun hc => ?_)
      · replace h := ifp hc h
        refine z_aload_n (pc := 168) 0 rfl dX10_readNumber_168 rfl ?_
        refine z_iload_n (pc := 169) 2 rfl dX10_readNumber_169 rfl ?_
        refine z_iconst (pc := 170) (v := 2) dX10_readNumber_170 (by decide) ?_
        refine z_irem (pc := 171) (by decide) dX10_readNumber_171 ?_
        refine z_if_ne (pc := 172) (tgt := 181) dX10_readNumber_172 (by decide) (fun hc => ?_) (fun hc => ?_)
        · replace h := ifn hc h
          refine z_iload_n (pc := 181) 2 rfl dX10_readNumber_181 rfl ?_
          refine z_iconst (pc := 182) (v := 2) dX10_readNumber_182 (by decide) ?_
          refine z_idiv (pc := 183) (by decide) dX10_readNumber_183 ?_
          refine z_ineg (pc := 184) dX10_readNumber_184 ?_
          exact z_sub [0, 1] rfl (bX10_readNumber_185  h)
        · replace h := ifp hc h
          refine z_iload_n (pc := 175) 2 rfl dX10_readNumber_175 rfl ?_
          refine z_iconst (pc := 176) (v := 2) dX10_readNumber_176 (by decide) ?_
          refine z_idiv (pc := 177) (by decide) dX10_readNumber_177 ?_
          refine z_goto (pc := 178) (tgt := 185) dX10_readNumber_178 (by decide) ?_
          exact z_sub [0, 1] rfl (bX10_readNumber_185  h)
      · replace h := ifn hc h
        exact z_sub [0, 1] rfl (bX10_readNumber_159  h)
  · replace h := ifp hc h
    refine z_iconst (pc := 145) (v := 0) dX10_readNumber_145 (by decide) ?_
    exact y_zret (pc := 146) dX10_readNumber_146 rfl h
def fX10_readNumber_103  (l0 : Nat) (l1 : Int32) (s : zS) : Option (Int32 × zS) :=
  bnd (cl s 10 l0 (fX10_wrong l0 1 l1 s)) fun q40 =>
  gd ((0 : Int32) = 0 ∨ 0 = 1) (some (0, q40))
set_option maxRecDepth 100000 in
set_option maxHeartbeats 4000000 in
theorem bX10_readNumber_103 {E : zE}   {l0 : Nat} {l1 : Int32} {s : zS} {q : Int32 × zS} (h : fX10_readNumber_103  l0 l1 s = some q) : Z E mX10_readNumber 103 [(0, .ref l0), (1, .int l1)] [] s (0, 0) (zRi E mX10_readNumber q.1 q.2) := by
  unfold fX10_readNumber_103 at h
  refine z_aload_n (pc := 103) 0 rfl dX10_readNumber_103 rfl ?_
  refine z_iconst (pc := 104) (v := 1) dX10_readNumber_104 (by decide) ?_
  refine z_iload_n (pc := 105) 1 rfl dX10_readNumber_105 rfl ?_
  obtain ⟨a41, q40, e42, h⟩ := iC h
  refine y_V (pc := 106) (M2 := mX10_wrong) (As := [.int 1, .int l1]) (okX10_wrong e42) mvX10_wrong mlRX10_128 dX10_readNumber_106 ⟨by decide, by decide⟩ rfl rfl rfl zrest0 a41 ?_
  refine z_iconst (pc := 109) (v := 0) dX10_readNumber_109 (by decide) ?_
  exact y_zret (pc := 110) dX10_readNumber_110 rfl h
def fX10_readNumber (l0 : Nat) (s : zS) : Option (Int32 × zS) :=
  bnd (qI s 10 l0 5) fun x1 =>
  bnd (qI s 10 l0 4) fun x4 =>
  if x1 = x4 then
    bnd (qI s 10 l0 4) fun x70 =>
    bnd (cl s 10 l0 (fX10_wrong l0 1 x70 s)) fun q73 =>
    gd ((0 : Int32) = 0 ∨ 0 = 1) (some (0, q73))
  else
    bnd (qI s 10 l0 5) fun x7 =>
    bnd (qR s 10 l0 3) fun x10 =>
    bnd (qI s 10 l0 5) fun x13 =>
    bnd (qA s 12 x10 x13) fun x16 =>
    bnd (qI s 10 l0 5) fun x19 =>
    bnd (wI s 10 l0 5 (x19 + 1)) fun s22 =>
    if x16 < 128 then
      fX10_readNumber_141  l0 x7 x16 s22
    else
      bnd (qI s22 10 l0 5) fun x25 =>
      bnd (qI s22 10 l0 4) fun x28 =>
      if x25 = x28 then
        bnd (qI s22 10 l0 4) fun x64 =>
        bnd (cl s22 10 l0 (fX10_wrong l0 1 x64 s22)) fun q67 =>
        gd ((0 : Int32) = 0 ∨ 0 = 1) (some (0, q67))
      else
        bnd (qR s22 10 l0 3) fun x31 =>
        bnd (qI s22 10 l0 5) fun x34 =>
        bnd (qA s22 12 x31 x34) fun x37 =>
        if x37 = 0 then
          fX10_readNumber_103  l0 x7 s22
        else
          bnd (qR s22 10 l0 3) fun x40 =>
          bnd (qI s22 10 l0 5) fun x43 =>
          bnd (qA s22 12 x40 x43) fun x46 =>
          if x46 < 128 then
            bnd (qR s22 10 l0 3) fun x49 =>
            bnd (qI s22 10 l0 5) fun x52 =>
            bnd (qA s22 12 x49 x52) fun x55 =>
            bnd (qI s22 10 l0 5) fun x58 =>
            bnd (wI s22 10 l0 5 (x58 + 1)) fun s61 =>
            fX10_readNumber_141  l0 x7 ((x16 - 128) + (128 * x55)) s61
          else
            fX10_readNumber_103  l0 x7 s22
set_option maxRecDepth 100000 in
set_option maxHeartbeats 4000000 in
theorem okX10_readNumber {E : zE} {l0 : Nat} {s : zS} {q : Int32 × zS} (h : fX10_readNumber l0 s = some q) : Ci E mX10_readNumber [.ref l0] s q.1 q.2 := by
  refine Ct.of (ls := [(0, .ref l0)]) (by decide) rfl (Nat.le_of_ble_eq_true rfl) ?_
  show Z E mX10_readNumber 0 [(0, .ref l0)] [] s (0, 0) (zRi E mX10_readNumber q.1 q.2)
  unfold fX10_readNumber at h
  refine z_aload_n (pc := 0) 0 rfl dX10_readNumber_0 rfl ?_
  obtain ⟨a2, x1, e3, h⟩ := iI h
  refine y_getI (pc := 1) flRX10_108 dX10_readNumber_1 rfl a2 e3 ?_
  refine z_aload_n (pc := 4) 0 rfl dX10_readNumber_4 rfl ?_
  obtain ⟨a5, x4, e6, h⟩ := iI h
  refine y_getI (pc := 5) flRX10_111 dX10_readNumber_5 rfl a5 e6 ?_
  refine z_icmp_ne (pc := 8) (tgt := 22) dX10_readNumber_8 (by decide) (fun hc => ?_) (fun hc => ?_)
  · replace h := ifn hc h
    refine z_aload_n (pc := 22) 0 rfl dX10_readNumber_22 rfl ?_
    obtain ⟨a8, x7, e9, h⟩ := iI h
    refine y_getI (pc := 23) flRX10_108 dX10_readNumber_23 rfl a8 e9 ?_
    refine z_istore_n (pc := 26) (ls' := [(1, .int x7), (0, .ref l0)]) dX10_readNumber_26 rfl (by decide) (fun _ => rfl) ?_
    refine z_aload_n (pc := 27) 1 rfl dX10_readNumber_27 rfl ?_
    obtain ⟨a11, x10, e12, h⟩ := iR h
    refine y_getR (pc := 28) flRX10_13 dX10_readNumber_28 rfl a11 e12 ?_
    refine z_aload_n (pc := 31) 1 rfl dX10_readNumber_31 rfl ?_
    obtain ⟨a14, x13, e15, h⟩ := iI h
    refine y_getI (pc := 32) flRX10_108 dX10_readNumber_32 rfl a14 e15 ?_
    obtain ⟨a17, x16, e18, h⟩ := iA h
    refine y_iald (pc := 35) dX10_readNumber_35 a17 e18 ?_
    refine z_istore_n (pc := 36) (ls' := [(2, .int x16), (1, .int x7), (0, .ref l0)]) dX10_readNumber_36 rfl (by decide) (fun _ => rfl) ?_
    refine z_aload_n (pc := 37) 2 rfl dX10_readNumber_37 rfl ?_
    refine z_dup (pc := 38) dX10_readNumber_38 (fun _ => rfl) ?_
    obtain ⟨a20, x19, e21, h⟩ := iI h
    refine y_getI (pc := 39) flRX10_108 dX10_readNumber_39 rfl a20 e21 ?_
    refine z_iconst (pc := 42) (v := 1) dX10_readNumber_42 (by decide) ?_
    refine z_iadd (pc := 43) dX10_readNumber_43 ?_
    obtain ⟨a23, s22, e24, h⟩ := jI h
    refine y_putI (pc := 44) flRX10_108 dX10_readNumber_44 rfl (Or.inl rfl) a23 e24 ?_
    refine z_iload_n (pc := 47) 0 rfl dX10_readNumber_47 rfl ?_
    refine z_sipush (pc := 48) (v := 128) dX10_readNumber_48 (by decide) ?_
    refine z_icmp_lt (pc := 51) (tgt := 141) dX10_readNumber_51 (by decide) (fun hc => ?_) (fun hc => ?_)
    · replace h := ifp hc h
      exact z_sub [2, 1, 0] rfl (bX10_readNumber_141  h)
    · replace h := ifn hc h
      refine z_aload_n (pc := 54) 2 rfl dX10_readNumber_54 rfl ?_
      obtain ⟨a26, x25, e27, h⟩ := iI h
      refine y_getI (pc := 55) flRX10_108 dX10_readNumber_55 rfl a26 e27 ?_
      refine z_aload_n (pc := 58) 2 rfl dX10_readNumber_58 rfl ?_
      obtain ⟨a29, x28, e30, h⟩ := iI h
      refine y_getI (pc := 59) flRX10_111 dX10_readNumber_59 rfl a29 e30 ?_
      refine z_icmp_ne (pc := 62) (tgt := 76) dX10_readNumber_62 (by decide) (fun hc => ?_) (fun hc => ?_)
      · replace h := ifn hc h
        refine z_aload_n (pc := 76) 2 rfl dX10_readNumber_76 rfl ?_
        obtain ⟨a32, x31, e33, h⟩ := iR h
        refine y_getR (pc := 77) flRX10_13 dX10_readNumber_77 rfl a32 e33 ?_
        refine z_aload_n (pc := 80) 2 rfl dX10_readNumber_80 rfl ?_
        obtain ⟨a35, x34, e36, h⟩ := iI h
        refine y_getI (pc := 81) flRX10_108 dX10_readNumber_81 rfl a35 e36 ?_
        obtain ⟨a38, x37, e39, h⟩ := iA h
        refine y_iald (pc := 84) dX10_readNumber_84 a38 e39 ?_
        refine z_if_eq (pc := 85) (tgt := 103) dX10_readNumber_85 (by decide) (fun hc => ?_) (fun hc => ?_)
        · replace h := ifp hc h
          exact z_sub [2, 1] rfl (bX10_readNumber_103  h)
        · replace h := ifn hc h
          refine z_aload_n (pc := 88) 2 rfl dX10_readNumber_88 rfl ?_
          obtain ⟨a41, x40, e42, h⟩ := iR h
          refine y_getR (pc := 89) flRX10_13 dX10_readNumber_89 rfl a41 e42 ?_
          refine z_aload_n (pc := 92) 2 rfl dX10_readNumber_92 rfl ?_
          obtain ⟨a44, x43, e45, h⟩ := iI h
          refine y_getI (pc := 93) flRX10_108 dX10_readNumber_93 rfl a44 e45 ?_
          obtain ⟨a47, x46, e48, h⟩ := iA h
          refine y_iald (pc := 96) dX10_readNumber_96 a47 e48 ?_
          refine z_sipush (pc := 97) (v := 128) dX10_readNumber_97 (by decide) ?_
          refine z_icmp_lt (pc := 100) (tgt := 111) dX10_readNumber_100 (by decide) (fun hc => ?_) (fun hc => ?_)
          · replace h := ifp hc h
            refine z_iload_n (pc := 111) 0 rfl dX10_readNumber_111 rfl ?_
            refine z_sipush (pc := 112) (v := 128) dX10_readNumber_112 (by decide) ?_
            refine z_isub (pc := 115) dX10_readNumber_115 ?_
            refine z_sipush (pc := 116) (v := 128) dX10_readNumber_116 (by decide) ?_
            refine z_aload_n (pc := 119) 2 rfl dX10_readNumber_119 rfl ?_
            obtain ⟨a50, x49, e51, h⟩ := iR h
            refine y_getR (pc := 120) flRX10_13 dX10_readNumber_120 rfl a50 e51 ?_
            refine z_aload_n (pc := 123) 2 rfl dX10_readNumber_123 rfl ?_
            obtain ⟨a53, x52, e54, h⟩ := iI h
            refine y_getI (pc := 124) flRX10_108 dX10_readNumber_124 rfl a53 e54 ?_
            obtain ⟨a56, x55, e57, h⟩ := iA h
            refine y_iald (pc := 127) dX10_readNumber_127 a56 e57 ?_
            refine z_imul (pc := 128) dX10_readNumber_128 ?_
            refine z_iadd (pc := 129) dX10_readNumber_129 ?_
            refine z_istore_n (pc := 130) (ls' := [(2, .int ((x16 - 128) + (128 * x55))), (1, .int x7), (0, .ref l0)]) dX10_readNumber_130 rfl (by decide) (fun _ => rfl) ?_
            refine z_aload_n (pc := 131) 2 rfl dX10_readNumber_131 rfl ?_
            refine z_dup (pc := 132) dX10_readNumber_132 (fun _ => rfl) ?_
            obtain ⟨a59, x58, e60, h⟩ := iI h
            refine y_getI (pc := 133) flRX10_108 dX10_readNumber_133 rfl a59 e60 ?_
            refine z_iconst (pc := 136) (v := 1) dX10_readNumber_136 (by decide) ?_
            refine z_iadd (pc := 137) dX10_readNumber_137 ?_
            obtain ⟨a62, s61, e63, h⟩ := jI h
            refine y_putI (pc := 138) flRX10_108 dX10_readNumber_138 rfl (Or.inl rfl) a62 e63 ?_
            exact z_sub [2, 1, 0] rfl (bX10_readNumber_141  h)
          · replace h := ifn hc h
            exact z_sub [2, 1] rfl (bX10_readNumber_103  h)
      · replace h := ifp hc h
        refine z_aload_n (pc := 65) 2 rfl dX10_readNumber_65 rfl ?_
        refine z_iconst (pc := 66) (v := 1) dX10_readNumber_66 (by decide) ?_
        refine z_aload_n (pc := 67) 2 rfl dX10_readNumber_67 rfl ?_
        obtain ⟨a65, x64, e66, h⟩ := iI h
        refine y_getI (pc := 68) flRX10_111 dX10_readNumber_68 rfl a65 e66 ?_
        obtain ⟨a68, q67, e69, h⟩ := iC h
        refine y_V (pc := 71) (M2 := mX10_wrong) (As := [.int 1, .int x64]) (okX10_wrong e69) mvX10_wrong mlRX10_128 dX10_readNumber_71 ⟨by decide, by decide⟩ rfl rfl rfl zrest0 a68 ?_
        refine z_iconst (pc := 74) (v := 0) dX10_readNumber_74 (by decide) ?_
        exact y_zret (pc := 75) dX10_readNumber_75 rfl h
  · replace h := ifp hc h
    refine z_aload_n (pc := 11) 0 rfl dX10_readNumber_11 rfl ?_
    refine z_iconst (pc := 12) (v := 1) dX10_readNumber_12 (by decide) ?_
    refine z_aload_n (pc := 13) 0 rfl dX10_readNumber_13 rfl ?_
    obtain ⟨a71, x70, e72, h⟩ := iI h
    refine y_getI (pc := 14) flRX10_111 dX10_readNumber_14 rfl a71 e72 ?_
    obtain ⟨a74, q73, e75, h⟩ := iC h
    refine y_V (pc := 17) (M2 := mX10_wrong) (As := [.int 1, .int x70]) (okX10_wrong e75) mvX10_wrong mlRX10_128 dX10_readNumber_17 ⟨by decide, by decide⟩ rfl rfl rfl zrest0 a74 ?_
    refine z_iconst (pc := 20) (v := 0) dX10_readNumber_20 (by decide) ?_
    exact y_zret (pc := 21) dX10_readNumber_21 rfl h
def fX10_readBytes_126 (k0 : Nat → zS → Option zS) (l0 : Nat) (s : zS) : Option zS :=
  k0 l0 s
set_option maxRecDepth 100000 in
set_option maxHeartbeats 4000000 in
theorem bX10_readBytes_126 {E : zE} {k0 : Nat → zS → Option zS} (hk0 : ∀ {l0 : Nat} {s : zS} {q : zS}, k0 l0 s = some q → Z E mX10_readBytes 0 [(0, .ref l0)] [] s (0, 0) (zRv E mX10_readBytes q)) {l0 : Nat} {s : zS} {q : zS} (h : fX10_readBytes_126 k0 l0 s = some q) : Z E mX10_readBytes 126 [(0, .ref l0)] [] s (0, 0) (zRv E mX10_readBytes q) := by
  unfold fX10_readBytes_126 at h
  refine z_goto (pc := 126) (tgt := 0) dX10_readBytes_126 (by decide) ?_
  exact z_sub [0] rfl (hk0 h)
def fX10_readBytes_114 (k0 : Nat → zS → Option zS) (n : Nat) : Nat → Int32 → zS → Option zS := match n with
  | 0 => fun _ _ _ => none
  | n + 1 => fun l0 l2 s =>
    if l2 = 0 then
      fX10_readBytes_126 (k0) l0 s
    else
      bnd (cl s 10 l0 (fX10_readNumber l0  s)) fun q43 =>
      (fX10_readBytes_114 k0 n) l0 q43.1 q43.2
set_option maxRecDepth 100000 in
set_option maxHeartbeats 4000000 in
theorem bX10_readBytes_114 {E : zE} {k0 : Nat → zS → Option zS} (hk0 : ∀ {l0 : Nat} {s : zS} {q : zS}, k0 l0 s = some q → Z E mX10_readBytes 0 [(0, .ref l0)] [] s (0, 0) (zRv E mX10_readBytes q)) : ∀ (n : Nat) {l0 : Nat} {l2 : Int32} {s : zS} {q : zS}, fX10_readBytes_114 k0 n l0 l2 s = some q → Z E mX10_readBytes 114 [(0, .ref l0), (2, .int l2)] [] s (0, 0) (zRv E mX10_readBytes q) := by
  intro n
  induction n with
  | zero => intro l0 l2 s q h; cases h
  | succ n ih =>
    intro l0 l2 s q h
    unfold fX10_readBytes_114 at h
    refine z_iload_n (pc := 114) 1 rfl dX10_readBytes_114 rfl ?_
    refine z_if_eq (pc := 115) (tgt := 126) dX10_readBytes_115 (by decide) (fun hc => ?_) (fun hc => ?_)
    · replace h := ifp hc h
      exact z_sub [0] rfl (bX10_readBytes_126 (fun h => hk0 h) h)
    · replace h := ifn hc h
      refine z_aload_n (pc := 118) 0 rfl dX10_readBytes_118 rfl ?_
      obtain ⟨a44, q43, e45, h⟩ := iC h
      refine y_Vi (pc := 119) (M2 := mX10_readNumber) (As := []) (okX10_readNumber e45) mvX10_readNumber mlRX10_204 dX10_readBytes_119 ⟨by decide, by decide⟩ rfl rfl rfl zrest0 a44 ?_
      refine z_istore_n (pc := 122) (ls' := [(2, .int q43.1), (0, .ref l0)]) dX10_readBytes_122 rfl (by decide) (fun _ => rfl) ?_
      refine z_goto (pc := 123) (tgt := 114) dX10_readBytes_123 (by decide) ?_
      exact z_sub [1, 0] rfl (ih h)
def fX10_readBytes_101 (k0 : Nat → zS → Option zS) (l0 : Nat) (t0 : Int32) (t1 : Int32) (t2 : Nat) (s : zS) : Option zS :=
  bnd (uZ s t2 t1 t0) fun s34 =>
  bnd (qI s34 10 l0 5) fun x37 =>
  bnd (wI s34 10 l0 5 (x37 + 1)) fun s40 =>
  fX10_readBytes_114 (k0) zfu l0 1 s40
set_option maxRecDepth 100000 in
set_option maxHeartbeats 4000000 in
theorem bX10_readBytes_101 {E : zE} {k0 : Nat → zS → Option zS} (hk0 : ∀ {l0 : Nat} {s : zS} {q : zS}, k0 l0 s = some q → Z E mX10_readBytes 0 [(0, .ref l0)] [] s (0, 0) (zRv E mX10_readBytes q)) {l0 : Nat} {t0 : Int32} {t1 : Int32} {t2 : Nat} {s : zS} {q : zS} (h : fX10_readBytes_101 k0 l0 t0 t1 t2 s = some q) : Z E mX10_readBytes 101 [(0, .ref l0)] [.int t0, .int t1, .ref t2] s (0, 0) (zRv E mX10_readBytes q) := by
  unfold fX10_readBytes_101 at h
  obtain ⟨a35, s34, e36, h⟩ := kZ h
  refine y_zast (pc := 101) dX10_readBytes_101 a35 e36 ?_
  refine z_aload_n (pc := 102) 0 rfl dX10_readBytes_102 rfl ?_
  refine z_dup (pc := 103) dX10_readBytes_103 (fun _ => rfl) ?_
  obtain ⟨a38, x37, e39, h⟩ := iI h
  refine y_getI (pc := 104) flRX10_108 dX10_readBytes_104 rfl a38 e39 ?_
  refine z_iconst (pc := 107) (v := 1) dX10_readBytes_107 (by decide) ?_
  refine z_iadd (pc := 108) dX10_readBytes_108 ?_
  obtain ⟨a41, s40, e42, h⟩ := jI h
  refine y_putI (pc := 109) flRX10_108 dX10_readBytes_109 rfl (Or.inl rfl) a41 e42 ?_
  refine z_iconst (pc := 112) (v := 1) dX10_readBytes_112 (by decide) ?_
  refine z_istore_n (pc := 113) (ls' := [(2, .int 1), (0, .ref l0)]) dX10_readBytes_113 rfl (by decide) (fun _ => rfl) ?_
  exact z_sub [1, 0] rfl (bX10_readBytes_114 (fun h => hk0 h) _ h)
def fX10_readBytes_71 (k0 : Nat → zS → Option zS) (l0 : Nat) (l1 : Int32) (s : zS) : Option zS :=
  bnd (qI s 10 l0 8) fun x22 =>
  if x22 = 0 then
    bnd (cl s 10 l0 (fX10_beginRow l0  s)) fun q25 =>
    bnd (qR q25 10 l0 25) fun x28 =>
    bnd (qI q25 10 l0 26) fun x31 =>
    if l1 = 100 then
      fX10_readBytes_101 (k0) l0 1 x31 x28 q25
    else
      fX10_readBytes_101 (k0) l0 0 x31 x28 q25
  else
    fX10_readBytes_126 (k0) l0 s
set_option maxRecDepth 100000 in
set_option maxHeartbeats 4000000 in
theorem bX10_readBytes_71 {E : zE} {k0 : Nat → zS → Option zS} (hk0 : ∀ {l0 : Nat} {s : zS} {q : zS}, k0 l0 s = some q → Z E mX10_readBytes 0 [(0, .ref l0)] [] s (0, 0) (zRv E mX10_readBytes q)) {l0 : Nat} {l1 : Int32} {s : zS} {q : zS} (h : fX10_readBytes_71 k0 l0 l1 s = some q) : Z E mX10_readBytes 71 [(0, .ref l0), (1, .int l1)] [] s (0, 0) (zRv E mX10_readBytes q) := by
  unfold fX10_readBytes_71 at h
  refine z_aload_n (pc := 71) 0 rfl dX10_readBytes_71 rfl ?_
  obtain ⟨a23, x22, e24, h⟩ := iI h
  refine y_getI (pc := 72) flRX10_102 dX10_readBytes_72 rfl a23 e24 ?_
  refine z_if_ne (pc := 75) (tgt := 126) dX10_readBytes_75 (by decide) (fun hc => ?_) (fun hc => ?_)
  · replace h := ifn hc h
    exact z_sub [0] rfl (bX10_readBytes_126 (fun h => hk0 h) h)
  · replace h := ifp hc h
    refine z_aload_n (pc := 78) 0 rfl dX10_readBytes_78 rfl ?_
    obtain ⟨a26, q25, e27, h⟩ := iC h
    refine y_V (pc := 79) (M2 := mX10_beginRow) (As := []) (okX10_beginRow e27) mvX10_beginRow mlRX10_172 dX10_readBytes_79 ⟨by decide, by decide⟩ rfl rfl rfl zrest0 a26 ?_
    refine z_aload_n (pc := 82) 0 rfl dX10_readBytes_82 rfl ?_
    obtain ⟨a29, x28, e30, h⟩ := iR h
    refine y_getR (pc := 83) flRX10_51 dX10_readBytes_83 rfl a29 e30 ?_
    refine z_aload_n (pc := 86) 0 rfl dX10_readBytes_86 rfl ?_
    obtain ⟨a32, x31, e33, h⟩ := iI h
    refine y_getI (pc := 87) flRX10_139 dX10_readBytes_87 rfl a32 e33 ?_
    refine z_iload_n (pc := 90) 1 rfl dX10_readBytes_90 rfl ?_
    refine z_bipush (pc := 91) (v := 100) dX10_readBytes_91 (by decide) ?_
    refine z_icmp_ne (pc := 93) (tgt := 100) dX10_readBytes_93 (by decide) (fun hc => ?_) (fun hc => ?_)
    · replace h := ifn hc h
      refine z_iconst (pc := 100) (v := 0) dX10_readBytes_100 (by decide) ?_
      exact z_sub [0] rfl (bX10_readBytes_101 (fun h => hk0 h) h)
    · replace h := ifp hc h
      refine z_iconst (pc := 96) (v := 1) dX10_readBytes_96 (by decide) ?_
      refine z_goto (pc := 97) (tgt := 101) dX10_readBytes_97 (by decide) ?_
      exact z_sub [0] rfl (bX10_readBytes_101 (fun h => hk0 h) h)
def fX10_readBytes_52 (k0 : Nat → zS → Option zS) (l0 : Nat) (l1 : Int32) (s : zS) : Option zS :=
  bnd (qI s 10 l0 26) fun x19 =>
  if x19 = 300 then
    bnd (qI s 10 l0 5) fun x22 =>
    bnd (cl s 10 l0 (fX10_wrong l0 3 x22 s)) fun q25 =>
    fX10_readBytes_71 (k0) l0 l1 q25
  else
    fX10_readBytes_71 (k0) l0 l1 s
set_option maxRecDepth 100000 in
set_option maxHeartbeats 4000000 in
theorem bX10_readBytes_52 {E : zE} {k0 : Nat → zS → Option zS} (hk0 : ∀ {l0 : Nat} {s : zS} {q : zS}, k0 l0 s = some q → Z E mX10_readBytes 0 [(0, .ref l0)] [] s (0, 0) (zRv E mX10_readBytes q)) {l0 : Nat} {l1 : Int32} {s : zS} {q : zS} (h : fX10_readBytes_52 k0 l0 l1 s = some q) : Z E mX10_readBytes 52 [(0, .ref l0), (1, .int l1)] [] s (0, 0) (zRv E mX10_readBytes q) := by
  unfold fX10_readBytes_52 at h
  refine z_aload_n (pc := 52) 0 rfl dX10_readBytes_52 rfl ?_
  obtain ⟨a20, x19, e21, h⟩ := iI h
  refine y_getI (pc := 53) flRX10_139 dX10_readBytes_53 rfl a20 e21 ?_
  refine z_sipush (pc := 56) (v := 300) dX10_readBytes_56 (by decide) ?_
  refine z_icmp_ne (pc := 59) (tgt := 71) dX10_readBytes_59 (by decide) (fun hc => ?_) (fun hc => ?_)
  · replace h := ifn hc h
    exact z_sub [0, 1] rfl (bX10_readBytes_71 (fun h => hk0 h) h)
  · replace h := ifp hc h
    refine z_aload_n (pc := 62) 0 rfl dX10_readBytes_62 rfl ?_
    refine z_iconst (pc := 63) (v := 3) dX10_readBytes_63 (by decide) ?_
    refine z_aload_n (pc := 64) 0 rfl dX10_readBytes_64 rfl ?_
    obtain ⟨a23, x22, e24, h⟩ := iI h
    refine y_getI (pc := 65) flRX10_108 dX10_readBytes_65 rfl a23 e24 ?_
    obtain ⟨a26, q25, e27, h⟩ := iC h
    refine y_V (pc := 68) (M2 := mX10_wrong) (As := [.int 3, .int x22]) (okX10_wrong e27) mvX10_wrong mlRX10_128 dX10_readBytes_68 ⟨by decide, by decide⟩ rfl rfl rfl zrest0 a26 ?_
    exact z_sub [0, 1] rfl (bX10_readBytes_71 (fun h => hk0 h) h)
def fX10_readBytes_0  (n : Nat) : Nat → zS → Option zS := match n with
  | 0 => fun _ _ => none
  | n + 1 => fun l0 s =>
    bnd (qI s 10 l0 8) fun x1 =>
    if x1 = 0 then
      bnd (qI s 10 l0 5) fun x4 =>
      bnd (qI s 10 l0 4) fun x7 =>
      if x7 ≤ x4 then
        some s
      else
        bnd (qR s 10 l0 3) fun x10 =>
        bnd (qI s 10 l0 5) fun x13 =>
        bnd (qA s 12 x10 x13) fun x16 =>
        if x16 = 97 then
          fX10_readBytes_52 ((fX10_readBytes_0  n)) l0 x16 s
        else
          if x16 = 100 then
            fX10_readBytes_52 ((fX10_readBytes_0  n)) l0 x16 s
          else
            bnd (qI s 10 l0 5) fun x19 =>
            bnd (cl s 10 l0 (fX10_wrong l0 1 x19 s)) fun q22 =>
            fX10_readBytes_71 ((fX10_readBytes_0  n)) l0 x16 q22
    else
      some s
set_option maxRecDepth 100000 in
set_option maxHeartbeats 4000000 in
theorem bX10_readBytes_0 {E : zE}  : ∀ (n : Nat) {l0 : Nat} {s : zS} {q : zS}, fX10_readBytes_0  n l0 s = some q → Z E mX10_readBytes 0 [(0, .ref l0)] [] s (0, 0) (zRv E mX10_readBytes q) := by
  intro n
  induction n with
  | zero => intro l0 s q h; cases h
  | succ n ih =>
    intro l0 s q h
    unfold fX10_readBytes_0 at h
    refine z_aload_n (pc := 0) 0 rfl dX10_readBytes_0 rfl ?_
    obtain ⟨a2, x1, e3, h⟩ := iI h
    refine y_getI (pc := 1) flRX10_102 dX10_readBytes_1 rfl a2 e3 ?_
    refine z_if_ne (pc := 4) (tgt := 129) dX10_readBytes_4 (by decide) (fun hc => ?_) (fun hc => ?_)
    · replace h := ifn hc h
      exact y_ret (pc := 129) dX10_readBytes_129 rfl h
    · replace h := ifp hc h
      refine z_aload_n (pc := 7) 0 rfl dX10_readBytes_7 rfl ?_
      obtain ⟨a5, x4, e6, h⟩ := iI h
      refine y_getI (pc := 8) flRX10_108 dX10_readBytes_8 rfl a5 e6 ?_
      refine z_aload_n (pc := 11) 0 rfl dX10_readBytes_11 rfl ?_
      obtain ⟨a8, x7, e9, h⟩ := iI h
      refine y_getI (pc := 12) flRX10_111 dX10_readBytes_12 rfl a8 e9 ?_
      refine z_icmp_ge (pc := 15) (tgt := 129) dX10_readBytes_15 (by decide) (fun hc => ?_) (fun hc => ?_)
      · replace h := ifp hc h
        exact y_ret (pc := 129) dX10_readBytes_129 rfl h
      · replace h := ifn hc h
        refine z_aload_n (pc := 18) 0 rfl dX10_readBytes_18 rfl ?_
        obtain ⟨a11, x10, e12, h⟩ := iR h
        refine y_getR (pc := 19) flRX10_13 dX10_readBytes_19 rfl a11 e12 ?_
        refine z_aload_n (pc := 22) 0 rfl dX10_readBytes_22 rfl ?_
        obtain ⟨a14, x13, e15, h⟩ := iI h
        refine y_getI (pc := 23) flRX10_108 dX10_readBytes_23 rfl a14 e15 ?_
        obtain ⟨a17, x16, e18, h⟩ := iA h
        refine y_iald (pc := 26) dX10_readBytes_26 a17 e18 ?_
        refine z_istore_n (pc := 27) (ls' := [(1, .int x16), (0, .ref l0)]) dX10_readBytes_27 rfl (by decide) (fun _ => rfl) ?_
        refine z_iload_n (pc := 28) 0 rfl dX10_readBytes_28 rfl ?_
        refine z_bipush (pc := 29) (v := 97) dX10_readBytes_29 (by decide) ?_
        refine z_icmp_eq (pc := 31) (tgt := 52) dX10_readBytes_31 (by decide) (fun hc => ?_) (fun hc => ?_)
        · replace h := ifp hc h
          exact z_sub [1, 0] rfl (bX10_readBytes_52 (fun h => ih h) h)
        · replace h := ifn hc h
          refine z_iload_n (pc := 34) 0 rfl dX10_readBytes_34 rfl ?_
          refine z_bipush (pc := 35) (v := 100) dX10_readBytes_35 (by decide) ?_
          refine z_icmp_eq (pc := 37) (tgt := 52) dX10_readBytes_37 (by decide) (fun hc => ?_) (fun hc => ?_)
          · replace h := ifp hc h
            exact z_sub [1, 0] rfl (bX10_readBytes_52 (fun h => ih h) h)
          · replace h := ifn hc h
            refine z_aload_n (pc := 40) 1 rfl dX10_readBytes_40 rfl ?_
            refine z_iconst (pc := 41) (v := 1) dX10_readBytes_41 (by decide) ?_
            refine z_aload_n (pc := 42) 1 rfl dX10_readBytes_42 rfl ?_
            obtain ⟨a20, x19, e21, h⟩ := iI h
            refine y_getI (pc := 43) flRX10_108 dX10_readBytes_43 rfl a20 e21 ?_
            obtain ⟨a23, q22, e24, h⟩ := iC h
            refine y_V (pc := 46) (M2 := mX10_wrong) (As := [.int 1, .int x19]) (okX10_wrong e24) mvX10_wrong mlRX10_128 dX10_readBytes_46 ⟨by decide, by decide⟩ rfl rfl rfl zrest0 a23 ?_
            refine z_goto (pc := 49) (tgt := 71) dX10_readBytes_49 (by decide) ?_
            exact z_sub [1, 0] rfl (bX10_readBytes_71 (fun h => ih h) h)
def fX10_readBytes (l0 : Nat) (s : zS) : Option zS :=
  fX10_readBytes_0  zfu l0 s
set_option maxRecDepth 100000 in
set_option maxHeartbeats 4000000 in
theorem okX10_readBytes {E : zE} {l0 : Nat} {s : zS} {t : zS} (h : fX10_readBytes l0 s = some t) : Cv E mX10_readBytes [.ref l0] s t := by
  refine Ct.of (ls := [(0, .ref l0)]) (by decide) rfl (Nat.le_of_ble_eq_true rfl) ?_
  show Z E mX10_readBytes 0 [(0, .ref l0)] [] s (0, 0) (zRv E mX10_readBytes t)
  unfold fX10_readBytes at h
  exact z_sub [0] rfl (bX10_readBytes_0  _ h)
def fX10_becomesProof_62  (n : Nat) : Nat → Int32 → zS → Option zS := match n with
  | 0 => fun _ _ _ => none
  | n + 1 => fun l0 l1 s =>
    bnd (qI s 10 l0 27) fun x10 =>
    if x10 ≤ l1 then
      bnd (wZ s 10 l0 34 0) fun s13 =>
      bnd (cl s13 10 l0 (fX10_number0 l0  s13)) fun q16 =>
      some q16
    else
      bnd (qR s 10 l0 17) fun x19 =>
      bnd (qR s 10 l0 24) fun x22 =>
      bnd (qA s 12 x22 l1) fun x25 =>
      bnd (uI s x19 l1 x25) fun s28 =>
      (fX10_becomesProof_62  n) l0 (l1 + 1) s28
set_option maxRecDepth 100000 in
set_option maxHeartbeats 4000000 in
theorem bX10_becomesProof_62 {E : zE}  : ∀ (n : Nat) {l0 : Nat} {l1 : Int32} {s : zS} {q : zS}, fX10_becomesProof_62  n l0 l1 s = some q → Z E mX10_becomesProof 62 [(0, .ref l0), (1, .int l1)] [] s (0, 0) (zRv E mX10_becomesProof q) := by
  intro n
  induction n with
  | zero => intro l0 l1 s q h; cases h
  | succ n ih =>
    intro l0 l1 s q h
    unfold fX10_becomesProof_62 at h
    refine z_iload_n (pc := 62) 1 rfl dX10_becomesProof_62 rfl ?_
    refine z_aload_n (pc := 63) 0 rfl dX10_becomesProof_63 rfl ?_
    obtain ⟨a11, x10, e12, h⟩ := iI h
    refine y_getI (pc := 64) flRX10_142 dX10_becomesProof_64 rfl a11 e12 ?_
    refine z_icmp_ge (pc := 67) (tgt := 88) dX10_becomesProof_67 (by decide) (fun hc => ?_) (fun hc => ?_)
    · replace h := ifp hc h
      refine z_aload_n (pc := 88) 0 rfl dX10_becomesProof_88 rfl ?_
      refine z_iconst (pc := 89) (v := 0) dX10_becomesProof_89 (by decide) ?_
      obtain ⟨a14, s13, e15, h⟩ := jZ h
      refine y_putZ (pc := 90) flRX10_191 dX10_becomesProof_90 rfl (Or.inl rfl) a14 e15 ?_
      refine z_aload_n (pc := 93) 0 rfl dX10_becomesProof_93 rfl ?_
      obtain ⟨a17, q16, e18, h⟩ := iC h
      refine y_V (pc := 94) (M2 := mX10_number0) (As := []) (okX10_number0 e18) mvX10_number0 mlRX10_195 dX10_becomesProof_94 ⟨by decide, by decide⟩ rfl rfl rfl zrest0 a17 ?_
      exact y_ret (pc := 97) dX10_becomesProof_97 rfl h
    · replace h := ifn hc h
      refine z_aload_n (pc := 70) 0 rfl dX10_becomesProof_70 rfl ?_
      obtain ⟨a20, x19, e21, h⟩ := iR h
      refine y_getR (pc := 71) flRX10_35 dX10_becomesProof_71 rfl a20 e21 ?_
      refine z_iload_n (pc := 74) 1 rfl dX10_becomesProof_74 rfl ?_
      refine z_aload_n (pc := 75) 0 rfl dX10_becomesProof_75 rfl ?_
      obtain ⟨a23, x22, e24, h⟩ := iR h
      refine y_getR (pc := 76) flRX10_48 dX10_becomesProof_76 rfl a23 e24 ?_
      refine z_iload_n (pc := 79) 1 rfl dX10_becomesProof_79 rfl ?_
      obtain ⟨a26, x25, e27, h⟩ := iA h
      refine y_iald (pc := 80) dX10_becomesProof_80 a26 e27 ?_
      obtain ⟨a29, s28, e30, h⟩ := kI h
      refine y_iast (pc := 81) dX10_becomesProof_81 a29 e30 ?_
      refine z_iinc (pc := 82) (v := (l1 + 1)) (ls' := [(1, .int (l1 + 1)), (0, .ref l0)]) 1 rfl rfl dX10_becomesProof_82 (by decide) (fun _ => rfl) ?_
      refine z_goto (pc := 85) (tgt := 62) dX10_becomesProof_85 (by decide) ?_
      exact z_sub [1, 0] rfl (ih h)
def fX10_becomesProof_10  (n : Nat) : Nat → Int32 → zS → Option zS := match n with
  | 0 => fun _ _ _ => none
  | n + 1 => fun l0 l1 s =>
    bnd (qI s 10 l0 26) fun x7 =>
    if x7 < l1 then
      fX10_becomesProof_62  zfu l0 0 s
    else
      bnd (qR s 10 l0 15) fun x10 =>
      bnd (qR s 10 l0 22) fun x13 =>
      bnd (qA s 12 x13 l1) fun x16 =>
      bnd (uI s x10 l1 x16) fun s19 =>
      bnd (qR s19 10 l0 16) fun x22 =>
      bnd (qR s19 10 l0 23) fun x25 =>
      bnd (qA s19 12 x25 l1) fun x28 =>
      bnd (uI s19 x22 l1 x28) fun s31 =>
      bnd (qR s31 10 l0 18) fun x34 =>
      bnd (qR s31 10 l0 25) fun x37 =>
      bnd (qA s31 13 x37 l1) fun x40 =>
      bnd (uZ s31 x34 l1 x40) fun s43 =>
      (fX10_becomesProof_10  n) l0 (l1 + 1) s43
set_option maxRecDepth 100000 in
set_option maxHeartbeats 4000000 in
theorem bX10_becomesProof_10 {E : zE}  : ∀ (n : Nat) {l0 : Nat} {l1 : Int32} {s : zS} {q : zS}, fX10_becomesProof_10  n l0 l1 s = some q → Z E mX10_becomesProof 10 [(0, .ref l0), (1, .int l1)] [] s (0, 0) (zRv E mX10_becomesProof q) := by
  intro n
  induction n with
  | zero => intro l0 l1 s q h; cases h
  | succ n ih =>
    intro l0 l1 s q h
    unfold fX10_becomesProof_10 at h
    refine z_iload_n (pc := 10) 1 rfl dX10_becomesProof_10 rfl ?_
    refine z_aload_n (pc := 11) 0 rfl dX10_becomesProof_11 rfl ?_
    obtain ⟨a8, x7, e9, h⟩ := iI h
    refine y_getI (pc := 12) flRX10_139 dX10_becomesProof_12 rfl a8 e9 ?_
    refine z_icmp_gt (pc := 15) (tgt := 60) dX10_becomesProof_15 (by decide) (fun hc => ?_) (fun hc => ?_)
    · replace h := ifp hc h
      refine z_iconst (pc := 60) (v := 0) dX10_becomesProof_60 (by decide) ?_
      refine z_istore_n (pc := 61) (ls' := [(1, .int 0), (0, .ref l0)]) dX10_becomesProof_61 rfl (by decide) (fun _ => rfl) ?_
      exact z_sub [1, 0] rfl (bX10_becomesProof_62  _ h)
    · replace h := ifn hc h
      refine z_aload_n (pc := 18) 0 rfl dX10_becomesProof_18 rfl ?_
      obtain ⟨a11, x10, e12, h⟩ := iR h
      refine y_getR (pc := 19) flRX10_29 dX10_becomesProof_19 rfl a11 e12 ?_
      refine z_iload_n (pc := 22) 1 rfl dX10_becomesProof_22 rfl ?_
      refine z_aload_n (pc := 23) 0 rfl dX10_becomesProof_23 rfl ?_
      obtain ⟨a14, x13, e15, h⟩ := iR h
      refine y_getR (pc := 24) flRX10_42 dX10_becomesProof_24 rfl a14 e15 ?_
      refine z_iload_n (pc := 27) 1 rfl dX10_becomesProof_27 rfl ?_
      obtain ⟨a17, x16, e18, h⟩ := iA h
      refine y_iald (pc := 28) dX10_becomesProof_28 a17 e18 ?_
      obtain ⟨a20, s19, e21, h⟩ := kI h
      refine y_iast (pc := 29) dX10_becomesProof_29 a20 e21 ?_
      refine z_aload_n (pc := 30) 0 rfl dX10_becomesProof_30 rfl ?_
      obtain ⟨a23, x22, e24, h⟩ := iR h
      refine y_getR (pc := 31) flRX10_32 dX10_becomesProof_31 rfl a23 e24 ?_
      refine z_iload_n (pc := 34) 1 rfl dX10_becomesProof_34 rfl ?_
      refine z_aload_n (pc := 35) 0 rfl dX10_becomesProof_35 rfl ?_
      obtain ⟨a26, x25, e27, h⟩ := iR h
      refine y_getR (pc := 36) flRX10_45 dX10_becomesProof_36 rfl a26 e27 ?_
      refine z_iload_n (pc := 39) 1 rfl dX10_becomesProof_39 rfl ?_
      obtain ⟨a29, x28, e30, h⟩ := iA h
      refine y_iald (pc := 40) dX10_becomesProof_40 a29 e30 ?_
      obtain ⟨a32, s31, e33, h⟩ := kI h
      refine y_iast (pc := 41) dX10_becomesProof_41 a32 e33 ?_
      refine z_aload_n (pc := 42) 0 rfl dX10_becomesProof_42 rfl ?_
      obtain ⟨a35, x34, e36, h⟩ := iR h
      refine y_getR (pc := 43) flRX10_38 dX10_becomesProof_43 rfl a35 e36 ?_
      refine z_iload_n (pc := 46) 1 rfl dX10_becomesProof_46 rfl ?_
      refine z_aload_n (pc := 47) 0 rfl dX10_becomesProof_47 rfl ?_
      obtain ⟨a38, x37, e39, h⟩ := iR h
      refine y_getR (pc := 48) flRX10_51 dX10_becomesProof_48 rfl a38 e39 ?_
      refine z_iload_n (pc := 51) 1 rfl dX10_becomesProof_51 rfl ?_
      obtain ⟨a41, x40, e42, h⟩ := iA h
      refine y_zald (pc := 52) dX10_becomesProof_52 a41 e42 ?_
      obtain ⟨a44, s43, e45, h⟩ := kZ h
      refine y_zast (pc := 53) dX10_becomesProof_53 a44 e45 ?_
      refine z_iinc (pc := 54) (v := (l1 + 1)) (ls' := [(1, .int (l1 + 1)), (0, .ref l0)]) 1 rfl rfl dX10_becomesProof_54 (by decide) (fun _ => rfl) ?_
      refine z_goto (pc := 57) (tgt := 10) dX10_becomesProof_57 (by decide) ?_
      exact z_sub [1, 0] rfl (ih h)
def fX10_becomesProof (l0 : Nat) (s : zS) : Option zS :=
  bnd (qI s 10 l0 26) fun x1 =>
  bnd (wI s 10 l0 20 x1) fun s4 =>
  fX10_becomesProof_10  zfu l0 1 s4
set_option maxRecDepth 100000 in
set_option maxHeartbeats 4000000 in
theorem okX10_becomesProof {E : zE} {l0 : Nat} {s : zS} {t : zS} (h : fX10_becomesProof l0 s = some t) : Cv E mX10_becomesProof [.ref l0] s t := by
  refine Ct.of (ls := [(0, .ref l0)]) (by decide) rfl (Nat.le_of_ble_eq_true rfl) ?_
  show Z E mX10_becomesProof 0 [(0, .ref l0)] [] s (0, 0) (zRv E mX10_becomesProof t)
  unfold fX10_becomesProof at h
  refine z_aload_n (pc := 0) 0 rfl dX10_becomesProof_0 rfl ?_
  refine z_aload_n (pc := 1) 0 rfl dX10_becomesProof_1 rfl ?_
  obtain ⟨a2, x1, e3, h⟩ := iI h
  refine y_getI (pc := 2) flRX10_139 dX10_becomesProof_2 rfl a2 e3 ?_
  obtain ⟨a5, s4, e6, h⟩ := jI h
  refine y_putI (pc := 5) flRX10_188 dX10_becomesProof_5 rfl (Or.inl rfl) a5 e6 ?_
  refine z_iconst (pc := 8) (v := 1) dX10_becomesProof_8 (by decide) ?_
  refine z_istore_n (pc := 9) (ls' := [(1, .int 1), (0, .ref l0)]) dX10_becomesProof_9 rfl (by decide) (fun _ => rfl) ?_
  exact z_sub [1, 0] rfl (bX10_becomesProof_10  _ h)
def fX10_proof_17  (l0 : Nat) (s : zS) : Option (Int32 × zS) :=
  bnd (cl s 10 l0 (fX10_fail l0  s)) fun q4 =>
  some (q4.1, q4.2)
set_option maxRecDepth 100000 in
set_option maxHeartbeats 4000000 in
theorem bX10_proof_17 {E : zE}   {l0 : Nat} {s : zS} {q : Int32 × zS} (h : fX10_proof_17  l0 s = some q) : Z E mX10_proof 17 [(0, .ref l0)] [] s (0, 0) (zRi E mX10_proof q.1 q.2) := by
  unfold fX10_proof_17 at h
  refine z_aload_n (pc := 17) 0 rfl dX10_proof_17 rfl ?_
  obtain ⟨a5, q4, e6, h⟩ := iC h
  refine y_Vi (pc := 18) (M2 := mX10_fail) (As := []) (okX10_fail e6) mvX10_fail mlRX10_157 dX10_proof_18 ⟨by decide, by decide⟩ rfl rfl rfl zrest0 a5 ?_
  exact y_iret (pc := 21) dX10_proof_21 rfl h
def fX10_proof_53  (l0 : Nat) (s : zS) : Option (Int32 × zS) :=
  bnd (qI s 10 l0 10) fun x16 =>
  some (x16, s)
set_option maxRecDepth 100000 in
set_option maxHeartbeats 4000000 in
theorem bX10_proof_53 {E : zE}   {l0 : Nat} {s : zS} {q : Int32 × zS} (h : fX10_proof_53  l0 s = some q) : Z E mX10_proof 53 [(0, .ref l0)] [] s (0, 0) (zRi E mX10_proof q.1 q.2) := by
  unfold fX10_proof_53 at h
  refine z_aload_n (pc := 53) 0 rfl dX10_proof_53 rfl ?_
  obtain ⟨a17, x16, e18, h⟩ := iI h
  refine y_getI (pc := 54) flRX10_198 dX10_proof_54 rfl a17 e18 ?_
  exact y_iret (pc := 57) dX10_proof_57 rfl h
def fX10_proof_42  (l0 : Nat) (s : zS) : Option (Int32 × zS) :=
  bnd (cl s 10 l0 (fX10_settled l0  s)) fun q13 =>
  if q13.1 = 0 then
    fX10_proof_53  l0 q13.2
  else
    bnd (cl q13.2 10 l0 (fX10_becomesProof l0  q13.2)) fun q16 =>
    fX10_proof_53  l0 q16
set_option maxRecDepth 100000 in
set_option maxHeartbeats 4000000 in
theorem bX10_proof_42 {E : zE}   {l0 : Nat} {s : zS} {q : Int32 × zS} (h : fX10_proof_42  l0 s = some q) : Z E mX10_proof 42 [(0, .ref l0)] [] s (0, 0) (zRi E mX10_proof q.1 q.2) := by
  unfold fX10_proof_42 at h
  refine z_aload_n (pc := 42) 0 rfl dX10_proof_42 rfl ?_
  obtain ⟨a14, q13, e15, h⟩ := iC h
  refine y_Vi (pc := 43) (M2 := mX10_settled) (As := []) (okX10_settled e15) mvX10_settled mlRX10_179 dX10_proof_43 ⟨by decide, by decide⟩ rfl rfl rfl zrest0 a14 ?_
  refine z_if_eq (pc := 46) (tgt := 53) dX10_proof_46 (by decide) (fun hc => ?_) (fun hc => ?_)
  · replace h := ifp hc h
    exact z_sub [0] rfl (bX10_proof_53  h)
  · replace h := ifn hc h
    refine z_aload_n (pc := 49) 0 rfl dX10_proof_49 rfl ?_
    obtain ⟨a17, q16, e18, h⟩ := iC h
    refine y_V (pc := 50) (M2 := mX10_becomesProof) (As := []) (okX10_becomesProof e18) mvX10_becomesProof mlRX10_216 dX10_proof_50 ⟨by decide, by decide⟩ rfl rfl rfl zrest0 a17 ?_
    exact z_sub [0] rfl (bX10_proof_53  h)
def fX10_proof (l0 : Nat) (l1 : Int32) (l2 : Int32) (s : zS) : Option (Int32 × zS) :=
  bnd (wI s 10 l0 0 0) fun s1 =>
  if l1 < 0 then
    fX10_proof_17  l0 s1
  else
    bnd (qI s1 10 l0 2) fun x4 =>
    if l1 ≤ x4 then
      bnd (cl s1 10 l0 (fX10_take l0 l1 s1)) fun q7 =>
      if l2 = 0 then
        bnd (cl q7 10 l0 (fX10_readText l0  q7)) fun q10 =>
        fX10_proof_42  l0 q10
      else
        bnd (cl q7 10 l0 (fX10_readBytes l0  q7)) fun q13 =>
        fX10_proof_42  l0 q13
    else
      fX10_proof_17  l0 s1
set_option maxRecDepth 100000 in
set_option maxHeartbeats 4000000 in
theorem okX10_proof {E : zE} {l0 : Nat} {l1 : Int32} {l2 : Int32} {s : zS} {q : Int32 × zS} (h : fX10_proof l0 l1 l2 s = some q) : Ci E mX10_proof [.ref l0, .int l1, .int l2] s q.1 q.2 := by
  refine Ct.of (ls := [(0, .ref l0), (1, .int l1), (2, .int l2)]) (by decide) rfl (Nat.le_of_ble_eq_true rfl) ?_
  show Z E mX10_proof 0 [(0, .ref l0), (1, .int l1), (2, .int l2)] [] s (0, 0) (zRi E mX10_proof q.1 q.2)
  unfold fX10_proof at h
  refine z_aload_n (pc := 0) 0 rfl dX10_proof_0 rfl ?_
  refine z_iconst (pc := 1) (v := 0) dX10_proof_1 (by decide) ?_
  obtain ⟨a2, s1, e3, h⟩ := jI h
  refine y_putI (pc := 2) flRX10_96 dX10_proof_2 rfl (Or.inl rfl) a2 e3 ?_
  refine z_iload_n (pc := 5) 1 rfl dX10_proof_5 rfl ?_
  refine z_if_lt (pc := 6) (tgt := 17) dX10_proof_6 (by decide) (fun hc => ?_) (fun hc => ?_)
  · replace h := ifp hc h
    exact z_sub [0] rfl (bX10_proof_17  h)
  · replace h := ifn hc h
    refine z_iload_n (pc := 9) 1 rfl dX10_proof_9 rfl ?_
    refine z_aload_n (pc := 10) 0 rfl dX10_proof_10 rfl ?_
    obtain ⟨a5, x4, e6, h⟩ := iI h
    refine y_getI (pc := 11) flRX10_99 dX10_proof_11 rfl a5 e6 ?_
    refine z_icmp_le (pc := 14) (tgt := 22) dX10_proof_14 (by decide) (fun hc => ?_) (fun hc => ?_)
    · replace h := ifp hc h
      refine z_aload_n (pc := 22) 0 rfl dX10_proof_22 rfl ?_
      refine z_iload_n (pc := 23) 1 rfl dX10_proof_23 rfl ?_
      obtain ⟨a8, q7, e9, h⟩ := iC h
      refine y_V (pc := 24) (M2 := mX10_take) (As := [.int l1]) (okX10_take e9) mvX10_take mlRX10_160 dX10_proof_24 ⟨by decide, by decide⟩ rfl rfl rfl zrest0 a8 ?_
      refine z_iload_n (pc := 27) 2 rfl dX10_proof_27 rfl ?_
      refine z_if_eq (pc := 28) (tgt := 38) dX10_proof_28 (by decide) (fun hc => ?_) (fun hc => ?_)
      · replace h := ifp hc h
        refine z_aload_n (pc := 38) 0 rfl dX10_proof_38 rfl ?_
        obtain ⟨a11, q10, e12, h⟩ := iC h
        refine y_V (pc := 39) (M2 := mX10_readText) (As := []) (okX10_readText e12) mvX10_readText mlRX10_213 dX10_proof_39 ⟨by decide, by decide⟩ rfl rfl rfl zrest0 a11 ?_
        exact z_sub [0] rfl (bX10_proof_42  h)
      · replace h := ifn hc h
        refine z_aload_n (pc := 31) 0 rfl dX10_proof_31 rfl ?_
        obtain ⟨a14, q13, e15, h⟩ := iC h
        refine y_V (pc := 32) (M2 := mX10_readBytes) (As := []) (okX10_readBytes e15) mvX10_readBytes mlRX10_210 dX10_proof_32 ⟨by decide, by decide⟩ rfl rfl rfl zrest0 a14 ?_
        refine z_goto (pc := 35) (tgt := 42) dX10_proof_35 (by decide) ?_
        exact z_sub [0] rfl (bX10_proof_42  h)
    · replace h := ifn hc h
      exact z_sub [0] rfl (bX10_proof_17  h)
def fX10_fault_14  (l0 : Nat) (s : zS) : Option (Int32 × zS) :=
  bnd (cl s 10 l0 (fX10_fail l0  s)) fun q4 =>
  some (q4.1, q4.2)
set_option maxRecDepth 100000 in
set_option maxHeartbeats 4000000 in
theorem bX10_fault_14 {E : zE}   {l0 : Nat} {s : zS} {q : Int32 × zS} (h : fX10_fault_14  l0 s = some q) : Z E mX10_fault 14 [(0, .ref l0)] [] s (0, 0) (zRi E mX10_fault q.1 q.2) := by
  unfold fX10_fault_14 at h
  refine z_aload_n (pc := 14) 0 rfl dX10_fault_14 rfl ?_
  obtain ⟨a5, q4, e6, h⟩ := iC h
  refine y_Vi (pc := 15) (M2 := mX10_fail) (As := []) (okX10_fail e6) mvX10_fail mlRX10_157 dX10_fault_15 ⟨by decide, by decide⟩ rfl rfl rfl zrest0 a5 ?_
  exact y_iret (pc := 18) dX10_fault_18 rfl h
def fX10_fault (l0 : Nat) (l1 : Int32) (s : zS) : Option (Int32 × zS) :=
  bnd (wI s 10 l0 0 0) fun s1 =>
  if l1 < 0 then
    fX10_fault_14  l0 s1
  else
    if l1 ≤ 1 then
      if l1 = 0 then
        bnd (qI s1 10 l0 10) fun x7 =>
        some (x7, s1)
      else
        bnd (qI s1 10 l0 11) fun x4 =>
        some (x4, s1)
    else
      fX10_fault_14  l0 s1
set_option maxRecDepth 100000 in
set_option maxHeartbeats 4000000 in
theorem okX10_fault {E : zE} {l0 : Nat} {l1 : Int32} {s : zS} {q : Int32 × zS} (h : fX10_fault l0 l1 s = some q) : Ci E mX10_fault [.ref l0, .int l1] s q.1 q.2 := by
  refine Ct.of (ls := [(0, .ref l0), (1, .int l1)]) (by decide) rfl (Nat.le_of_ble_eq_true rfl) ?_
  show Z E mX10_fault 0 [(0, .ref l0), (1, .int l1)] [] s (0, 0) (zRi E mX10_fault q.1 q.2)
  unfold fX10_fault at h
  refine z_aload_n (pc := 0) 0 rfl dX10_fault_0 rfl ?_
  refine z_iconst (pc := 1) (v := 0) dX10_fault_1 (by decide) ?_
  obtain ⟨a2, s1, e3, h⟩ := jI h
  refine y_putI (pc := 2) flRX10_96 dX10_fault_2 rfl (Or.inl rfl) a2 e3 ?_
  refine z_iload_n (pc := 5) 1 rfl dX10_fault_5 rfl ?_
  refine z_if_lt (pc := 6) (tgt := 14) dX10_fault_6 (by decide) (fun hc => ?_) (fun hc => ?_)
  · replace h := ifp hc h
    exact z_sub [0] rfl (bX10_fault_14  h)
  · replace h := ifn hc h
    refine z_iload_n (pc := 9) 1 rfl dX10_fault_9 rfl ?_
    refine z_iconst (pc := 10) (v := 1) dX10_fault_10 (by decide) ?_
    refine z_icmp_le (pc := 11) (tgt := 19) dX10_fault_11 (by decide) (fun hc => ?_) (fun hc => ?_)
    · replace h := ifp hc h
      refine z_iload_n (pc := 19) 1 rfl dX10_fault_19 rfl ?_
      refine z_if_ne (pc := 20) (tgt := 30) dX10_fault_20 (by decide) (fun hc => ?_) (fun hc => ?_)
      · replace h := ifn hc h
        refine z_aload_n (pc := 30) 0 rfl dX10_fault_30 rfl ?_
        obtain ⟨a5, x4, e6, h⟩ := iI h
        refine y_getI (pc := 31) flRX10_16 dX10_fault_31 rfl a5 e6 ?_
        exact y_iret (pc := 34) dX10_fault_34 rfl h
      · replace h := ifp hc h
        refine z_aload_n (pc := 23) 0 rfl dX10_fault_23 rfl ?_
        obtain ⟨a8, x7, e9, h⟩ := iI h
        refine y_getI (pc := 24) flRX10_198 dX10_fault_24 rfl a8 e9 ?_
        refine z_goto (pc := 27) (tgt := 34) dX10_fault_27 (by decide) ?_
        exact y_iret (pc := 34) dX10_fault_34 rfl h
    · replace h := ifn hc h
      exact z_sub [0] rfl (bX10_fault_14  h)
def fX10_longOf (l0 : Nat) (l1 : Int32) (s : zS) : Option (Int32 × zS) :=
  bnd (qI s 10 l0 19) fun x1 =>
  if x1 < l1 then
    bnd (qR s 10 l0 16) fun x4 =>
    bnd (qR s 10 l0 31) fun x7 =>
    bnd (qA s 12 x7 l1) fun x10 =>
    bnd (qA s 12 x4 x10) fun x13 =>
    some (x13, s)
  else
    bnd (qR s 10 l0 13) fun x16 =>
    bnd (qA s 12 x16 l1) fun x19 =>
    some (x19, s)
set_option maxRecDepth 100000 in
set_option maxHeartbeats 4000000 in
theorem okX10_longOf {E : zE} {l0 : Nat} {l1 : Int32} {s : zS} {q : Int32 × zS} (h : fX10_longOf l0 l1 s = some q) : Ci E mX10_longOf [.ref l0, .int l1] s q.1 q.2 := by
  refine Ct.of (ls := [(0, .ref l0), (1, .int l1)]) (by decide) rfl (Nat.le_of_ble_eq_true rfl) ?_
  show Z E mX10_longOf 0 [(0, .ref l0), (1, .int l1)] [] s (0, 0) (zRi E mX10_longOf q.1 q.2)
  unfold fX10_longOf at h
  refine z_iload_n (pc := 0) 1 rfl dX10_longOf_0 rfl ?_
  refine z_aload_n (pc := 1) 0 rfl dX10_longOf_1 rfl ?_
  obtain ⟨a2, x1, e3, h⟩ := iI h
  refine y_getI (pc := 2) flRX10_185 dX10_longOf_2 rfl a2 e3 ?_
  refine z_icmp_gt (pc := 5) (tgt := 17) dX10_longOf_5 (by decide) (fun hc => ?_) (fun hc => ?_)
  · replace h := ifp hc h
    refine z_aload_n (pc := 17) 0 rfl dX10_longOf_17 rfl ?_
    obtain ⟨a5, x4, e6, h⟩ := iR h
    refine y_getR (pc := 18) flRX10_32 dX10_longOf_18 rfl a5 e6 ?_
    refine z_aload_n (pc := 21) 0 rfl dX10_longOf_21 rfl ?_
    obtain ⟨a8, x7, e9, h⟩ := iR h
    refine y_getR (pc := 22) flRX10_54 dX10_longOf_22 rfl a8 e9 ?_
    refine z_iload_n (pc := 25) 1 rfl dX10_longOf_25 rfl ?_
    obtain ⟨a11, x10, e12, h⟩ := iA h
    refine y_iald (pc := 26) dX10_longOf_26 a11 e12 ?_
    obtain ⟨a14, x13, e15, h⟩ := iA h
    refine y_iald (pc := 27) dX10_longOf_27 a14 e15 ?_
    exact y_iret (pc := 28) dX10_longOf_28 rfl h
  · replace h := ifn hc h
    refine z_aload_n (pc := 8) 0 rfl dX10_longOf_8 rfl ?_
    obtain ⟨a17, x16, e18, h⟩ := iR h
    refine y_getR (pc := 9) flRX10_23 dX10_longOf_9 rfl a17 e18 ?_
    refine z_iload_n (pc := 12) 1 rfl dX10_longOf_12 rfl ?_
    obtain ⟨a20, x19, e21, h⟩ := iA h
    refine y_iald (pc := 13) dX10_longOf_13 a20 e21 ?_
    refine z_goto (pc := 14) (tgt := 28) dX10_longOf_14 (by decide) ?_
    exact y_iret (pc := 28) dX10_longOf_28 rfl h
def fX10_literalOf (l0 : Nat) (l1 : Int32) (l2 : Int32) (s : zS) : Option (Int32 × zS) :=
  bnd (qI s 10 l0 19) fun x1 =>
  if x1 < l1 then
    bnd (qR s 10 l0 17) fun x4 =>
    bnd (qR s 10 l0 15) fun x7 =>
    bnd (qR s 10 l0 31) fun x10 =>
    bnd (qA s 12 x10 l1) fun x13 =>
    bnd (qA s 12 x7 x13) fun x16 =>
    bnd (qA s 12 x4 (x16 + l2)) fun x19 =>
    some (x19, s)
  else
    bnd (qR s 10 l0 14) fun x22 =>
    bnd (qR s 10 l0 12) fun x25 =>
    bnd (qA s 12 x25 l1) fun x28 =>
    bnd (qA s 12 x22 (x28 + l2)) fun x31 =>
    some (x31, s)
set_option maxRecDepth 100000 in
set_option maxHeartbeats 4000000 in
theorem okX10_literalOf {E : zE} {l0 : Nat} {l1 : Int32} {l2 : Int32} {s : zS} {q : Int32 × zS} (h : fX10_literalOf l0 l1 l2 s = some q) : Ci E mX10_literalOf [.ref l0, .int l1, .int l2] s q.1 q.2 := by
  refine Ct.of (ls := [(0, .ref l0), (1, .int l1), (2, .int l2)]) (by decide) rfl (Nat.le_of_ble_eq_true rfl) ?_
  show Z E mX10_literalOf 0 [(0, .ref l0), (1, .int l1), (2, .int l2)] [] s (0, 0) (zRi E mX10_literalOf q.1 q.2)
  unfold fX10_literalOf at h
  refine z_iload_n (pc := 0) 1 rfl dX10_literalOf_0 rfl ?_
  refine z_aload_n (pc := 1) 0 rfl dX10_literalOf_1 rfl ?_
  obtain ⟨a2, x1, e3, h⟩ := iI h
  refine y_getI (pc := 2) flRX10_185 dX10_literalOf_2 rfl a2 e3 ?_
  refine z_icmp_gt (pc := 5) (tgt := 24) dX10_literalOf_5 (by decide) (fun hc => ?_) (fun hc => ?_)
  · replace h := ifp hc h
    refine z_aload_n (pc := 24) 0 rfl dX10_literalOf_24 rfl ?_
    obtain ⟨a5, x4, e6, h⟩ := iR h
    refine y_getR (pc := 25) flRX10_35 dX10_literalOf_25 rfl a5 e6 ?_
    refine z_aload_n (pc := 28) 0 rfl dX10_literalOf_28 rfl ?_
    obtain ⟨a8, x7, e9, h⟩ := iR h
    refine y_getR (pc := 29) flRX10_29 dX10_literalOf_29 rfl a8 e9 ?_
    refine z_aload_n (pc := 32) 0 rfl dX10_literalOf_32 rfl ?_
    obtain ⟨a11, x10, e12, h⟩ := iR h
    refine y_getR (pc := 33) flRX10_54 dX10_literalOf_33 rfl a11 e12 ?_
    refine z_iload_n (pc := 36) 1 rfl dX10_literalOf_36 rfl ?_
    obtain ⟨a14, x13, e15, h⟩ := iA h
    refine y_iald (pc := 37) dX10_literalOf_37 a14 e15 ?_
    obtain ⟨a17, x16, e18, h⟩ := iA h
    refine y_iald (pc := 38) dX10_literalOf_38 a17 e18 ?_
    refine z_iload_n (pc := 39) 2 rfl dX10_literalOf_39 rfl ?_
    refine z_iadd (pc := 40) dX10_literalOf_40 ?_
    obtain ⟨a20, x19, e21, h⟩ := iA h
    refine y_iald (pc := 41) dX10_literalOf_41 a20 e21 ?_
    exact y_iret (pc := 42) dX10_literalOf_42 rfl h
  · replace h := ifn hc h
    refine z_aload_n (pc := 8) 0 rfl dX10_literalOf_8 rfl ?_
    obtain ⟨a23, x22, e24, h⟩ := iR h
    refine y_getR (pc := 9) flRX10_26 dX10_literalOf_9 rfl a23 e24 ?_
    refine z_aload_n (pc := 12) 0 rfl dX10_literalOf_12 rfl ?_
    obtain ⟨a26, x25, e27, h⟩ := iR h
    refine y_getR (pc := 13) flRX10_20 dX10_literalOf_13 rfl a26 e27 ?_
    refine z_iload_n (pc := 16) 1 rfl dX10_literalOf_16 rfl ?_
    obtain ⟨a29, x28, e30, h⟩ := iA h
    refine y_iald (pc := 17) dX10_literalOf_17 a29 e30 ?_
    refine z_iload_n (pc := 18) 2 rfl dX10_literalOf_18 rfl ?_
    refine z_iadd (pc := 19) dX10_literalOf_19 ?_
    obtain ⟨a32, x31, e33, h⟩ := iA h
    refine y_iald (pc := 20) dX10_literalOf_20 a32 e33 ?_
    refine z_goto (pc := 21) (tgt := 42) dX10_literalOf_21 (by decide) ?_
    exact y_iret (pc := 42) dX10_literalOf_42 rfl h
def fX10_has_35 (k5 : Nat → Int32 → Int32 → Int32 → Int32 → zS → Option (Int32 × zS)) (l0 : Nat) (l1 : Int32) (l2 : Int32) (l4 : Int32) (t0 : Int32) (s : zS) : Option (Int32 × zS) :=
  k5 l0 l1 l2 t0 (l4 + 1) s
set_option maxRecDepth 100000 in
set_option maxHeartbeats 4000000 in
theorem bX10_has_35 {E : zE} {k5 : Nat → Int32 → Int32 → Int32 → Int32 → zS → Option (Int32 × zS)} (hk5 : ∀ {l0 : Nat} {l1 : Int32} {l2 : Int32} {l3 : Int32} {l4 : Int32} {s : zS} {q : Int32 × zS}, k5 l0 l1 l2 l3 l4 s = some q → Z E mX10_has 5 [(0, .ref l0), (1, .int l1), (2, .int l2), (3, .int l3), (4, .int l4)] [] s (0, 0) (zRi E mX10_has q.1 q.2)) {l0 : Nat} {l1 : Int32} {l2 : Int32} {l4 : Int32} {t0 : Int32} {s : zS} {q : Int32 × zS} (h : fX10_has_35 k5 l0 l1 l2 l4 t0 s = some q) : Z E mX10_has 35 [(0, .ref l0), (1, .int l1), (2, .int l2), (4, .int l4)] [.int t0] s (0, 0) (zRi E mX10_has q.1 q.2) := by
  unfold fX10_has_35 at h
  refine z_istore_n (pc := 35) (ls' := [(3, .int t0), (0, .ref l0), (1, .int l1), (2, .int l2), (4, .int l4)]) dX10_has_35 rfl (by decide) (fun _ => rfl) ?_
  refine z_iinc (pc := 36) (v := (l4 + 1)) (ls' := [(4, .int (l4 + 1)), (3, .int t0), (0, .ref l0), (1, .int l1), (2, .int l2)]) 4 rfl rfl dX10_has_36 (by decide) (fun _ => rfl) ?_
  refine z_goto (pc := 39) (tgt := 5) dX10_has_39 (by decide) ?_
  exact z_sub [2, 3, 4, 1, 0] rfl (hk5 h)
def fX10_has_30 (k5 : Nat → Int32 → Int32 → Int32 → Int32 → zS → Option (Int32 × zS)) (l0 : Nat) (l1 : Int32) (l2 : Int32) (l4 : Int32) (s : zS) : Option (Int32 × zS) :=
  fX10_has_35 (k5) l0 l1 l2 l4 1 s
set_option maxRecDepth 100000 in
set_option maxHeartbeats 4000000 in
theorem bX10_has_30 {E : zE} {k5 : Nat → Int32 → Int32 → Int32 → Int32 → zS → Option (Int32 × zS)} (hk5 : ∀ {l0 : Nat} {l1 : Int32} {l2 : Int32} {l3 : Int32} {l4 : Int32} {s : zS} {q : Int32 × zS}, k5 l0 l1 l2 l3 l4 s = some q → Z E mX10_has 5 [(0, .ref l0), (1, .int l1), (2, .int l2), (3, .int l3), (4, .int l4)] [] s (0, 0) (zRi E mX10_has q.1 q.2)) {l0 : Nat} {l1 : Int32} {l2 : Int32} {l4 : Int32} {s : zS} {q : Int32 × zS} (h : fX10_has_30 k5 l0 l1 l2 l4 s = some q) : Z E mX10_has 30 [(0, .ref l0), (1, .int l1), (2, .int l2), (4, .int l4)] [] s (0, 0) (zRi E mX10_has q.1 q.2) := by
  unfold fX10_has_30 at h
  refine z_iconst (pc := 30) (v := 1) dX10_has_30 (by decide) ?_
  refine z_goto (pc := 31) (tgt := 35) dX10_has_31 (by decide) ?_
  exact z_sub [0, 1, 2, 3] rfl (bX10_has_35 (fun h => hk5 h) h)
def fX10_has_5  (n : Nat) : Nat → Int32 → Int32 → Int32 → Int32 → zS → Option (Int32 × zS) := match n with
  | 0 => fun _ _ _ _ _ _ => none
  | n + 1 => fun l0 l1 l2 l3 l4 s =>
    bnd (cl s 10 l0 (fX10_longOf l0 l1 s)) fun q1 =>
    if q1.1 ≤ l4 then
      gd (l3 = 0 ∨ l3 = 1) (some (l3, q1.2))
    else
      if l3 = 0 then
        bnd (cl q1.2 10 l0 (fX10_literalOf l0 l1 l4 q1.2)) fun q4 =>
        if q4.1 = l2 then
          fX10_has_30 ((fX10_has_5  n)) l0 l1 l2 l4 q4.2
        else
          fX10_has_35 ((fX10_has_5  n)) l0 l1 l2 l4 0 q4.2
      else
        fX10_has_30 ((fX10_has_5  n)) l0 l1 l2 l4 q1.2
set_option maxRecDepth 100000 in
set_option maxHeartbeats 4000000 in
theorem bX10_has_5 {E : zE}  : ∀ (n : Nat) {l0 : Nat} {l1 : Int32} {l2 : Int32} {l3 : Int32} {l4 : Int32} {s : zS} {q : Int32 × zS}, fX10_has_5  n l0 l1 l2 l3 l4 s = some q → Z E mX10_has 5 [(0, .ref l0), (1, .int l1), (2, .int l2), (3, .int l3), (4, .int l4)] [] s (0, 0) (zRi E mX10_has q.1 q.2) := by
  intro n
  induction n with
  | zero => intro l0 l1 l2 l3 l4 s q h; cases h
  | succ n ih =>
    intro l0 l1 l2 l3 l4 s q h
    unfold fX10_has_5 at h
    refine z_iload (pc := 5) 4 rfl dX10_has_5 ?_
    refine z_aload_n (pc := 7) 0 rfl dX10_has_7 rfl ?_
    refine z_iload_n (pc := 8) 1 rfl dX10_has_8 rfl ?_
    obtain ⟨a2, q1, e3, h⟩ := iC h
    refine y_Vi (pc := 9) (M2 := mX10_longOf) (As := [.int l1]) (okX10_longOf e3) mvX10_longOf mlRX10_219 dX10_has_9 ⟨by decide, by decide⟩ rfl rfl rfl (fun _ => Nat.le_of_ble_eq_true rfl) a2 ?_
    refine z_icmp_ge (pc := 12) (tgt := 42) dX10_has_12 (by decide) (fun hc => ?_) (fun hc => ?_)
    · replace h := ifp hc h
      refine z_iload_n (pc := 42) 3 rfl dX10_has_42 rfl ?_
      exact y_zret (pc := 43) dX10_has_43 rfl h
    · replace h := ifn hc h
      refine z_iload_n (pc := 15) 3 rfl dX10_has_15 rfl ?_
      refine z_if_ne (pc := 16) (tgt := 30) dX10_has_16 (by decide) (fun hc => ?_) (fun hc => ?_)
      · replace h := ifn hc h
        exact z_sub [0, 1, 2, 4] rfl (bX10_has_30 (fun h => ih h) h)
      · replace h := ifp hc h
        refine z_aload_n (pc := 19) 0 rfl dX10_has_19 rfl ?_
        refine z_iload_n (pc := 20) 1 rfl dX10_has_20 rfl ?_
        refine z_iload (pc := 21) 4 rfl dX10_has_21 ?_
        obtain ⟨a5, q4, e6, h⟩ := iC h
        refine y_Vi (pc := 23) (M2 := mX10_literalOf) (As := [.int l1, .int l4]) (okX10_literalOf e6) mvX10_literalOf mlRX10_222 dX10_has_23 ⟨by decide, by decide⟩ rfl rfl rfl zrest0 a5 ?_
        refine z_iload_n (pc := 26) 2 rfl dX10_has_26 rfl ?_
        refine z_icmp_ne (pc := 27) (tgt := 34) dX10_has_27 (by decide) (fun hc => ?_) (fun hc => ?_)
        · replace h := ifn hc h
          refine z_iconst (pc := 34) (v := 0) dX10_has_34 (by decide) ?_
          exact z_sub [0, 1, 2, 4] rfl (bX10_has_35 (fun h => ih h) h)
        · replace h := ifp hc h
          exact z_sub [0, 1, 2, 4] rfl (bX10_has_30 (fun h => ih h) h)
def fX10_has (l0 : Nat) (l1 : Int32) (l2 : Int32) (s : zS) : Option (Int32 × zS) :=
  fX10_has_5  zfu l0 l1 l2 0 0 s
set_option maxRecDepth 100000 in
set_option maxHeartbeats 4000000 in
theorem okX10_has {E : zE} {l0 : Nat} {l1 : Int32} {l2 : Int32} {s : zS} {q : Int32 × zS} (h : fX10_has l0 l1 l2 s = some q) : Ci E mX10_has [.ref l0, .int l1, .int l2] s q.1 q.2 := by
  refine Ct.of (ls := [(0, .ref l0), (1, .int l1), (2, .int l2)]) (by decide) rfl (Nat.le_of_ble_eq_true rfl) ?_
  show Z E mX10_has 0 [(0, .ref l0), (1, .int l1), (2, .int l2)] [] s (0, 0) (zRi E mX10_has q.1 q.2)
  unfold fX10_has at h
  refine z_iconst (pc := 0) (v := 0) dX10_has_0 (by decide) ?_
  refine z_istore_n (pc := 1) (ls' := [(3, .int 0), (0, .ref l0), (1, .int l1), (2, .int l2)]) dX10_has_1 rfl (by decide) (fun _ => rfl) ?_
  refine z_iconst (pc := 2) (v := 0) dX10_has_2 (by decide) ?_
  refine z_istore (pc := 3) (ls' := [(4, .int 0), (3, .int 0), (0, .ref l0), (1, .int l1), (2, .int l2)]) dX10_has_3 (by decide) (fun _ => rfl) ?_
  exact z_sub [2, 3, 4, 1, 0] rfl (bX10_has_5  _ h)
def fX10_valueOf (l0 : Nat) (l1 : Int32) (s : zS) : Option (Int32 × zS) :=
  if l1 ≤ 0 then
    bnd (qR s 10 l0 46) fun x1 =>
    bnd (qA s 12 x1 (-l1)) fun x4 =>
    some ((-x4), s)
  else
    bnd (qR s 10 l0 46) fun x7 =>
    bnd (qA s 12 x7 l1) fun x10 =>
    some (x10, s)
set_option maxRecDepth 100000 in
set_option maxHeartbeats 4000000 in
theorem okX10_valueOf {E : zE} {l0 : Nat} {l1 : Int32} {s : zS} {q : Int32 × zS} (h : fX10_valueOf l0 l1 s = some q) : Ci E mX10_valueOf [.ref l0, .int l1] s q.1 q.2 := by
  refine Ct.of (ls := [(0, .ref l0), (1, .int l1)]) (by decide) rfl (Nat.le_of_ble_eq_true rfl) ?_
  show Z E mX10_valueOf 0 [(0, .ref l0), (1, .int l1)] [] s (0, 0) (zRi E mX10_valueOf q.1 q.2)
  unfold fX10_valueOf at h
  refine z_iload_n (pc := 0) 1 rfl dX10_valueOf_0 rfl ?_
  refine z_if_le (pc := 1) (tgt := 13) dX10_valueOf_1 (by decide) (fun hc => ?_) (fun hc => ?_)
  · replace h := ifp hc h
    refine z_aload_n (pc := 13) 0 rfl dX10_valueOf_13 rfl ?_
    obtain ⟨a2, x1, e3, h⟩ := iR h
    refine y_getR (pc := 14) flRX10_75 dX10_valueOf_14 rfl a2 e3 ?_
    refine z_iload_n (pc := 17) 1 rfl dX10_valueOf_17 rfl ?_
    refine z_ineg (pc := 18) dX10_valueOf_18 ?_
    obtain ⟨a5, x4, e6, h⟩ := iA h
    refine y_iald (pc := 19) dX10_valueOf_19 a5 e6 ?_
    refine z_ineg (pc := 20) dX10_valueOf_20 ?_
    exact y_iret (pc := 21) dX10_valueOf_21 rfl h
  · replace h := ifn hc h
    refine z_aload_n (pc := 4) 0 rfl dX10_valueOf_4 rfl ?_
    obtain ⟨a8, x7, e9, h⟩ := iR h
    refine y_getR (pc := 5) flRX10_75 dX10_valueOf_5 rfl a8 e9 ?_
    refine z_iload_n (pc := 8) 1 rfl dX10_valueOf_8 rfl ?_
    obtain ⟨a11, x10, e12, h⟩ := iA h
    refine y_iald (pc := 9) dX10_valueOf_9 a11 e12 ?_
    refine z_goto (pc := 10) (tgt := 21) dX10_valueOf_10 (by decide) ?_
    exact y_iret (pc := 21) dX10_valueOf_21 rfl h
def fX10_begin_2  (n : Nat) : Nat → Int32 → zS → Option zS := match n with
  | 0 => fun _ _ _ => none
  | n + 1 => fun l0 l1 s =>
    if 150 < l1 then
      bnd (wI s 10 l0 49 0) fun s1 =>
      bnd (wZ s1 10 l0 51 0) fun s4 =>
      bnd (wI s4 10 l0 50 0) fun s7 =>
      some s7
    else
      bnd (qR s 10 l0 46) fun x10 =>
      bnd (uI s x10 l1 0) fun s13 =>
      (fX10_begin_2  n) l0 (l1 + 1) s13
set_option maxRecDepth 100000 in
set_option maxHeartbeats 4000000 in
theorem bX10_begin_2 {E : zE}  : ∀ (n : Nat) {l0 : Nat} {l1 : Int32} {s : zS} {q : zS}, fX10_begin_2  n l0 l1 s = some q → Z E mX10_begin 2 [(0, .ref l0), (1, .int l1)] [] s (0, 0) (zRv E mX10_begin q) := by
  intro n
  induction n with
  | zero => intro l0 l1 s q h; cases h
  | succ n ih =>
    intro l0 l1 s q h
    unfold fX10_begin_2 at h
    refine z_iload_n (pc := 2) 1 rfl dX10_begin_2 rfl ?_
    refine z_sipush (pc := 3) (v := 150) dX10_begin_3 (by decide) ?_
    refine z_icmp_gt (pc := 6) (tgt := 22) dX10_begin_6 (by decide) (fun hc => ?_) (fun hc => ?_)
    · replace h := ifp hc h
      refine z_aload_n (pc := 22) 0 rfl dX10_begin_22 rfl ?_
      refine z_iconst (pc := 23) (v := 0) dX10_begin_23 (by decide) ?_
      obtain ⟨a2, s1, e3, h⟩ := jI h
      refine y_putI (pc := 24) flRX10_226 dX10_begin_24 rfl (Or.inl rfl) a2 e3 ?_
      refine z_aload_n (pc := 27) 0 rfl dX10_begin_27 rfl ?_
      refine z_iconst (pc := 28) (v := 0) dX10_begin_28 (by decide) ?_
      obtain ⟨a5, s4, e6, h⟩ := jZ h
      refine y_putZ (pc := 29) flRX10_229 dX10_begin_29 rfl (Or.inl rfl) a5 e6 ?_
      refine z_aload_n (pc := 32) 0 rfl dX10_begin_32 rfl ?_
      refine z_iconst (pc := 33) (v := 0) dX10_begin_33 (by decide) ?_
      obtain ⟨a8, s7, e9, h⟩ := jI h
      refine y_putI (pc := 34) flRX10_232 dX10_begin_34 rfl (Or.inl rfl) a8 e9 ?_
      exact y_ret (pc := 37) dX10_begin_37 rfl h
    · replace h := ifn hc h
      refine z_aload_n (pc := 9) 0 rfl dX10_begin_9 rfl ?_
      obtain ⟨a11, x10, e12, h⟩ := iR h
      refine y_getR (pc := 10) flRX10_75 dX10_begin_10 rfl a11 e12 ?_
      refine z_iload_n (pc := 13) 1 rfl dX10_begin_13 rfl ?_
      refine z_iconst (pc := 14) (v := 0) dX10_begin_14 (by decide) ?_
      obtain ⟨a14, s13, e15, h⟩ := kI h
      refine y_iast (pc := 15) dX10_begin_15 a14 e15 ?_
      refine z_iinc (pc := 16) (v := (l1 + 1)) (ls' := [(1, .int (l1 + 1)), (0, .ref l0)]) 1 rfl rfl dX10_begin_16 (by decide) (fun _ => rfl) ?_
      refine z_goto (pc := 19) (tgt := 2) dX10_begin_19 (by decide) ?_
      exact z_sub [1, 0] rfl (ih h)
def fX10_begin (l0 : Nat) (s : zS) : Option zS :=
  fX10_begin_2  zfu l0 0 s
set_option maxRecDepth 100000 in
set_option maxHeartbeats 4000000 in
theorem okX10_begin {E : zE} {l0 : Nat} {s : zS} {t : zS} (h : fX10_begin l0 s = some t) : Cv E mX10_begin [.ref l0] s t := by
  refine Ct.of (ls := [(0, .ref l0)]) (by decide) rfl (Nat.le_of_ble_eq_true rfl) ?_
  show Z E mX10_begin 0 [(0, .ref l0)] [] s (0, 0) (zRv E mX10_begin t)
  unfold fX10_begin at h
  refine z_iconst (pc := 0) (v := 0) dX10_begin_0 (by decide) ?_
  refine z_istore_n (pc := 1) (ls' := [(1, .int 0), (0, .ref l0)]) dX10_begin_1 rfl (by decide) (fun _ => rfl) ?_
  exact z_sub [1, 0] rfl (bX10_begin_2  _ h)
def fX10_becomes_46  (l0 : Nat) (l1 : Int32) (l2 : Int32) (t0 : Int32) (t1 : Int32) (t2 : Nat) (s : zS) : Option zS :=
  bnd (uI s t2 t1 t0) fun s13 =>
  bnd (qR s13 10 l0 47) fun x16 =>
  bnd (qI s13 10 l0 49) fun x19 =>
  bnd (uI s13 x16 x19 l1) fun s22 =>
  bnd (qR s22 10 l0 48) fun x25 =>
  bnd (qI s22 10 l0 49) fun x28 =>
  bnd (uI s22 x25 x28 l2) fun s31 =>
  bnd (qI s31 10 l0 49) fun x34 =>
  bnd (wI s31 10 l0 49 (x34 + 1)) fun s37 =>
  some s37
set_option maxRecDepth 100000 in
set_option maxHeartbeats 4000000 in
theorem bX10_becomes_46 {E : zE}   {l0 : Nat} {l1 : Int32} {l2 : Int32} {t0 : Int32} {t1 : Int32} {t2 : Nat} {s : zS} {q : zS} (h : fX10_becomes_46  l0 l1 l2 t0 t1 t2 s = some q) : Z E mX10_becomes 46 [(0, .ref l0), (1, .int l1), (2, .int l2)] [.int t0, .int t1, .ref t2] s (0, 0) (zRv E mX10_becomes q) := by
  unfold fX10_becomes_46 at h
  obtain ⟨a14, s13, e15, h⟩ := kI h
  refine y_iast (pc := 46) dX10_becomes_46 a14 e15 ?_
  refine z_aload_n (pc := 47) 0 rfl dX10_becomes_47 rfl ?_
  obtain ⟨a17, x16, e18, h⟩ := iR h
  refine y_getR (pc := 48) flRX10_78 dX10_becomes_48 rfl a17 e18 ?_
  refine z_aload_n (pc := 51) 0 rfl dX10_becomes_51 rfl ?_
  obtain ⟨a20, x19, e21, h⟩ := iI h
  refine y_getI (pc := 52) flRX10_226 dX10_becomes_52 rfl a20 e21 ?_
  refine z_iload_n (pc := 55) 1 rfl dX10_becomes_55 rfl ?_
  obtain ⟨a23, s22, e24, h⟩ := kI h
  refine y_iast (pc := 56) dX10_becomes_56 a23 e24 ?_
  refine z_aload_n (pc := 57) 0 rfl dX10_becomes_57 rfl ?_
  obtain ⟨a26, x25, e27, h⟩ := iR h
  refine y_getR (pc := 58) flRX10_81 dX10_becomes_58 rfl a26 e27 ?_
  refine z_aload_n (pc := 61) 0 rfl dX10_becomes_61 rfl ?_
  obtain ⟨a29, x28, e30, h⟩ := iI h
  refine y_getI (pc := 62) flRX10_226 dX10_becomes_62 rfl a29 e30 ?_
  refine z_iload_n (pc := 65) 2 rfl dX10_becomes_65 rfl ?_
  obtain ⟨a32, s31, e33, h⟩ := kI h
  refine y_iast (pc := 66) dX10_becomes_66 a32 e33 ?_
  refine z_aload_n (pc := 67) 0 rfl dX10_becomes_67 rfl ?_
  refine z_dup (pc := 68) dX10_becomes_68 (fun _ => rfl) ?_
  obtain ⟨a35, x34, e36, h⟩ := iI h
  refine y_getI (pc := 69) flRX10_226 dX10_becomes_69 rfl a35 e36 ?_
  refine z_iconst (pc := 72) (v := 1) dX10_becomes_72 (by decide) ?_
  refine z_iadd (pc := 73) dX10_becomes_73 ?_
  obtain ⟨a38, s37, e39, h⟩ := jI h
  refine y_putI (pc := 74) flRX10_226 dX10_becomes_74 rfl (Or.inl rfl) a38 e39 ?_
  exact y_ret (pc := 77) dX10_becomes_77 rfl h
def fX10_becomes_37  (l0 : Nat) (l1 : Int32) (l2 : Int32) (t0 : Int32) (t1 : Nat) (s : zS) : Option zS :=
  if l1 ≤ 0 then
    fX10_becomes_46  l0 l1 l2 (-1) t0 t1 s
  else
    fX10_becomes_46  l0 l1 l2 1 t0 t1 s
set_option maxRecDepth 100000 in
set_option maxHeartbeats 4000000 in
theorem bX10_becomes_37 {E : zE}   {l0 : Nat} {l1 : Int32} {l2 : Int32} {t0 : Int32} {t1 : Nat} {s : zS} {q : zS} (h : fX10_becomes_37  l0 l1 l2 t0 t1 s = some q) : Z E mX10_becomes 37 [(0, .ref l0), (1, .int l1), (2, .int l2)] [.int t0, .ref t1] s (0, 0) (zRv E mX10_becomes q) := by
  unfold fX10_becomes_37 at h
  refine z_iload_n (pc := 37) 1 rfl dX10_becomes_37 rfl ?_
  refine z_if_le (pc := 38) (tgt := 45) dX10_becomes_38 (by decide) (fun hc => ?_) (fun hc => ?_)
  · replace h := ifp hc h
    refine z_iconst (pc := 45) (v := (-1)) dX10_becomes_45 (by decide) ?_
    exact z_sub [0, 1, 2] rfl (bX10_becomes_46  h)
  · replace h := ifn hc h
    refine z_iconst (pc := 41) (v := 1) dX10_becomes_41 (by decide) ?_
    refine z_goto (pc := 42) (tgt := 46) dX10_becomes_42 (by decide) ?_
    exact z_sub [0, 1, 2] rfl (bX10_becomes_46  h)
def fX10_becomes (l0 : Nat) (l1 : Int32) (l2 : Int32) (s : zS) : Option zS :=
  bnd (qI s 10 l0 38) fun x1 =>
  if x1 = 0 then
    bnd (wZ s 10 l0 52 1) fun s13 =>
    some s13
  else
    bnd (qI s 10 l0 38) fun x4 =>
    bnd (wI s 10 l0 38 (x4 - 1)) fun s7 =>
    bnd (qR s7 10 l0 46) fun x10 =>
    if l1 ≤ 0 then
      fX10_becomes_37  l0 l1 l2 (-l1) x10 s7
    else
      fX10_becomes_37  l0 l1 l2 l1 x10 s7
set_option maxRecDepth 100000 in
set_option maxHeartbeats 4000000 in
theorem okX10_becomes {E : zE} {l0 : Nat} {l1 : Int32} {l2 : Int32} {s : zS} {t : zS} (h : fX10_becomes l0 l1 l2 s = some t) : Cv E mX10_becomes [.ref l0, .int l1, .int l2] s t := by
  refine Ct.of (ls := [(0, .ref l0), (1, .int l1), (2, .int l2)]) (by decide) rfl (Nat.le_of_ble_eq_true rfl) ?_
  show Z E mX10_becomes 0 [(0, .ref l0), (1, .int l1), (2, .int l2)] [] s (0, 0) (zRv E mX10_becomes t)
  unfold fX10_becomes at h
  refine z_aload_n (pc := 0) 0 rfl dX10_becomes_0 rfl ?_
  obtain ⟨a2, x1, e3, h⟩ := iI h
  refine y_getI (pc := 1) flRX10_235 dX10_becomes_1 rfl a2 e3 ?_
  refine z_if_ne (pc := 4) (tgt := 13) dX10_becomes_4 (by decide) (fun hc => ?_) (fun hc => ?_)
  · replace h := ifn hc h
    refine z_aload_n (pc := 13) 0 rfl dX10_becomes_13 rfl ?_
    refine z_dup (pc := 14) dX10_becomes_14 (fun _ => rfl) ?_
    obtain ⟨a5, x4, e6, h⟩ := iI h
    refine y_getI (pc := 15) flRX10_235 dX10_becomes_15 rfl a5 e6 ?_
    refine z_iconst (pc := 18) (v := 1) dX10_becomes_18 (by decide) ?_
    refine z_isub (pc := 19) dX10_becomes_19 ?_
    obtain ⟨a8, s7, e9, h⟩ := jI h
    refine y_putI (pc := 20) flRX10_235 dX10_becomes_20 rfl (Or.inl rfl) a8 e9 ?_
    refine z_aload_n (pc := 23) 0 rfl dX10_becomes_23 rfl ?_
    obtain ⟨a11, x10, e12, h⟩ := iR h
    refine y_getR (pc := 24) flRX10_75 dX10_becomes_24 rfl a11 e12 ?_
    refine z_iload_n (pc := 27) 1 rfl dX10_becomes_27 rfl ?_
    refine z_if_le (pc := 28) (tgt := 35) dX10_becomes_28 (by decide) (fun hc => ?_) (fun hc => ?_)
    · replace h := ifp hc h
      refine z_iload_n (pc := 35) 1 rfl dX10_becomes_35 rfl ?_
      refine z_ineg (pc := 36) dX10_becomes_36 ?_
      exact z_sub [0, 1, 2] rfl (bX10_becomes_37  h)
    · replace h := ifn hc h
      refine z_iload_n (pc := 31) 1 rfl dX10_becomes_31 rfl ?_
      refine z_goto (pc := 32) (tgt := 37) dX10_becomes_32 (by decide) ?_
      exact z_sub [0, 1, 2] rfl (bX10_becomes_37  h)
  · replace h := ifp hc h
    refine z_aload_n (pc := 7) 0 rfl dX10_becomes_7 rfl ?_
    refine z_iconst (pc := 8) (v := 1) dX10_becomes_8 (by decide) ?_
    obtain ⟨a14, s13, e15, h⟩ := jZ h
    refine y_putZ (pc := 9) flRX10_238 dX10_becomes_9 rfl (Or.inl rfl) a14 e15 ?_
    exact y_ret (pc := 12) dX10_becomes_12 rfl h
def fX10_assume (l0 : Nat) (l1 : Int32) (s : zS) : Option zS :=
  bnd (qI s 10 l0 52) fun x1 =>
  if x1 = 0 then
    bnd (qI s 10 l0 51) fun x4 =>
    if x4 = 0 then
      bnd (cl s 10 l0 (fX10_valueOf l0 l1 s)) fun q7 =>
      if q7.1 = 1 then
        some q7.2
      else
        bnd (cl q7.2 10 l0 (fX10_valueOf l0 l1 q7.2)) fun q10 =>
        if q10.1 = (-1) then
          bnd (wZ q10.2 10 l0 51 1) fun s16 =>
          some s16
        else
          bnd (cl q10.2 10 l0 (fX10_becomes l0 l1 0 q10.2)) fun q13 =>
          some q13
    else
      some s
  else
    some s
set_option maxRecDepth 100000 in
set_option maxHeartbeats 4000000 in
theorem okX10_assume {E : zE} {l0 : Nat} {l1 : Int32} {s : zS} {t : zS} (h : fX10_assume l0 l1 s = some t) : Cv E mX10_assume [.ref l0, .int l1] s t := by
  refine Ct.of (ls := [(0, .ref l0), (1, .int l1)]) (by decide) rfl (Nat.le_of_ble_eq_true rfl) ?_
  show Z E mX10_assume 0 [(0, .ref l0), (1, .int l1)] [] s (0, 0) (zRv E mX10_assume t)
  unfold fX10_assume at h
  refine z_aload_n (pc := 0) 0 rfl dX10_assume_0 rfl ?_
  obtain ⟨a2, x1, e3, h⟩ := iI h
  refine y_getI (pc := 1) flRX10_238 dX10_assume_1 rfl a2 e3 ?_
  refine z_if_ne (pc := 4) (tgt := 23) dX10_assume_4 (by decide) (fun hc => ?_) (fun hc => ?_)
  · replace h := ifn hc h
    exact y_ret (pc := 23) dX10_assume_23 rfl h
  · replace h := ifp hc h
    refine z_aload_n (pc := 7) 0 rfl dX10_assume_7 rfl ?_
    obtain ⟨a5, x4, e6, h⟩ := iI h
    refine y_getI (pc := 8) flRX10_229 dX10_assume_8 rfl a5 e6 ?_
    refine z_if_ne (pc := 11) (tgt := 23) dX10_assume_11 (by decide) (fun hc => ?_) (fun hc => ?_)
    · replace h := ifn hc h
      exact y_ret (pc := 23) dX10_assume_23 rfl h
    · replace h := ifp hc h
      refine z_aload_n (pc := 14) 0 rfl dX10_assume_14 rfl ?_
      refine z_iload_n (pc := 15) 1 rfl dX10_assume_15 rfl ?_
      obtain ⟨a8, q7, e9, h⟩ := iC h
      refine y_Vi (pc := 16) (M2 := mX10_valueOf) (As := [.int l1]) (okX10_valueOf e9) mvX10_valueOf mlRX10_241 dX10_assume_16 ⟨by decide, by decide⟩ rfl rfl rfl zrest0 a8 ?_
      refine z_iconst (pc := 19) (v := 1) dX10_assume_19 (by decide) ?_
      refine z_icmp_ne (pc := 20) (tgt := 24) dX10_assume_20 (by decide) (fun hc => ?_) (fun hc => ?_)
      · replace h := ifn hc h
        refine z_aload_n (pc := 24) 0 rfl dX10_assume_24 rfl ?_
        refine z_iload_n (pc := 25) 1 rfl dX10_assume_25 rfl ?_
        obtain ⟨a11, q10, e12, h⟩ := iC h
        refine y_Vi (pc := 26) (M2 := mX10_valueOf) (As := [.int l1]) (okX10_valueOf e12) mvX10_valueOf mlRX10_241 dX10_assume_26 ⟨by decide, by decide⟩ rfl rfl rfl zrest0 a11 ?_
        refine z_iconst (pc := 29) (v := (-1)) dX10_assume_29 (by decide) ?_
        refine z_icmp_ne (pc := 30) (tgt := 41) dX10_assume_30 (by decide) (fun hc => ?_) (fun hc => ?_)
        · replace h := ifn hc h
          refine z_aload_n (pc := 41) 0 rfl dX10_assume_41 rfl ?_
          refine z_iload_n (pc := 42) 1 rfl dX10_assume_42 rfl ?_
          refine z_iconst (pc := 43) (v := 0) dX10_assume_43 (by decide) ?_
          obtain ⟨a14, q13, e15, h⟩ := iC h
          refine y_V (pc := 44) (M2 := mX10_becomes) (As := [.int l1, .int 0]) (okX10_becomes e15) mvX10_becomes mlRX10_244 dX10_assume_44 ⟨by decide, by decide⟩ rfl rfl rfl zrest0 a14 ?_
          exact y_ret (pc := 47) dX10_assume_47 rfl h
        · replace h := ifp hc h
          refine z_aload_n (pc := 33) 0 rfl dX10_assume_33 rfl ?_
          refine z_iconst (pc := 34) (v := 1) dX10_assume_34 (by decide) ?_
          obtain ⟨a17, s16, e18, h⟩ := jZ h
          refine y_putZ (pc := 35) flRX10_229 dX10_assume_35 rfl (Or.inl rfl) a17 e18 ?_
          refine z_goto (pc := 38) (tgt := 47) dX10_assume_38 (by decide) ?_
          exact y_ret (pc := 47) dX10_assume_47 rfl h
      · replace h := ifp hc h
        exact y_ret (pc := 23) dX10_assume_23 rfl h
def fX10_unit_56 (k7 : Nat → Int32 → Int32 → Int32 → Int32 → zS → Option (Int32 × zS)) (l0 : Nat) (l1 : Int32) (l2 : Int32) (l3 : Int32) (l4 : Int32) (s : zS) : Option (Int32 × zS) :=
  k7 l0 l1 l2 l3 (l4 + 1) s
set_option maxRecDepth 100000 in
set_option maxHeartbeats 4000000 in
theorem bX10_unit_56 {E : zE} {k7 : Nat → Int32 → Int32 → Int32 → Int32 → zS → Option (Int32 × zS)} (hk7 : ∀ {l0 : Nat} {l1 : Int32} {l2 : Int32} {l3 : Int32} {l4 : Int32} {s : zS} {q : Int32 × zS}, k7 l0 l1 l2 l3 l4 s = some q → Z E mX10_unit 7 [(0, .ref l0), (1, .int l1), (2, .int l2), (3, .int l3), (4, .int l4)] [] s (0, 0) (zRi E mX10_unit q.1 q.2)) {l0 : Nat} {l1 : Int32} {l2 : Int32} {l3 : Int32} {l4 : Int32} {s : zS} {q : Int32 × zS} (h : fX10_unit_56 k7 l0 l1 l2 l3 l4 s = some q) : Z E mX10_unit 56 [(0, .ref l0), (1, .int l1), (2, .int l2), (3, .int l3), (4, .int l4)] [] s (0, 0) (zRi E mX10_unit q.1 q.2) := by
  unfold fX10_unit_56 at h
  refine z_iinc (pc := 56) (v := (l4 + 1)) (ls' := [(4, .int (l4 + 1)), (0, .ref l0), (1, .int l1), (2, .int l2), (3, .int l3)]) 4 rfl rfl dX10_unit_56 (by decide) (fun _ => rfl) ?_
  refine z_goto (pc := 59) (tgt := 7) dX10_unit_59 (by decide) ?_
  exact z_sub [1, 2, 3, 4, 0] rfl (hk7 h)
def fX10_unit_7  (n : Nat) : Nat → Int32 → Int32 → Int32 → Int32 → zS → Option (Int32 × zS) := match n with
  | 0 => fun _ _ _ _ _ _ => none
  | n + 1 => fun l0 l1 l2 l3 l4 s =>
    bnd (cl s 10 l0 (fX10_longOf l0 l1 s)) fun q1 =>
    if q1.1 ≤ l4 then
      if l2 ≤ 1 then
        some (l3, q1.2)
      else
        some ((-1000), q1.2)
    else
      bnd (cl q1.2 10 l0 (fX10_literalOf l0 l1 l4 q1.2)) fun q4 =>
      bnd (cl q4.2 10 l0 (fX10_valueOf l0 q4.1 q4.2)) fun q7 =>
      if q7.1 = 1 then
        some ((-1000), q7.2)
      else
        if q7.1 = 0 then
          bnd (cl q7.2 10 l0 (fX10_literalOf l0 l1 l4 q7.2)) fun q10 =>
          fX10_unit_56 ((fX10_unit_7  n)) l0 l1 (l2 + 1) q10.1 l4 q10.2
        else
          fX10_unit_56 ((fX10_unit_7  n)) l0 l1 l2 l3 l4 q7.2
set_option maxRecDepth 100000 in
set_option maxHeartbeats 4000000 in
theorem bX10_unit_7 {E : zE}  : ∀ (n : Nat) {l0 : Nat} {l1 : Int32} {l2 : Int32} {l3 : Int32} {l4 : Int32} {s : zS} {q : Int32 × zS}, fX10_unit_7  n l0 l1 l2 l3 l4 s = some q → Z E mX10_unit 7 [(0, .ref l0), (1, .int l1), (2, .int l2), (3, .int l3), (4, .int l4)] [] s (0, 0) (zRi E mX10_unit q.1 q.2) := by
  intro n
  induction n with
  | zero => intro l0 l1 l2 l3 l4 s q h; cases h
  | succ n ih =>
    intro l0 l1 l2 l3 l4 s q h
    unfold fX10_unit_7 at h
    refine z_iload (pc := 7) 4 rfl dX10_unit_7 ?_
    refine z_aload_n (pc := 9) 0 rfl dX10_unit_9 rfl ?_
    refine z_iload_n (pc := 10) 1 rfl dX10_unit_10 rfl ?_
    obtain ⟨a2, q1, e3, h⟩ := iC h
    refine y_Vi (pc := 11) (M2 := mX10_longOf) (As := [.int l1]) (okX10_longOf e3) mvX10_longOf mlRX10_219 dX10_unit_11 ⟨by decide, by decide⟩ rfl rfl rfl (fun _ => Nat.le_of_ble_eq_true rfl) a2 ?_
    refine z_icmp_ge (pc := 14) (tgt := 62) dX10_unit_14 (by decide) (fun hc => ?_) (fun hc => ?_)
    · replace h := ifp hc h
      refine z_iload_n (pc := 62) 2 rfl dX10_unit_62 rfl ?_
      refine z_iconst (pc := 63) (v := 1) dX10_unit_63 (by decide) ?_
      refine z_icmp_le (pc := 64) (tgt := 73) dX10_unit_64 (by decide) (fun hc => ?_) (fun hc => ?_)
      · replace h := ifp hc h
        refine z_iload_n (pc := 73) 3 rfl dX10_unit_73 rfl ?_
        exact y_iret (pc := 74) dX10_unit_74 rfl h
      · replace h := ifn hc h
        refine z_sipush (pc := 67) (v := (-1000)) dX10_unit_67 (by decide) ?_
        refine z_goto (pc := 70) (tgt := 74) dX10_unit_70 (by decide) ?_
        exact y_iret (pc := 74) dX10_unit_74 rfl h
    · replace h := ifn hc h
      refine z_aload_n (pc := 17) 0 rfl dX10_unit_17 rfl ?_
      refine z_aload_n (pc := 18) 0 rfl dX10_unit_18 rfl ?_
      refine z_iload_n (pc := 19) 1 rfl dX10_unit_19 rfl ?_
      refine z_iload (pc := 20) 4 rfl dX10_unit_20 ?_
      obtain ⟨a5, q4, e6, h⟩ := iC h
      refine y_Vi (pc := 22) (M2 := mX10_literalOf) (As := [.int l1, .int l4]) (okX10_literalOf e6) mvX10_literalOf mlRX10_222 dX10_unit_22 ⟨by decide, by decide⟩ rfl rfl rfl (fun _ => Nat.le_of_ble_eq_true rfl) a5 ?_
      obtain ⟨a8, q7, e9, h⟩ := iC h
      refine y_Vi (pc := 25) (M2 := mX10_valueOf) (As := [.int q4.1]) (okX10_valueOf e9) mvX10_valueOf mlRX10_241 dX10_unit_25 ⟨by decide, by decide⟩ rfl rfl rfl zrest0 a8 ?_
      refine z_istore (pc := 28) (ls' := [(5, .int q7.1), (0, .ref l0), (1, .int l1), (2, .int l2), (3, .int l3), (4, .int l4)]) dX10_unit_28 (by decide) (fun _ => rfl) ?_
      refine z_iload (pc := 30) 0 rfl dX10_unit_30 ?_
      refine z_iconst (pc := 32) (v := 1) dX10_unit_32 (by decide) ?_
      refine z_icmp_ne (pc := 33) (tgt := 40) dX10_unit_33 (by decide) (fun hc => ?_) (fun hc => ?_)
      · replace h := ifn hc h
        refine z_iload (pc := 40) 0 rfl dX10_unit_40 ?_
        refine z_if_ne (pc := 42) (tgt := 56) dX10_unit_42 (by decide) (fun hc => ?_) (fun hc => ?_)
        · replace h := ifn hc h
          exact z_sub [1, 2, 3, 4, 5] rfl (bX10_unit_56 (fun h => ih h) h)
        · replace h := ifp hc h
          refine z_iinc (pc := 45) (v := (l2 + 1)) (ls' := [(2, .int (l2 + 1)), (5, .int q7.1), (0, .ref l0), (1, .int l1), (3, .int l3), (4, .int l4)]) 3 rfl rfl dX10_unit_45 (by decide) (fun _ => rfl) ?_
          refine z_aload_n (pc := 48) 2 rfl dX10_unit_48 rfl ?_
          refine z_iload_n (pc := 49) 3 rfl dX10_unit_49 rfl ?_
          refine z_iload (pc := 50) 5 rfl dX10_unit_50 ?_
          obtain ⟨a11, q10, e12, h⟩ := iC h
          refine y_Vi (pc := 52) (M2 := mX10_literalOf) (As := [.int l1, .int l4]) (okX10_literalOf e12) mvX10_literalOf mlRX10_222 dX10_unit_52 ⟨by decide, by decide⟩ rfl rfl rfl zrest0 a11 ?_
          refine z_istore_n (pc := 55) (ls' := [(3, .int q10.1), (2, .int (l2 + 1)), (5, .int q7.1), (0, .ref l0), (1, .int l1), (4, .int l4)]) dX10_unit_55 rfl (by decide) (fun _ => rfl) ?_
          exact z_sub [3, 4, 1, 0, 5] rfl (bX10_unit_56 (fun h => ih h) h)
      · replace h := ifp hc h
        refine z_sipush (pc := 36) (v := (-1000)) dX10_unit_36 (by decide) ?_
        exact y_iret (pc := 39) dX10_unit_39 rfl h
def fX10_unit (l0 : Nat) (l1 : Int32) (s : zS) : Option (Int32 × zS) :=
  fX10_unit_7  zfu l0 l1 0 0 0 s
set_option maxRecDepth 100000 in
set_option maxHeartbeats 4000000 in
theorem okX10_unit {E : zE} {l0 : Nat} {l1 : Int32} {s : zS} {q : Int32 × zS} (h : fX10_unit l0 l1 s = some q) : Ci E mX10_unit [.ref l0, .int l1] s q.1 q.2 := by
  refine Ct.of (ls := [(0, .ref l0), (1, .int l1)]) (by decide) rfl (Nat.le_of_ble_eq_true rfl) ?_
  show Z E mX10_unit 0 [(0, .ref l0), (1, .int l1)] [] s (0, 0) (zRi E mX10_unit q.1 q.2)
  unfold fX10_unit at h
  refine z_iconst (pc := 0) (v := 0) dX10_unit_0 (by decide) ?_
  refine z_istore_n (pc := 1) (ls' := [(2, .int 0), (0, .ref l0), (1, .int l1)]) dX10_unit_1 rfl (by decide) (fun _ => rfl) ?_
  refine z_iconst (pc := 2) (v := 0) dX10_unit_2 (by decide) ?_
  refine z_istore_n (pc := 3) (ls' := [(3, .int 0), (2, .int 0), (0, .ref l0), (1, .int l1)]) dX10_unit_3 rfl (by decide) (fun _ => rfl) ?_
  refine z_iconst (pc := 4) (v := 0) dX10_unit_4 (by decide) ?_
  refine z_istore (pc := 5) (ls' := [(4, .int 0), (3, .int 0), (2, .int 0), (0, .ref l0), (1, .int l1)]) dX10_unit_5 (by decide) (fun _ => rfl) ?_
  exact z_sub [3, 4, 2, 1, 0] rfl (bX10_unit_7  _ h)
def fX10_first_57 (k2 : Nat → Int32 → zS → Option (Int32 × zS)) (k9 : Nat → Int32 → Int32 → zS → Option (Int32 × zS)) (l0 : Nat) (l1 : Int32) (l2 : Int32) (s : zS) : Option (Int32 × zS) :=
  k9 l0 l1 (l2 + 1) s
set_option maxRecDepth 100000 in
set_option maxHeartbeats 4000000 in
theorem bX10_first_57 {E : zE} {k2 : Nat → Int32 → zS → Option (Int32 × zS)} {k9 : Nat → Int32 → Int32 → zS → Option (Int32 × zS)} (hk2 : ∀ {l0 : Nat} {l1 : Int32} {s : zS} {q : Int32 × zS}, k2 l0 l1 s = some q → Z E mX10_first 2 [(0, .ref l0), (1, .int l1)] [] s (0, 0) (zRi E mX10_first q.1 q.2)) (hk9 : ∀ {l0 : Nat} {l1 : Int32} {l2 : Int32} {s : zS} {q : Int32 × zS}, k9 l0 l1 l2 s = some q → Z E mX10_first 9 [(0, .ref l0), (1, .int l1), (2, .int l2)] [] s (0, 0) (zRi E mX10_first q.1 q.2)) {l0 : Nat} {l1 : Int32} {l2 : Int32} {s : zS} {q : Int32 × zS} (h : fX10_first_57 k2 k9 l0 l1 l2 s = some q) : Z E mX10_first 57 [(0, .ref l0), (1, .int l1), (2, .int l2)] [] s (0, 0) (zRi E mX10_first q.1 q.2) := by
  unfold fX10_first_57 at h
  refine z_iinc (pc := 57) (v := (l2 + 1)) (ls' := [(2, .int (l2 + 1)), (0, .ref l0), (1, .int l1)]) 2 rfl rfl dX10_first_57 (by decide) (fun _ => rfl) ?_
  refine z_goto (pc := 60) (tgt := 9) dX10_first_60 (by decide) ?_
  exact z_sub [1, 2, 0] rfl (hk9 h)
def fX10_first_41 (k2 : Nat → Int32 → zS → Option (Int32 × zS)) (k9 : Nat → Int32 → Int32 → zS → Option (Int32 × zS)) (l0 : Nat) (l1 : Int32) (l2 : Int32) (t0 : Int32) (t1 : Int32) (s : zS) : Option (Int32 × zS) :=
  if t1 = t0 then
    bnd (cl s 10 l0 (fX10_unit l0 l2 s)) fun q16 =>
    if q16.1 = (-1000) then
      fX10_first_57 (k2) (k9) l0 l1 l2 q16.2
    else
      some (l2, q16.2)
  else
    fX10_first_57 (k2) (k9) l0 l1 l2 s
set_option maxRecDepth 100000 in
set_option maxHeartbeats 4000000 in
theorem bX10_first_41 {E : zE} {k2 : Nat → Int32 → zS → Option (Int32 × zS)} {k9 : Nat → Int32 → Int32 → zS → Option (Int32 × zS)} (hk2 : ∀ {l0 : Nat} {l1 : Int32} {s : zS} {q : Int32 × zS}, k2 l0 l1 s = some q → Z E mX10_first 2 [(0, .ref l0), (1, .int l1)] [] s (0, 0) (zRi E mX10_first q.1 q.2)) (hk9 : ∀ {l0 : Nat} {l1 : Int32} {l2 : Int32} {s : zS} {q : Int32 × zS}, k9 l0 l1 l2 s = some q → Z E mX10_first 9 [(0, .ref l0), (1, .int l1), (2, .int l2)] [] s (0, 0) (zRi E mX10_first q.1 q.2)) {l0 : Nat} {l1 : Int32} {l2 : Int32} {t0 : Int32} {t1 : Int32} {s : zS} {q : Int32 × zS} (h : fX10_first_41 k2 k9 l0 l1 l2 t0 t1 s = some q) : Z E mX10_first 41 [(0, .ref l0), (1, .int l1), (2, .int l2)] [.int t0, .int t1] s (0, 0) (zRi E mX10_first q.1 q.2) := by
  unfold fX10_first_41 at h
  refine z_icmp_ne (pc := 41) (tgt := 57) dX10_first_41 (by decide) (fun hc => ?_) (fun hc => ?_)
  · replace h := ifn hc h
    exact z_sub [0, 1, 2] rfl (bX10_first_57 (fun h => hk2 h) (fun h => hk9 h) h)
  · replace h := ifp hc h
    refine z_aload_n (pc := 44) 0 rfl dX10_first_44 rfl ?_
    refine z_iload_n (pc := 45) 2 rfl dX10_first_45 rfl ?_
    obtain ⟨a17, q16, e18, h⟩ := iC h
    refine y_Vi (pc := 46) (M2 := mX10_unit) (As := [.int l2]) (okX10_unit e18) mvX10_unit mlRX10_247 dX10_first_46 ⟨by decide, by decide⟩ rfl rfl rfl zrest0 a17 ?_
    refine z_sipush (pc := 49) (v := (-1000)) dX10_first_49 (by decide) ?_
    refine z_icmp_eq (pc := 52) (tgt := 57) dX10_first_52 (by decide) (fun hc => ?_) (fun hc => ?_)
    · replace h := ifp hc h
      exact z_sub [0, 1, 2] rfl (bX10_first_57 (fun h => hk2 h) (fun h => hk9 h) h)
    · replace h := ifn hc h
      refine z_iload_n (pc := 55) 2 rfl dX10_first_55 rfl ?_
      exact y_iret (pc := 56) dX10_first_56 rfl h
def fX10_first_9 (k2 : Nat → Int32 → zS → Option (Int32 × zS)) (n : Nat) : Nat → Int32 → Int32 → zS → Option (Int32 × zS) := match n with
  | 0 => fun _ _ _ _ => none
  | n + 1 => fun l0 l1 l2 s =>
    bnd (qI s 10 l0 33) fun x1 =>
    if x1 < l2 then
      k2 l0 (l1 + 1) s
    else
      bnd (qR s 10 l0 41) fun x4 =>
      bnd (qA s 13 x4 l2) fun x7 =>
      if x7 = 0 then
        fX10_first_57 (k2) ((fX10_first_9 k2 n)) l0 l1 l2 s
      else
        bnd (qR s 10 l0 42) fun x10 =>
        bnd (qA s 13 x10 l2) fun x13 =>
        if l1 = 0 then
          fX10_first_41 (k2) ((fX10_first_9 k2 n)) l0 l1 l2 1 x13 s
        else
          fX10_first_41 (k2) ((fX10_first_9 k2 n)) l0 l1 l2 0 x13 s
set_option maxRecDepth 100000 in
set_option maxHeartbeats 4000000 in
theorem bX10_first_9 {E : zE} {k2 : Nat → Int32 → zS → Option (Int32 × zS)} (hk2 : ∀ {l0 : Nat} {l1 : Int32} {s : zS} {q : Int32 × zS}, k2 l0 l1 s = some q → Z E mX10_first 2 [(0, .ref l0), (1, .int l1)] [] s (0, 0) (zRi E mX10_first q.1 q.2)) : ∀ (n : Nat) {l0 : Nat} {l1 : Int32} {l2 : Int32} {s : zS} {q : Int32 × zS}, fX10_first_9 k2 n l0 l1 l2 s = some q → Z E mX10_first 9 [(0, .ref l0), (1, .int l1), (2, .int l2)] [] s (0, 0) (zRi E mX10_first q.1 q.2) := by
  intro n
  induction n with
  | zero => intro l0 l1 l2 s q h; cases h
  | succ n ih =>
    intro l0 l1 l2 s q h
    unfold fX10_first_9 at h
    refine z_iload_n (pc := 9) 2 rfl dX10_first_9 rfl ?_
    refine z_aload_n (pc := 10) 0 rfl dX10_first_10 rfl ?_
    obtain ⟨a2, x1, e3, h⟩ := iI h
    refine y_getI (pc := 11) flRX10_207 dX10_first_11 rfl a2 e3 ?_
    refine z_icmp_gt (pc := 14) (tgt := 63) dX10_first_14 (by decide) (fun hc => ?_) (fun hc => ?_)
    · replace h := ifp hc h
      refine z_iinc (pc := 63) (v := (l1 + 1)) (ls' := [(1, .int (l1 + 1)), (0, .ref l0), (2, .int l2)]) 1 rfl rfl dX10_first_63 (by decide) (fun _ => rfl) ?_
      refine z_goto (pc := 66) (tgt := 2) dX10_first_66 (by decide) ?_
      exact z_sub [1, 0] rfl (hk2 h)
    · replace h := ifn hc h
      refine z_aload_n (pc := 17) 0 rfl dX10_first_17 rfl ?_
      obtain ⟨a5, x4, e6, h⟩ := iR h
      refine y_getR (pc := 18) flRX10_60 dX10_first_18 rfl a5 e6 ?_
      refine z_iload_n (pc := 21) 2 rfl dX10_first_21 rfl ?_
      obtain ⟨a8, x7, e9, h⟩ := iA h
      refine y_zald (pc := 22) dX10_first_22 a8 e9 ?_
      refine z_if_eq (pc := 23) (tgt := 57) dX10_first_23 (by decide) (fun hc => ?_) (fun hc => ?_)
      · replace h := ifp hc h
        exact z_sub [0, 1, 2] rfl (bX10_first_57 (fun h => hk2 h) (fun h => ih h) h)
      · replace h := ifn hc h
        refine z_aload_n (pc := 26) 0 rfl dX10_first_26 rfl ?_
        obtain ⟨a11, x10, e12, h⟩ := iR h
        refine y_getR (pc := 27) flRX10_63 dX10_first_27 rfl a11 e12 ?_
        refine z_iload_n (pc := 30) 2 rfl dX10_first_30 rfl ?_
        obtain ⟨a14, x13, e15, h⟩ := iA h
        refine y_zald (pc := 31) dX10_first_31 a14 e15 ?_
        refine z_iload_n (pc := 32) 1 rfl dX10_first_32 rfl ?_
        refine z_if_ne (pc := 33) (tgt := 40) dX10_first_33 (by decide) (fun hc => ?_) (fun hc => ?_)
        · replace h := ifn hc h
          refine z_iconst (pc := 40) (v := 0) dX10_first_40 (by decide) ?_
          exact z_sub [0, 1, 2] rfl (bX10_first_41 (fun h => hk2 h) (fun h => ih h) h)
        · replace h := ifp hc h
          refine z_iconst (pc := 36) (v := 1) dX10_first_36 (by decide) ?_
          refine z_goto (pc := 37) (tgt := 41) dX10_first_37 (by decide) ?_
          exact z_sub [0, 1, 2] rfl (bX10_first_41 (fun h => hk2 h) (fun h => ih h) h)
def fX10_first_2  (n : Nat) : Nat → Int32 → zS → Option (Int32 × zS) := match n with
  | 0 => fun _ _ _ => none
  | n + 1 => fun l0 l1 s =>
    if 2 ≤ l1 then
      some (0, s)
    else
      fX10_first_9 ((fX10_first_2  n)) zfu l0 l1 1 s
set_option maxRecDepth 100000 in
set_option maxHeartbeats 4000000 in
theorem bX10_first_2 {E : zE}  : ∀ (n : Nat) {l0 : Nat} {l1 : Int32} {s : zS} {q : Int32 × zS}, fX10_first_2  n l0 l1 s = some q → Z E mX10_first 2 [(0, .ref l0), (1, .int l1)] [] s (0, 0) (zRi E mX10_first q.1 q.2) := by
  intro n
  induction n with
  | zero => intro l0 l1 s q h; cases h
  | succ n ih =>
    intro l0 l1 s q h
    unfold fX10_first_2 at h
    refine z_iload_n (pc := 2) 1 rfl dX10_first_2 rfl ?_
    refine z_iconst (pc := 3) (v := 2) dX10_first_3 (by decide) ?_
    refine z_icmp_ge (pc := 4) (tgt := 69) dX10_first_4 (by decide) (fun hc => ?_) (fun hc => ?_)
    · replace h := ifp hc h
      refine z_iconst (pc := 69) (v := 0) dX10_first_69 (by decide) ?_
      exact y_iret (pc := 70) dX10_first_70 rfl h
    · replace h := ifn hc h
      refine z_iconst (pc := 7) (v := 1) dX10_first_7 (by decide) ?_
      refine z_istore_n (pc := 8) (ls' := [(2, .int 1), (0, .ref l0), (1, .int l1)]) dX10_first_8 rfl (by decide) (fun _ => rfl) ?_
      exact z_sub [1, 2, 0] rfl (bX10_first_9 (fun h => ih h) _ h)
def fX10_first (l0 : Nat) (s : zS) : Option (Int32 × zS) :=
  fX10_first_2  zfu l0 0 s
set_option maxRecDepth 100000 in
set_option maxHeartbeats 4000000 in
theorem okX10_first {E : zE} {l0 : Nat} {s : zS} {q : Int32 × zS} (h : fX10_first l0 s = some q) : Ci E mX10_first [.ref l0] s q.1 q.2 := by
  refine Ct.of (ls := [(0, .ref l0)]) (by decide) rfl (Nat.le_of_ble_eq_true rfl) ?_
  show Z E mX10_first 0 [(0, .ref l0)] [] s (0, 0) (zRi E mX10_first q.1 q.2)
  unfold fX10_first at h
  refine z_iconst (pc := 0) (v := 0) dX10_first_0 (by decide) ?_
  refine z_istore_n (pc := 1) (ls' := [(1, .int 0), (0, .ref l0)]) dX10_first_1 rfl (by decide) (fun _ => rfl) ?_
  exact z_sub [1, 0] rfl (bX10_first_2  _ h)
def fX10_propagate_53 (k0 : Nat → zS → Option zS) (l0 : Nat) (s : zS) : Option zS :=
  k0 l0 s
set_option maxRecDepth 100000 in
set_option maxHeartbeats 4000000 in
theorem bX10_propagate_53 {E : zE} {k0 : Nat → zS → Option zS} (hk0 : ∀ {l0 : Nat} {s : zS} {q : zS}, k0 l0 s = some q → Z E mX10_propagate 0 [(0, .ref l0)] [] s (0, 0) (zRv E mX10_propagate q)) {l0 : Nat} {s : zS} {q : zS} (h : fX10_propagate_53 k0 l0 s = some q) : Z E mX10_propagate 53 [(0, .ref l0)] [] s (0, 0) (zRv E mX10_propagate q) := by
  unfold fX10_propagate_53 at h
  refine z_goto (pc := 53) (tgt := 0) dX10_propagate_53 (by decide) ?_
  exact z_sub [0] rfl (hk0 h)
def fX10_propagate_0  (n : Nat) : Nat → zS → Option zS := match n with
  | 0 => fun _ _ => none
  | n + 1 => fun l0 s =>
    bnd (qI s 10 l0 52) fun x1 =>
    if x1 = 0 then
      bnd (qI s 10 l0 51) fun x4 =>
      if x4 = 0 then
        bnd (cl s 10 l0 (fX10_first l0  s)) fun q7 =>
        if q7.1 = 0 then
          some q7.2
        else
          bnd (cl q7.2 10 l0 (fX10_unit l0 q7.1 q7.2)) fun q10 =>
          if q10.1 = 0 then
            bnd (wZ q10.2 10 l0 51 1) fun s16 =>
            bnd (wI s16 10 l0 50 q7.1) fun s19 =>
            fX10_propagate_53 ((fX10_propagate_0  n)) l0 s19
          else
            bnd (cl q10.2 10 l0 (fX10_becomes l0 q10.1 q7.1 q10.2)) fun q13 =>
            fX10_propagate_53 ((fX10_propagate_0  n)) l0 q13
      else
        some s
    else
      some s
set_option maxRecDepth 100000 in
set_option maxHeartbeats 4000000 in
theorem bX10_propagate_0 {E : zE}  : ∀ (n : Nat) {l0 : Nat} {s : zS} {q : zS}, fX10_propagate_0  n l0 s = some q → Z E mX10_propagate 0 [(0, .ref l0)] [] s (0, 0) (zRv E mX10_propagate q) := by
  intro n
  induction n with
  | zero => intro l0 s q h; cases h
  | succ n ih =>
    intro l0 s q h
    unfold fX10_propagate_0 at h
    refine z_aload_n (pc := 0) 0 rfl dX10_propagate_0 rfl ?_
    obtain ⟨a2, x1, e3, h⟩ := iI h
    refine y_getI (pc := 1) flRX10_238 dX10_propagate_1 rfl a2 e3 ?_
    refine z_if_ne (pc := 4) (tgt := 56) dX10_propagate_4 (by decide) (fun hc => ?_) (fun hc => ?_)
    · replace h := ifn hc h
      exact y_ret (pc := 56) dX10_propagate_56 rfl h
    · replace h := ifp hc h
      refine z_aload_n (pc := 7) 0 rfl dX10_propagate_7 rfl ?_
      obtain ⟨a5, x4, e6, h⟩ := iI h
      refine y_getI (pc := 8) flRX10_229 dX10_propagate_8 rfl a5 e6 ?_
      refine z_if_ne (pc := 11) (tgt := 56) dX10_propagate_11 (by decide) (fun hc => ?_) (fun hc => ?_)
      · replace h := ifn hc h
        exact y_ret (pc := 56) dX10_propagate_56 rfl h
      · replace h := ifp hc h
        refine z_aload_n (pc := 14) 0 rfl dX10_propagate_14 rfl ?_
        obtain ⟨a8, q7, e9, h⟩ := iC h
        refine y_Vi (pc := 15) (M2 := mX10_first) (As := []) (okX10_first e9) mvX10_first mlRX10_250 dX10_propagate_15 ⟨by decide, by decide⟩ rfl rfl rfl zrest0 a8 ?_
        refine z_istore_n (pc := 18) (ls' := [(1, .int q7.1), (0, .ref l0)]) dX10_propagate_18 rfl (by decide) (fun _ => rfl) ?_
        refine z_iload_n (pc := 19) 0 rfl dX10_propagate_19 rfl ?_
        refine z_if_ne (pc := 20) (tgt := 24) dX10_propagate_20 (by decide) (fun hc => ?_) (fun hc => ?_)
        · replace h := ifn hc h
          refine z_aload_n (pc := 24) 1 rfl dX10_propagate_24 rfl ?_
          refine z_iload_n (pc := 25) 0 rfl dX10_propagate_25 rfl ?_
          obtain ⟨a11, q10, e12, h⟩ := iC h
          refine y_Vi (pc := 26) (M2 := mX10_unit) (As := [.int q7.1]) (okX10_unit e12) mvX10_unit mlRX10_247 dX10_propagate_26 ⟨by decide, by decide⟩ rfl rfl rfl zrest0 a11 ?_
          refine z_istore_n (pc := 29) (ls' := [(2, .int q10.1), (1, .int q7.1), (0, .ref l0)]) dX10_propagate_29 rfl (by decide) (fun _ => rfl) ?_
          refine z_iload_n (pc := 30) 0 rfl dX10_propagate_30 rfl ?_
          refine z_if_ne (pc := 31) (tgt := 47) dX10_propagate_31 (by decide) (fun hc => ?_) (fun hc => ?_)
          · replace h := ifn hc h
            refine z_aload_n (pc := 47) 2 rfl dX10_propagate_47 rfl ?_
            refine z_iload_n (pc := 48) 0 rfl dX10_propagate_48 rfl ?_
            refine z_iload_n (pc := 49) 1 rfl dX10_propagate_49 rfl ?_
            obtain ⟨a14, q13, e15, h⟩ := iC h
            refine y_V (pc := 50) (M2 := mX10_becomes) (As := [.int q10.1, .int q7.1]) (okX10_becomes e15) mvX10_becomes mlRX10_244 dX10_propagate_50 ⟨by decide, by decide⟩ rfl rfl rfl zrest0 a14 ?_
            exact z_sub [2] rfl (bX10_propagate_53 (fun h => ih h) h)
          · replace h := ifp hc h
            refine z_aload_n (pc := 34) 2 rfl dX10_propagate_34 rfl ?_
            refine z_iconst (pc := 35) (v := 1) dX10_propagate_35 (by decide) ?_
            obtain ⟨a17, s16, e18, h⟩ := jZ h
            refine y_putZ (pc := 36) flRX10_229 dX10_propagate_36 rfl (Or.inl rfl) a17 e18 ?_
            refine z_aload_n (pc := 39) 2 rfl dX10_propagate_39 rfl ?_
            refine z_iload_n (pc := 40) 1 rfl dX10_propagate_40 rfl ?_
            obtain ⟨a20, s19, e21, h⟩ := jI h
            refine y_putI (pc := 41) flRX10_232 dX10_propagate_41 rfl (Or.inl rfl) a20 e21 ?_
            refine z_goto (pc := 44) (tgt := 53) dX10_propagate_44 (by decide) ?_
            exact z_sub [2] rfl (bX10_propagate_53 (fun h => ih h) h)
        · replace h := ifp hc h
          exact y_ret (pc := 23) dX10_propagate_23 rfl h
def fX10_propagate (l0 : Nat) (s : zS) : Option zS :=
  fX10_propagate_0  zfu l0 s
set_option maxRecDepth 100000 in
set_option maxHeartbeats 4000000 in
theorem okX10_propagate {E : zE} {l0 : Nat} {s : zS} {t : zS} (h : fX10_propagate l0 s = some t) : Cv E mX10_propagate [.ref l0] s t := by
  refine Ct.of (ls := [(0, .ref l0)]) (by decide) rfl (Nat.le_of_ble_eq_true rfl) ?_
  show Z E mX10_propagate 0 [(0, .ref l0)] [] s (0, 0) (zRv E mX10_propagate t)
  unfold fX10_propagate at h
  exact z_sub [0] rfl (bX10_propagate_0  _ h)
def fX10_keepHint (l0 : Nat) (l1 : Int32) (l2 : Int32) (s : zS) : Option zS :=
  bnd (qI s 10 l0 56) fun x1 =>
  if x1 = 4000 then
    some s
  else
    bnd (qR s 10 l0 53) fun x4 =>
    bnd (qI s 10 l0 56) fun x7 =>
    bnd (uI s x4 x7 l1) fun s10 =>
    bnd (qI s10 10 l0 56) fun x13 =>
    bnd (wI s10 10 l0 56 (x13 + 1)) fun s16 =>
    bnd (qR s16 10 l0 55) fun x19 =>
    bnd (qA s16 12 x19 l2) fun x22 =>
    bnd (uI s16 x19 l2 (x22 + 1)) fun s25 =>
    some s25
set_option maxRecDepth 100000 in
set_option maxHeartbeats 4000000 in
theorem okX10_keepHint {E : zE} {l0 : Nat} {l1 : Int32} {l2 : Int32} {s : zS} {t : zS} (h : fX10_keepHint l0 l1 l2 s = some t) : Cv E mX10_keepHint [.ref l0, .int l1, .int l2] s t := by
  refine Ct.of (ls := [(0, .ref l0), (1, .int l1), (2, .int l2)]) (by decide) rfl (Nat.le_of_ble_eq_true rfl) ?_
  show Z E mX10_keepHint 0 [(0, .ref l0), (1, .int l1), (2, .int l2)] [] s (0, 0) (zRv E mX10_keepHint t)
  unfold fX10_keepHint at h
  refine z_aload_n (pc := 0) 0 rfl dX10_keepHint_0 rfl ?_
  obtain ⟨a2, x1, e3, h⟩ := iI h
  refine y_getI (pc := 1) flRX10_253 dX10_keepHint_1 rfl a2 e3 ?_
  refine z_sipush (pc := 4) (v := 4000) dX10_keepHint_4 (by decide) ?_
  refine z_icmp_ne (pc := 7) (tgt := 11) dX10_keepHint_7 (by decide) (fun hc => ?_) (fun hc => ?_)
  · replace h := ifn hc h
    refine z_aload_n (pc := 11) 0 rfl dX10_keepHint_11 rfl ?_
    obtain ⟨a5, x4, e6, h⟩ := iR h
    refine y_getR (pc := 12) flRX10_84 dX10_keepHint_12 rfl a5 e6 ?_
    refine z_aload_n (pc := 15) 0 rfl dX10_keepHint_15 rfl ?_
    obtain ⟨a8, x7, e9, h⟩ := iI h
    refine y_getI (pc := 16) flRX10_253 dX10_keepHint_16 rfl a8 e9 ?_
    refine z_iload_n (pc := 19) 1 rfl dX10_keepHint_19 rfl ?_
    obtain ⟨a11, s10, e12, h⟩ := kI h
    refine y_iast (pc := 20) dX10_keepHint_20 a11 e12 ?_
    refine z_aload_n (pc := 21) 0 rfl dX10_keepHint_21 rfl ?_
    refine z_dup (pc := 22) dX10_keepHint_22 (fun _ => rfl) ?_
    obtain ⟨a14, x13, e15, h⟩ := iI h
    refine y_getI (pc := 23) flRX10_253 dX10_keepHint_23 rfl a14 e15 ?_
    refine z_iconst (pc := 26) (v := 1) dX10_keepHint_26 (by decide) ?_
    refine z_iadd (pc := 27) dX10_keepHint_27 ?_
    obtain ⟨a17, s16, e18, h⟩ := jI h
    refine y_putI (pc := 28) flRX10_253 dX10_keepHint_28 rfl (Or.inl rfl) a17 e18 ?_
    refine z_aload_n (pc := 31) 0 rfl dX10_keepHint_31 rfl ?_
    obtain ⟨a20, x19, e21, h⟩ := iR h
    refine y_getR (pc := 32) flRX10_90 dX10_keepHint_32 rfl a20 e21 ?_
    refine z_iload_n (pc := 35) 2 rfl dX10_keepHint_35 rfl ?_
    refine z_dup2 (pc := 36) dX10_keepHint_36 (fun _ => rfl) (fun _ => rfl) ?_
    obtain ⟨a23, x22, e24, h⟩ := iA h
    refine y_iald (pc := 37) dX10_keepHint_37 a23 e24 ?_
    refine z_iconst (pc := 38) (v := 1) dX10_keepHint_38 (by decide) ?_
    refine z_iadd (pc := 39) dX10_keepHint_39 ?_
    obtain ⟨a26, s25, e27, h⟩ := kI h
    refine y_iast (pc := 40) dX10_keepHint_40 a26 e27 ?_
    exact y_ret (pc := 41) dX10_keepHint_41 rfl h
  · replace h := ifp hc h
    exact y_ret (pc := 10) dX10_keepHint_10 rfl h
def fX10_standsInUsed_39 (k4 : Nat → Int32 → Int32 → Int32 → zS → Option (Int32 × zS)) (l0 : Nat) (l1 : Int32) (l3 : Int32) (t0 : Int32) (s : zS) : Option (Int32 × zS) :=
  k4 l0 l1 t0 (l3 + 1) s
set_option maxRecDepth 100000 in
set_option maxHeartbeats 4000000 in
theorem bX10_standsInUsed_39 {E : zE} {k4 : Nat → Int32 → Int32 → Int32 → zS → Option (Int32 × zS)} (hk4 : ∀ {l0 : Nat} {l1 : Int32} {l2 : Int32} {l3 : Int32} {s : zS} {q : Int32 × zS}, k4 l0 l1 l2 l3 s = some q → Z E mX10_standsInUsed 4 [(0, .ref l0), (1, .int l1), (2, .int l2), (3, .int l3)] [] s (0, 0) (zRi E mX10_standsInUsed q.1 q.2)) {l0 : Nat} {l1 : Int32} {l3 : Int32} {t0 : Int32} {s : zS} {q : Int32 × zS} (h : fX10_standsInUsed_39 k4 l0 l1 l3 t0 s = some q) : Z E mX10_standsInUsed 39 [(0, .ref l0), (1, .int l1), (3, .int l3)] [.int t0] s (0, 0) (zRi E mX10_standsInUsed q.1 q.2) := by
  unfold fX10_standsInUsed_39 at h
  refine z_istore_n (pc := 39) (ls' := [(2, .int t0), (0, .ref l0), (1, .int l1), (3, .int l3)]) dX10_standsInUsed_39 rfl (by decide) (fun _ => rfl) ?_
  refine z_iinc (pc := 40) (v := (l3 + 1)) (ls' := [(3, .int (l3 + 1)), (2, .int t0), (0, .ref l0), (1, .int l1)]) 3 rfl rfl dX10_standsInUsed_40 (by decide) (fun _ => rfl) ?_
  refine z_goto (pc := 43) (tgt := 4) dX10_standsInUsed_43 (by decide) ?_
  exact z_sub [2, 3, 1, 0] rfl (hk4 h)
def fX10_standsInUsed_38 (k4 : Nat → Int32 → Int32 → Int32 → zS → Option (Int32 × zS)) (l0 : Nat) (l1 : Int32) (l3 : Int32) (s : zS) : Option (Int32 × zS) :=
  fX10_standsInUsed_39 (k4) l0 l1 l3 0 s
set_option maxRecDepth 100000 in
set_option maxHeartbeats 4000000 in
theorem bX10_standsInUsed_38 {E : zE} {k4 : Nat → Int32 → Int32 → Int32 → zS → Option (Int32 × zS)} (hk4 : ∀ {l0 : Nat} {l1 : Int32} {l2 : Int32} {l3 : Int32} {s : zS} {q : Int32 × zS}, k4 l0 l1 l2 l3 s = some q → Z E mX10_standsInUsed 4 [(0, .ref l0), (1, .int l1), (2, .int l2), (3, .int l3)] [] s (0, 0) (zRi E mX10_standsInUsed q.1 q.2)) {l0 : Nat} {l1 : Int32} {l3 : Int32} {s : zS} {q : Int32 × zS} (h : fX10_standsInUsed_38 k4 l0 l1 l3 s = some q) : Z E mX10_standsInUsed 38 [(0, .ref l0), (1, .int l1), (3, .int l3)] [] s (0, 0) (zRi E mX10_standsInUsed q.1 q.2) := by
  unfold fX10_standsInUsed_38 at h
  refine z_iconst (pc := 38) (v := 0) dX10_standsInUsed_38 (by decide) ?_
  exact z_sub [0, 1, 2] rfl (bX10_standsInUsed_39 (fun h => hk4 h) h)
def fX10_standsInUsed_4  (n : Nat) : Nat → Int32 → Int32 → Int32 → zS → Option (Int32 × zS) := match n with
  | 0 => fun _ _ _ _ _ => none
  | n + 1 => fun l0 l1 l2 l3 s =>
    bnd (qI s 10 l0 33) fun x1 =>
    if x1 < l3 then
      gd (l2 = 0 ∨ l2 = 1) (some (l2, s))
    else
      if l2 = 0 then
        bnd (qR s 10 l0 43) fun x4 =>
        bnd (qA s 13 x4 l3) fun x7 =>
        if x7 = 0 then
          fX10_standsInUsed_38 ((fX10_standsInUsed_4  n)) l0 l1 l3 s
        else
          bnd (cl s 10 l0 (fX10_has l0 l3 l1 s)) fun q10 =>
          if q10.1 = 0 then
            fX10_standsInUsed_38 ((fX10_standsInUsed_4  n)) l0 l1 l3 q10.2
          else
            fX10_standsInUsed_39 ((fX10_standsInUsed_4  n)) l0 l1 l3 1 q10.2
      else
        gd (l2 = 0 ∨ l2 = 1) (some (l2, s))
set_option maxRecDepth 100000 in
set_option maxHeartbeats 4000000 in
theorem bX10_standsInUsed_4 {E : zE}  : ∀ (n : Nat) {l0 : Nat} {l1 : Int32} {l2 : Int32} {l3 : Int32} {s : zS} {q : Int32 × zS}, fX10_standsInUsed_4  n l0 l1 l2 l3 s = some q → Z E mX10_standsInUsed 4 [(0, .ref l0), (1, .int l1), (2, .int l2), (3, .int l3)] [] s (0, 0) (zRi E mX10_standsInUsed q.1 q.2) := by
  intro n
  induction n with
  | zero => intro l0 l1 l2 l3 s q h; cases h
  | succ n ih =>
    intro l0 l1 l2 l3 s q h
    unfold fX10_standsInUsed_4 at h
    refine z_iload_n (pc := 4) 3 rfl dX10_standsInUsed_4 rfl ?_
    refine z_aload_n (pc := 5) 0 rfl dX10_standsInUsed_5 rfl ?_
    obtain ⟨a2, x1, e3, h⟩ := iI h
    refine y_getI (pc := 6) flRX10_207 dX10_standsInUsed_6 rfl a2 e3 ?_
    refine z_icmp_gt (pc := 9) (tgt := 46) dX10_standsInUsed_9 (by decide) (fun hc => ?_) (fun hc => ?_)
    · replace h := ifp hc h
      refine z_iload_n (pc := 46) 2 rfl dX10_standsInUsed_46 rfl ?_
      exact y_zret (pc := 47) dX10_standsInUsed_47 rfl h
    · replace h := ifn hc h
      refine z_iload_n (pc := 12) 2 rfl dX10_standsInUsed_12 rfl ?_
      refine z_if_ne (pc := 13) (tgt := 46) dX10_standsInUsed_13 (by decide) (fun hc => ?_) (fun hc => ?_)
      · replace h := ifn hc h
        refine z_iload_n (pc := 46) 2 rfl dX10_standsInUsed_46 rfl ?_
        exact y_zret (pc := 47) dX10_standsInUsed_47 rfl h
      · replace h := ifp hc h
        refine z_aload_n (pc := 16) 0 rfl dX10_standsInUsed_16 rfl ?_
        obtain ⟨a5, x4, e6, h⟩ := iR h
        refine y_getR (pc := 17) flRX10_66 dX10_standsInUsed_17 rfl a5 e6 ?_
        refine z_iload_n (pc := 20) 3 rfl dX10_standsInUsed_20 rfl ?_
        obtain ⟨a8, x7, e9, h⟩ := iA h
        refine y_zald (pc := 21) dX10_standsInUsed_21 a8 e9 ?_
        refine z_if_eq (pc := 22) (tgt := 38) dX10_standsInUsed_22 (by decide) (fun hc => ?_) (fun hc => ?_)
        · replace h := ifp hc h
          exact z_sub [0, 1, 3] rfl (bX10_standsInUsed_38 (fun h => ih h) h)
        · replace h := ifn hc h
          refine z_aload_n (pc := 25) 0 rfl dX10_standsInUsed_25 rfl ?_
          refine z_iload_n (pc := 26) 3 rfl dX10_standsInUsed_26 rfl ?_
          refine z_iload_n (pc := 27) 1 rfl dX10_standsInUsed_27 rfl ?_
          obtain ⟨a11, q10, e12, h⟩ := iC h
          refine y_Vi (pc := 28) (M2 := mX10_has) (As := [.int l3, .int l1]) (okX10_has e12) mvX10_has mlRX10_256 dX10_standsInUsed_28 ⟨by decide, by decide⟩ rfl rfl rfl zrest0 a11 ?_
          refine z_if_eq (pc := 31) (tgt := 38) dX10_standsInUsed_31 (by decide) (fun hc => ?_) (fun hc => ?_)
          · replace h := ifp hc h
            exact z_sub [0, 1, 3] rfl (bX10_standsInUsed_38 (fun h => ih h) h)
          · replace h := ifn hc h
            refine z_iconst (pc := 34) (v := 1) dX10_standsInUsed_34 (by decide) ?_
            refine z_goto (pc := 35) (tgt := 39) dX10_standsInUsed_35 (by decide) ?_
            exact z_sub [0, 1, 3] rfl (bX10_standsInUsed_39 (fun h => ih h) h)
def fX10_standsInUsed (l0 : Nat) (l1 : Int32) (s : zS) : Option (Int32 × zS) :=
  fX10_standsInUsed_4  zfu l0 l1 0 1 s
set_option maxRecDepth 100000 in
set_option maxHeartbeats 4000000 in
theorem okX10_standsInUsed {E : zE} {l0 : Nat} {l1 : Int32} {s : zS} {q : Int32 × zS} (h : fX10_standsInUsed l0 l1 s = some q) : Ci E mX10_standsInUsed [.ref l0, .int l1] s q.1 q.2 := by
  refine Ct.of (ls := [(0, .ref l0), (1, .int l1)]) (by decide) rfl (Nat.le_of_ble_eq_true rfl) ?_
  show Z E mX10_standsInUsed 0 [(0, .ref l0), (1, .int l1)] [] s (0, 0) (zRi E mX10_standsInUsed q.1 q.2)
  unfold fX10_standsInUsed at h
  refine z_iconst (pc := 0) (v := 0) dX10_standsInUsed_0 (by decide) ?_
  refine z_istore_n (pc := 1) (ls' := [(2, .int 0), (0, .ref l0), (1, .int l1)]) dX10_standsInUsed_1 rfl (by decide) (fun _ => rfl) ?_
  refine z_iconst (pc := 2) (v := 1) dX10_standsInUsed_2 (by decide) ?_
  refine z_istore_n (pc := 3) (ls' := [(3, .int 1), (2, .int 0), (0, .ref l0), (1, .int l1)]) dX10_standsInUsed_3 rfl (by decide) (fun _ => rfl) ?_
  exact z_sub [2, 3, 1, 0] rfl (bX10_standsInUsed_4  _ h)
def fX10_uses_190 (k154 : Nat → Int32 → zS → Option zS) (l0 : Nat) (l2 : Int32) (t0 : Int32) (t1 : Int32) (t2 : Nat) (s : zS) : Option zS :=
  bnd (uZ s t2 t1 t0) fun s40 =>
  k154 l0 (l2 + 1) s40
set_option maxRecDepth 100000 in
set_option maxHeartbeats 4000000 in
theorem bX10_uses_190 {E : zE} {k154 : Nat → Int32 → zS → Option zS} (hk154 : ∀ {l0 : Nat} {l2 : Int32} {s : zS} {q : zS}, k154 l0 l2 s = some q → Z E mX10_uses 154 [(0, .ref l0), (2, .int l2)] [] s (0, 0) (zRv E mX10_uses q)) {l0 : Nat} {l2 : Int32} {t0 : Int32} {t1 : Int32} {t2 : Nat} {s : zS} {q : zS} (h : fX10_uses_190 k154 l0 l2 t0 t1 t2 s = some q) : Z E mX10_uses 190 [(0, .ref l0), (2, .int l2)] [.int t0, .int t1, .ref t2] s (0, 0) (zRv E mX10_uses q) := by
  unfold fX10_uses_190 at h
  obtain ⟨a41, s40, e42, h⟩ := kZ h
  refine y_zast (pc := 190) dX10_uses_190 a41 e42 ?_
  refine z_iinc (pc := 191) (v := (l2 + 1)) (ls' := [(2, .int (l2 + 1)), (0, .ref l0)]) 1 rfl rfl dX10_uses_191 (by decide) (fun _ => rfl) ?_
  refine z_goto (pc := 194) (tgt := 154) dX10_uses_194 (by decide) ?_
  exact z_sub [1, 0] rfl (hk154 h)
def fX10_uses_185 (k154 : Nat → Int32 → zS → Option zS) (l0 : Nat) (l2 : Int32) (t0 : Int32) (t1 : Nat) (s : zS) : Option zS :=
  fX10_uses_190 (k154) l0 l2 1 t0 t1 s
set_option maxRecDepth 100000 in
set_option maxHeartbeats 4000000 in
theorem bX10_uses_185 {E : zE} {k154 : Nat → Int32 → zS → Option zS} (hk154 : ∀ {l0 : Nat} {l2 : Int32} {s : zS} {q : zS}, k154 l0 l2 s = some q → Z E mX10_uses 154 [(0, .ref l0), (2, .int l2)] [] s (0, 0) (zRv E mX10_uses q)) {l0 : Nat} {l2 : Int32} {t0 : Int32} {t1 : Nat} {s : zS} {q : zS} (h : fX10_uses_185 k154 l0 l2 t0 t1 s = some q) : Z E mX10_uses 185 [(0, .ref l0), (2, .int l2)] [.int t0, .ref t1] s (0, 0) (zRv E mX10_uses q) := by
  unfold fX10_uses_185 at h
  refine z_iconst (pc := 185) (v := 1) dX10_uses_185 (by decide) ?_
  refine z_goto (pc := 186) (tgt := 190) dX10_uses_186 (by decide) ?_
  exact z_sub [0, 1] rfl (bX10_uses_190 (fun h => hk154 h) h)
def fX10_uses_154  (n : Nat) : Nat → Int32 → zS → Option zS := match n with
  | 0 => fun _ _ _ => none
  | n + 1 => fun l0 l2 s =>
    bnd (qI s 10 l0 33) fun x28 =>
    if x28 < l2 then
      some s
    else
      bnd (qR s 10 l0 42) fun x31 =>
      bnd (qR s 10 l0 42) fun x34 =>
      bnd (qA s 13 x34 l2) fun x37 =>
      if x37 = 0 then
        bnd (qR s 10 l0 43) fun x40 =>
        bnd (qA s 13 x40 l2) fun x43 =>
        if x43 = 0 then
          fX10_uses_190 ((fX10_uses_154  n)) l0 l2 0 l2 x31 s
        else
          fX10_uses_185 ((fX10_uses_154  n)) l0 l2 l2 x31 s
      else
        fX10_uses_185 ((fX10_uses_154  n)) l0 l2 l2 x31 s
set_option maxRecDepth 100000 in
set_option maxHeartbeats 4000000 in
theorem bX10_uses_154 {E : zE}  : ∀ (n : Nat) {l0 : Nat} {l2 : Int32} {s : zS} {q : zS}, fX10_uses_154  n l0 l2 s = some q → Z E mX10_uses 154 [(0, .ref l0), (2, .int l2)] [] s (0, 0) (zRv E mX10_uses q) := by
  intro n
  induction n with
  | zero => intro l0 l2 s q h; cases h
  | succ n ih =>
    intro l0 l2 s q h
    unfold fX10_uses_154 at h
    refine z_iload_n (pc := 154) 1 rfl dX10_uses_154 rfl ?_
    refine z_aload_n (pc := 155) 0 rfl dX10_uses_155 rfl ?_
    obtain ⟨a29, x28, e30, h⟩ := iI h
    refine y_getI (pc := 156) flRX10_207 dX10_uses_156 rfl a29 e30 ?_
    refine z_icmp_gt (pc := 159) (tgt := 197) dX10_uses_159 (by decide) (fun hc => ?_) (fun hc => ?_)
    · replace h := ifp hc h
      exact y_ret (pc := 197) dX10_uses_197 rfl h
    · replace h := ifn hc h
      refine z_aload_n (pc := 162) 0 rfl dX10_uses_162 rfl ?_
      obtain ⟨a32, x31, e33, h⟩ := iR h
      refine y_getR (pc := 163) flRX10_63 dX10_uses_163 rfl a32 e33 ?_
      refine z_iload_n (pc := 166) 1 rfl dX10_uses_166 rfl ?_
      refine z_aload_n (pc := 167) 0 rfl dX10_uses_167 rfl ?_
      obtain ⟨a35, x34, e36, h⟩ := iR h
      refine y_getR (pc := 168) flRX10_63 dX10_uses_168 rfl a35 e36 ?_
      refine z_iload_n (pc := 171) 1 rfl dX10_uses_171 rfl ?_
      obtain ⟨a38, x37, e39, h⟩ := iA h
      refine y_zald (pc := 172) dX10_uses_172 a38 e39 ?_
      refine z_if_ne (pc := 173) (tgt := 185) dX10_uses_173 (by decide) (fun hc => ?_) (fun hc => ?_)
      · replace h := ifn hc h
        exact z_sub [0, 1] rfl (bX10_uses_185 (fun h => ih h) h)
      · replace h := ifp hc h
        refine z_aload_n (pc := 176) 0 rfl dX10_uses_176 rfl ?_
        obtain ⟨a41, x40, e42, h⟩ := iR h
        refine y_getR (pc := 177) flRX10_66 dX10_uses_177 rfl a41 e42 ?_
        refine z_iload_n (pc := 180) 1 rfl dX10_uses_180 rfl ?_
        obtain ⟨a44, x43, e45, h⟩ := iA h
        refine y_zald (pc := 181) dX10_uses_181 a44 e45 ?_
        refine z_if_eq (pc := 182) (tgt := 189) dX10_uses_182 (by decide) (fun hc => ?_) (fun hc => ?_)
        · replace h := ifp hc h
          refine z_iconst (pc := 189) (v := 0) dX10_uses_189 (by decide) ?_
          exact z_sub [0, 1] rfl (bX10_uses_190 (fun h => ih h) h)
        · replace h := ifn hc h
          exact z_sub [0, 1] rfl (bX10_uses_185 (fun h => ih h) h)
def fX10_uses_137 (k95 : Nat → Int32 → Int32 → zS → Option zS) (l0 : Nat) (l1 : Int32) (l2 : Int32) (s : zS) : Option zS :=
  k95 l0 l1 (l2 + 1) s
set_option maxRecDepth 100000 in
set_option maxHeartbeats 4000000 in
theorem bX10_uses_137 {E : zE} {k95 : Nat → Int32 → Int32 → zS → Option zS} (hk95 : ∀ {l0 : Nat} {l1 : Int32} {l2 : Int32} {s : zS} {q : zS}, k95 l0 l1 l2 s = some q → Z E mX10_uses 95 [(0, .ref l0), (1, .int l1), (2, .int l2)] [] s (0, 0) (zRv E mX10_uses q)) {l0 : Nat} {l1 : Int32} {l2 : Int32} {s : zS} {q : zS} (h : fX10_uses_137 k95 l0 l1 l2 s = some q) : Z E mX10_uses 137 [(0, .ref l0), (1, .int l1), (2, .int l2)] [] s (0, 0) (zRv E mX10_uses q) := by
  unfold fX10_uses_137 at h
  refine z_iinc (pc := 137) (v := (l2 + 1)) (ls' := [(2, .int (l2 + 1)), (0, .ref l0), (1, .int l1)]) 2 rfl rfl dX10_uses_137 (by decide) (fun _ => rfl) ?_
  refine z_goto (pc := 140) (tgt := 95) dX10_uses_140 (by decide) ?_
  exact z_sub [1, 2, 0] rfl (hk95 h)
def fX10_uses_95  (n : Nat) : Nat → Int32 → Int32 → zS → Option zS := match n with
  | 0 => fun _ _ _ _ => none
  | n + 1 => fun l0 l1 l2 s =>
    bnd (qI s 10 l0 49) fun x19 =>
    if x19 ≤ l2 then
      bnd (qI s 10 l0 50) fun x22 =>
      bnd (cl s 10 l0 (fX10_keepHint l0 x22 l1 s)) fun q25 =>
      fX10_uses_154  zfu l0 1 q25
    else
      bnd (qR s 10 l0 48) fun x28 =>
      bnd (qA s 12 x28 l2) fun x31 =>
      if x31 ≤ 0 then
        fX10_uses_137 ((fX10_uses_95  n)) l0 l1 l2 s
      else
        bnd (qR s 10 l0 43) fun x34 =>
        bnd (qR s 10 l0 48) fun x37 =>
        bnd (qA s 12 x37 l2) fun x40 =>
        bnd (qA s 13 x34 x40) fun x43 =>
        if x43 = 0 then
          fX10_uses_137 ((fX10_uses_95  n)) l0 l1 l2 s
        else
          bnd (qR s 10 l0 48) fun x46 =>
          bnd (qA s 12 x46 l2) fun x49 =>
          bnd (cl s 10 l0 (fX10_keepHint l0 x49 l1 s)) fun q52 =>
          fX10_uses_137 ((fX10_uses_95  n)) l0 l1 l2 q52
set_option maxRecDepth 100000 in
set_option maxHeartbeats 4000000 in
theorem bX10_uses_95 {E : zE}  : ∀ (n : Nat) {l0 : Nat} {l1 : Int32} {l2 : Int32} {s : zS} {q : zS}, fX10_uses_95  n l0 l1 l2 s = some q → Z E mX10_uses 95 [(0, .ref l0), (1, .int l1), (2, .int l2)] [] s (0, 0) (zRv E mX10_uses q) := by
  intro n
  induction n with
  | zero => intro l0 l1 l2 s q h; cases h
  | succ n ih =>
    intro l0 l1 l2 s q h
    unfold fX10_uses_95 at h
    refine z_iload_n (pc := 95) 2 rfl dX10_uses_95 rfl ?_
    refine z_aload_n (pc := 96) 0 rfl dX10_uses_96 rfl ?_
    obtain ⟨a20, x19, e21, h⟩ := iI h
    refine y_getI (pc := 97) flRX10_226 dX10_uses_97 rfl a20 e21 ?_
    refine z_icmp_ge (pc := 100) (tgt := 143) dX10_uses_100 (by decide) (fun hc => ?_) (fun hc => ?_)
    · replace h := ifp hc h
      refine z_aload_n (pc := 143) 0 rfl dX10_uses_143 rfl ?_
      refine z_aload_n (pc := 144) 0 rfl dX10_uses_144 rfl ?_
      obtain ⟨a23, x22, e24, h⟩ := iI h
      refine y_getI (pc := 145) flRX10_232 dX10_uses_145 rfl a23 e24 ?_
      refine z_iload_n (pc := 148) 1 rfl dX10_uses_148 rfl ?_
      obtain ⟨a26, q25, e27, h⟩ := iC h
      refine y_V (pc := 149) (M2 := mX10_keepHint) (As := [.int x22, .int l1]) (okX10_keepHint e27) mvX10_keepHint mlRX10_263 dX10_uses_149 ⟨by decide, by decide⟩ rfl rfl rfl zrest0 a26 ?_
      refine z_iconst (pc := 152) (v := 1) dX10_uses_152 (by decide) ?_
      refine z_istore_n (pc := 153) (ls' := [(2, .int 1), (0, .ref l0), (1, .int l1)]) dX10_uses_153 rfl (by decide) (fun _ => rfl) ?_
      exact z_sub [1, 0] rfl (bX10_uses_154  _ h)
    · replace h := ifn hc h
      refine z_aload_n (pc := 103) 0 rfl dX10_uses_103 rfl ?_
      obtain ⟨a29, x28, e30, h⟩ := iR h
      refine y_getR (pc := 104) flRX10_81 dX10_uses_104 rfl a29 e30 ?_
      refine z_iload_n (pc := 107) 2 rfl dX10_uses_107 rfl ?_
      obtain ⟨a32, x31, e33, h⟩ := iA h
      refine y_iald (pc := 108) dX10_uses_108 a32 e33 ?_
      refine z_if_le (pc := 109) (tgt := 137) dX10_uses_109 (by decide) (fun hc => ?_) (fun hc => ?_)
      · replace h := ifp hc h
        exact z_sub [0, 1, 2] rfl (bX10_uses_137 (fun h => ih h) h)
      · replace h := ifn hc h
        refine z_aload_n (pc := 112) 0 rfl dX10_uses_112 rfl ?_
        obtain ⟨a35, x34, e36, h⟩ := iR h
        refine y_getR (pc := 113) flRX10_66 dX10_uses_113 rfl a35 e36 ?_
        refine z_aload_n (pc := 116) 0 rfl dX10_uses_116 rfl ?_
        obtain ⟨a38, x37, e39, h⟩ := iR h
        refine y_getR (pc := 117) flRX10_81 dX10_uses_117 rfl a38 e39 ?_
        refine z_iload_n (pc := 120) 2 rfl dX10_uses_120 rfl ?_
        obtain ⟨a41, x40, e42, h⟩ := iA h
        refine y_iald (pc := 121) dX10_uses_121 a41 e42 ?_
        obtain ⟨a44, x43, e45, h⟩ := iA h
        refine y_zald (pc := 122) dX10_uses_122 a44 e45 ?_
        refine z_if_eq (pc := 123) (tgt := 137) dX10_uses_123 (by decide) (fun hc => ?_) (fun hc => ?_)
        · replace h := ifp hc h
          exact z_sub [0, 1, 2] rfl (bX10_uses_137 (fun h => ih h) h)
        · replace h := ifn hc h
          refine z_aload_n (pc := 126) 0 rfl dX10_uses_126 rfl ?_
          refine z_aload_n (pc := 127) 0 rfl dX10_uses_127 rfl ?_
          obtain ⟨a47, x46, e48, h⟩ := iR h
          refine y_getR (pc := 128) flRX10_81 dX10_uses_128 rfl a47 e48 ?_
          refine z_iload_n (pc := 131) 2 rfl dX10_uses_131 rfl ?_
          obtain ⟨a50, x49, e51, h⟩ := iA h
          refine y_iald (pc := 132) dX10_uses_132 a50 e51 ?_
          refine z_iload_n (pc := 133) 1 rfl dX10_uses_133 rfl ?_
          obtain ⟨a53, q52, e54, h⟩ := iC h
          refine y_V (pc := 134) (M2 := mX10_keepHint) (As := [.int x49, .int l1]) (okX10_keepHint e54) mvX10_keepHint mlRX10_263 dX10_uses_134 ⟨by decide, by decide⟩ rfl rfl rfl zrest0 a53 ?_
          exact z_sub [0, 1, 2] rfl (bX10_uses_137 (fun h => ih h) h)
def fX10_uses_87 (k48 : Nat → Int32 → Int32 → zS → Option zS) (l0 : Nat) (l1 : Int32) (l2 : Int32) (s : zS) : Option zS :=
  k48 l0 l1 (l2 + (-1)) s
set_option maxRecDepth 100000 in
set_option maxHeartbeats 4000000 in
theorem bX10_uses_87 {E : zE} {k48 : Nat → Int32 → Int32 → zS → Option zS} (hk48 : ∀ {l0 : Nat} {l1 : Int32} {l2 : Int32} {s : zS} {q : zS}, k48 l0 l1 l2 s = some q → Z E mX10_uses 48 [(0, .ref l0), (1, .int l1), (2, .int l2)] [] s (0, 0) (zRv E mX10_uses q)) {l0 : Nat} {l1 : Int32} {l2 : Int32} {s : zS} {q : zS} (h : fX10_uses_87 k48 l0 l1 l2 s = some q) : Z E mX10_uses 87 [(0, .ref l0), (1, .int l1), (2, .int l2)] [] s (0, 0) (zRv E mX10_uses q) := by
  unfold fX10_uses_87 at h
  refine z_iinc (pc := 87) (v := (l2 + (-1))) (ls' := [(2, .int (l2 + (-1))), (0, .ref l0), (1, .int l1)]) 2 rfl (congrArg (fun z : Int32 => l2 + z) (show Int32.ofInt (-1) = -1 by decide)) dX10_uses_87 (by decide) (fun _ => rfl) ?_
  refine z_goto (pc := 90) (tgt := 48) dX10_uses_90 (by decide) ?_
  exact z_sub [1, 2, 0] rfl (hk48 h)
def fX10_uses_48  (n : Nat) : Nat → Int32 → Int32 → zS → Option zS := match n with
  | 0 => fun _ _ _ _ => none
  | n + 1 => fun l0 l1 l2 s =>
    if l2 < 0 then
      fX10_uses_95  zfu l0 l1 0 s
    else
      bnd (qR s 10 l0 48) fun x19 =>
      bnd (qA s 12 x19 l2) fun x22 =>
      if x22 ≤ 0 then
        fX10_uses_87 ((fX10_uses_48  n)) l0 l1 l2 s
      else
        bnd (qR s 10 l0 47) fun x25 =>
        bnd (qA s 12 x25 l2) fun x28 =>
        bnd (cl s 10 l0 (fX10_standsInUsed l0 (-x28) s)) fun q31 =>
        if q31.1 = 0 then
          fX10_uses_87 ((fX10_uses_48  n)) l0 l1 l2 q31.2
        else
          bnd (qR q31.2 10 l0 43) fun x34 =>
          bnd (qR q31.2 10 l0 48) fun x37 =>
          bnd (qA q31.2 12 x37 l2) fun x40 =>
          bnd (uZ q31.2 x34 x40 1) fun s43 =>
          fX10_uses_87 ((fX10_uses_48  n)) l0 l1 l2 s43
set_option maxRecDepth 100000 in
set_option maxHeartbeats 4000000 in
theorem bX10_uses_48 {E : zE}  : ∀ (n : Nat) {l0 : Nat} {l1 : Int32} {l2 : Int32} {s : zS} {q : zS}, fX10_uses_48  n l0 l1 l2 s = some q → Z E mX10_uses 48 [(0, .ref l0), (1, .int l1), (2, .int l2)] [] s (0, 0) (zRv E mX10_uses q) := by
  intro n
  induction n with
  | zero => intro l0 l1 l2 s q h; cases h
  | succ n ih =>
    intro l0 l1 l2 s q h
    unfold fX10_uses_48 at h
    refine z_iload_n (pc := 48) 2 rfl dX10_uses_48 rfl ?_
    refine z_if_lt (pc := 49) (tgt := 93) dX10_uses_49 (by decide) (fun hc => ?_) (fun hc => ?_)
    · replace h := ifp hc h
      refine z_iconst (pc := 93) (v := 0) dX10_uses_93 (by decide) ?_
      refine z_istore_n (pc := 94) (ls' := [(2, .int 0), (0, .ref l0), (1, .int l1)]) dX10_uses_94 rfl (by decide) (fun _ => rfl) ?_
      exact z_sub [1, 2, 0] rfl (bX10_uses_95  _ h)
    · replace h := ifn hc h
      refine z_aload_n (pc := 52) 0 rfl dX10_uses_52 rfl ?_
      obtain ⟨a20, x19, e21, h⟩ := iR h
      refine y_getR (pc := 53) flRX10_81 dX10_uses_53 rfl a20 e21 ?_
      refine z_iload_n (pc := 56) 2 rfl dX10_uses_56 rfl ?_
      obtain ⟨a23, x22, e24, h⟩ := iA h
      refine y_iald (pc := 57) dX10_uses_57 a23 e24 ?_
      refine z_if_le (pc := 58) (tgt := 87) dX10_uses_58 (by decide) (fun hc => ?_) (fun hc => ?_)
      · replace h := ifp hc h
        exact z_sub [0, 1, 2] rfl (bX10_uses_87 (fun h => ih h) h)
      · replace h := ifn hc h
        refine z_aload_n (pc := 61) 0 rfl dX10_uses_61 rfl ?_
        refine z_aload_n (pc := 62) 0 rfl dX10_uses_62 rfl ?_
        obtain ⟨a26, x25, e27, h⟩ := iR h
        refine y_getR (pc := 63) flRX10_78 dX10_uses_63 rfl a26 e27 ?_
        refine z_iload_n (pc := 66) 2 rfl dX10_uses_66 rfl ?_
        obtain ⟨a29, x28, e30, h⟩ := iA h
        refine y_iald (pc := 67) dX10_uses_67 a29 e30 ?_
        refine z_ineg (pc := 68) dX10_uses_68 ?_
        obtain ⟨a32, q31, e33, h⟩ := iC h
        refine y_Vi (pc := 69) (M2 := mX10_standsInUsed) (As := [.int (-x28)]) (okX10_standsInUsed e33) mvX10_standsInUsed mlRX10_260 dX10_uses_69 ⟨by decide, by decide⟩ rfl rfl rfl zrest0 a32 ?_
        refine z_if_eq (pc := 72) (tgt := 87) dX10_uses_72 (by decide) (fun hc => ?_) (fun hc => ?_)
        · replace h := ifp hc h
          exact z_sub [0, 1, 2] rfl (bX10_uses_87 (fun h => ih h) h)
        · replace h := ifn hc h
          refine z_aload_n (pc := 75) 0 rfl dX10_uses_75 rfl ?_
          obtain ⟨a35, x34, e36, h⟩ := iR h
          refine y_getR (pc := 76) flRX10_66 dX10_uses_76 rfl a35 e36 ?_
          refine z_aload_n (pc := 79) 0 rfl dX10_uses_79 rfl ?_
          obtain ⟨a38, x37, e39, h⟩ := iR h
          refine y_getR (pc := 80) flRX10_81 dX10_uses_80 rfl a38 e39 ?_
          refine z_iload_n (pc := 83) 2 rfl dX10_uses_83 rfl ?_
          obtain ⟨a41, x40, e42, h⟩ := iA h
          refine y_iald (pc := 84) dX10_uses_84 a41 e42 ?_
          refine z_iconst (pc := 85) (v := 1) dX10_uses_85 (by decide) ?_
          obtain ⟨a44, s43, e45, h⟩ := kZ h
          refine y_zast (pc := 86) dX10_uses_86 a44 e45 ?_
          exact z_sub [0, 1, 2] rfl (bX10_uses_87 (fun h => ih h) h)
def fX10_uses_10  (n : Nat) : Nat → Int32 → Int32 → zS → Option zS := match n with
  | 0 => fun _ _ _ _ => none
  | n + 1 => fun l0 l1 l2 s =>
    bnd (qI s 10 l0 33) fun x4 =>
    if x4 < l2 then
      bnd (qR s 10 l0 43) fun x7 =>
      bnd (qI s 10 l0 50) fun x10 =>
      bnd (uZ s x7 x10 1) fun s13 =>
      bnd (qI s13 10 l0 49) fun x16 =>
      fX10_uses_48  zfu l0 l1 (x16 - 1) s13
    else
      bnd (qR s 10 l0 43) fun x19 =>
      bnd (uZ s x19 l2 0) fun s22 =>
      (fX10_uses_10  n) l0 l1 (l2 + 1) s22
set_option maxRecDepth 100000 in
set_option maxHeartbeats 4000000 in
theorem bX10_uses_10 {E : zE}  : ∀ (n : Nat) {l0 : Nat} {l1 : Int32} {l2 : Int32} {s : zS} {q : zS}, fX10_uses_10  n l0 l1 l2 s = some q → Z E mX10_uses 10 [(0, .ref l0), (1, .int l1), (2, .int l2)] [] s (0, 0) (zRv E mX10_uses q) := by
  intro n
  induction n with
  | zero => intro l0 l1 l2 s q h; cases h
  | succ n ih =>
    intro l0 l1 l2 s q h
    unfold fX10_uses_10 at h
    refine z_iload_n (pc := 10) 2 rfl dX10_uses_10 rfl ?_
    refine z_aload_n (pc := 11) 0 rfl dX10_uses_11 rfl ?_
    obtain ⟨a5, x4, e6, h⟩ := iI h
    refine y_getI (pc := 12) flRX10_207 dX10_uses_12 rfl a5 e6 ?_
    refine z_icmp_gt (pc := 15) (tgt := 31) dX10_uses_15 (by decide) (fun hc => ?_) (fun hc => ?_)
    · replace h := ifp hc h
      refine z_aload_n (pc := 31) 0 rfl dX10_uses_31 rfl ?_
      obtain ⟨a8, x7, e9, h⟩ := iR h
      refine y_getR (pc := 32) flRX10_66 dX10_uses_32 rfl a8 e9 ?_
      refine z_aload_n (pc := 35) 0 rfl dX10_uses_35 rfl ?_
      obtain ⟨a11, x10, e12, h⟩ := iI h
      refine y_getI (pc := 36) flRX10_232 dX10_uses_36 rfl a11 e12 ?_
      refine z_iconst (pc := 39) (v := 1) dX10_uses_39 (by decide) ?_
      obtain ⟨a14, s13, e15, h⟩ := kZ h
      refine y_zast (pc := 40) dX10_uses_40 a14 e15 ?_
      refine z_aload_n (pc := 41) 0 rfl dX10_uses_41 rfl ?_
      obtain ⟨a17, x16, e18, h⟩ := iI h
      refine y_getI (pc := 42) flRX10_226 dX10_uses_42 rfl a17 e18 ?_
      refine z_iconst (pc := 45) (v := 1) dX10_uses_45 (by decide) ?_
      refine z_isub (pc := 46) dX10_uses_46 ?_
      refine z_istore_n (pc := 47) (ls' := [(2, .int (x16 - 1)), (0, .ref l0), (1, .int l1)]) dX10_uses_47 rfl (by decide) (fun _ => rfl) ?_
      exact z_sub [1, 2, 0] rfl (bX10_uses_48  _ h)
    · replace h := ifn hc h
      refine z_aload_n (pc := 18) 0 rfl dX10_uses_18 rfl ?_
      obtain ⟨a20, x19, e21, h⟩ := iR h
      refine y_getR (pc := 19) flRX10_66 dX10_uses_19 rfl a20 e21 ?_
      refine z_iload_n (pc := 22) 2 rfl dX10_uses_22 rfl ?_
      refine z_iconst (pc := 23) (v := 0) dX10_uses_23 (by decide) ?_
      obtain ⟨a23, s22, e24, h⟩ := kZ h
      refine y_zast (pc := 24) dX10_uses_24 a23 e24 ?_
      refine z_iinc (pc := 25) (v := (l2 + 1)) (ls' := [(2, .int (l2 + 1)), (0, .ref l0), (1, .int l1)]) 2 rfl rfl dX10_uses_25 (by decide) (fun _ => rfl) ?_
      refine z_goto (pc := 28) (tgt := 10) dX10_uses_28 (by decide) ?_
      exact z_sub [1, 2, 0] rfl (ih h)
def fX10_uses (l0 : Nat) (l1 : Int32) (s : zS) : Option zS :=
  bnd (qI s 10 l0 50) fun x1 =>
  if x1 = 0 then
    some s
  else
    fX10_uses_10  zfu l0 l1 0 s
set_option maxRecDepth 100000 in
set_option maxHeartbeats 4000000 in
theorem okX10_uses {E : zE} {l0 : Nat} {l1 : Int32} {s : zS} {t : zS} (h : fX10_uses l0 l1 s = some t) : Cv E mX10_uses [.ref l0, .int l1] s t := by
  refine Ct.of (ls := [(0, .ref l0), (1, .int l1)]) (by decide) rfl (Nat.le_of_ble_eq_true rfl) ?_
  show Z E mX10_uses 0 [(0, .ref l0), (1, .int l1)] [] s (0, 0) (zRv E mX10_uses t)
  unfold fX10_uses at h
  refine z_aload_n (pc := 0) 0 rfl dX10_uses_0 rfl ?_
  obtain ⟨a2, x1, e3, h⟩ := iI h
  refine y_getI (pc := 1) flRX10_232 dX10_uses_1 rfl a2 e3 ?_
  refine z_if_ne (pc := 4) (tgt := 8) dX10_uses_4 (by decide) (fun hc => ?_) (fun hc => ?_)
  · replace h := ifn hc h
    refine z_iconst (pc := 8) (v := 0) dX10_uses_8 (by decide) ?_
    refine z_istore_n (pc := 9) (ls' := [(2, .int 0), (0, .ref l0), (1, .int l1)]) dX10_uses_9 rfl (by decide) (fun _ => rfl) ?_
    exact z_sub [1, 2, 0] rfl (bX10_uses_10  _ h)
  · replace h := ifp hc h
    exact y_ret (pc := 7) dX10_uses_7 rfl h
def fX10_fromNothing_33  (n : Nat) : Nat → Int32 → zS → Option zS := match n with
  | 0 => fun _ _ _ => none
  | n + 1 => fun l0 l1 s =>
    bnd (qI s 10 l0 49) fun x10 =>
    if x10 ≤ l1 then
      some s
    else
      bnd (qR s 10 l0 44) fun x13 =>
      bnd (qR s 10 l0 48) fun x16 =>
      bnd (qA s 12 x16 l1) fun x19 =>
      bnd (uZ s x13 x19 1) fun s22 =>
      (fX10_fromNothing_33  n) l0 (l1 + 1) s22
set_option maxRecDepth 100000 in
set_option maxHeartbeats 4000000 in
theorem bX10_fromNothing_33 {E : zE}  : ∀ (n : Nat) {l0 : Nat} {l1 : Int32} {s : zS} {q : zS}, fX10_fromNothing_33  n l0 l1 s = some q → Z E mX10_fromNothing 33 [(0, .ref l0), (1, .int l1)] [] s (0, 0) (zRv E mX10_fromNothing q) := by
  intro n
  induction n with
  | zero => intro l0 l1 s q h; cases h
  | succ n ih =>
    intro l0 l1 s q h
    unfold fX10_fromNothing_33 at h
    refine z_iload_n (pc := 33) 1 rfl dX10_fromNothing_33 rfl ?_
    refine z_aload_n (pc := 34) 0 rfl dX10_fromNothing_34 rfl ?_
    obtain ⟨a11, x10, e12, h⟩ := iI h
    refine y_getI (pc := 35) flRX10_226 dX10_fromNothing_35 rfl a11 e12 ?_
    refine z_icmp_ge (pc := 38) (tgt := 59) dX10_fromNothing_38 (by decide) (fun hc => ?_) (fun hc => ?_)
    · replace h := ifp hc h
      exact y_ret (pc := 59) dX10_fromNothing_59 rfl h
    · replace h := ifn hc h
      refine z_aload_n (pc := 41) 0 rfl dX10_fromNothing_41 rfl ?_
      obtain ⟨a14, x13, e15, h⟩ := iR h
      refine y_getR (pc := 42) flRX10_69 dX10_fromNothing_42 rfl a14 e15 ?_
      refine z_aload_n (pc := 45) 0 rfl dX10_fromNothing_45 rfl ?_
      obtain ⟨a17, x16, e18, h⟩ := iR h
      refine y_getR (pc := 46) flRX10_81 dX10_fromNothing_46 rfl a17 e18 ?_
      refine z_iload_n (pc := 49) 1 rfl dX10_fromNothing_49 rfl ?_
      obtain ⟨a20, x19, e21, h⟩ := iA h
      refine y_iald (pc := 50) dX10_fromNothing_50 a20 e21 ?_
      refine z_iconst (pc := 51) (v := 1) dX10_fromNothing_51 (by decide) ?_
      obtain ⟨a23, s22, e24, h⟩ := kZ h
      refine y_zast (pc := 52) dX10_fromNothing_52 a23 e24 ?_
      refine z_iinc (pc := 53) (v := (l1 + 1)) (ls' := [(1, .int (l1 + 1)), (0, .ref l0)]) 1 rfl rfl dX10_fromNothing_53 (by decide) (fun _ => rfl) ?_
      refine z_goto (pc := 56) (tgt := 33) dX10_fromNothing_56 (by decide) ?_
      exact z_sub [1, 0] rfl (ih h)
def fX10_fromNothing_10  (n : Nat) : Nat → Int32 → zS → Option zS := match n with
  | 0 => fun _ _ _ => none
  | n + 1 => fun l0 l1 s =>
    bnd (qI s 10 l0 33) fun x7 =>
    if x7 < l1 then
      fX10_fromNothing_33  zfu l0 0 s
    else
      bnd (qR s 10 l0 44) fun x10 =>
      bnd (uZ s x10 l1 0) fun s13 =>
      (fX10_fromNothing_10  n) l0 (l1 + 1) s13
set_option maxRecDepth 100000 in
set_option maxHeartbeats 4000000 in
theorem bX10_fromNothing_10 {E : zE}  : ∀ (n : Nat) {l0 : Nat} {l1 : Int32} {s : zS} {q : zS}, fX10_fromNothing_10  n l0 l1 s = some q → Z E mX10_fromNothing 10 [(0, .ref l0), (1, .int l1)] [] s (0, 0) (zRv E mX10_fromNothing q) := by
  intro n
  induction n with
  | zero => intro l0 l1 s q h; cases h
  | succ n ih =>
    intro l0 l1 s q h
    unfold fX10_fromNothing_10 at h
    refine z_iload_n (pc := 10) 1 rfl dX10_fromNothing_10 rfl ?_
    refine z_aload_n (pc := 11) 0 rfl dX10_fromNothing_11 rfl ?_
    obtain ⟨a8, x7, e9, h⟩ := iI h
    refine y_getI (pc := 12) flRX10_207 dX10_fromNothing_12 rfl a8 e9 ?_
    refine z_icmp_gt (pc := 15) (tgt := 31) dX10_fromNothing_15 (by decide) (fun hc => ?_) (fun hc => ?_)
    · replace h := ifp hc h
      refine z_iconst (pc := 31) (v := 0) dX10_fromNothing_31 (by decide) ?_
      refine z_istore_n (pc := 32) (ls' := [(1, .int 0), (0, .ref l0)]) dX10_fromNothing_32 rfl (by decide) (fun _ => rfl) ?_
      exact z_sub [1, 0] rfl (bX10_fromNothing_33  _ h)
    · replace h := ifn hc h
      refine z_aload_n (pc := 18) 0 rfl dX10_fromNothing_18 rfl ?_
      obtain ⟨a11, x10, e12, h⟩ := iR h
      refine y_getR (pc := 19) flRX10_69 dX10_fromNothing_19 rfl a11 e12 ?_
      refine z_iload_n (pc := 22) 1 rfl dX10_fromNothing_22 rfl ?_
      refine z_iconst (pc := 23) (v := 0) dX10_fromNothing_23 (by decide) ?_
      obtain ⟨a14, s13, e15, h⟩ := kZ h
      refine y_zast (pc := 24) dX10_fromNothing_24 a14 e15 ?_
      refine z_iinc (pc := 25) (v := (l1 + 1)) (ls' := [(1, .int (l1 + 1)), (0, .ref l0)]) 1 rfl rfl dX10_fromNothing_25 (by decide) (fun _ => rfl) ?_
      refine z_goto (pc := 28) (tgt := 10) dX10_fromNothing_28 (by decide) ?_
      exact z_sub [1, 0] rfl (ih h)
def fX10_fromNothing (l0 : Nat) (s : zS) : Option zS :=
  bnd (cl s 10 l0 (fX10_begin l0  s)) fun q1 =>
  bnd (cl q1 10 l0 (fX10_propagate l0  q1)) fun q4 =>
  fX10_fromNothing_10  zfu l0 0 q4
set_option maxRecDepth 100000 in
set_option maxHeartbeats 4000000 in
theorem okX10_fromNothing {E : zE} {l0 : Nat} {s : zS} {t : zS} (h : fX10_fromNothing l0 s = some t) : Cv E mX10_fromNothing [.ref l0] s t := by
  refine Ct.of (ls := [(0, .ref l0)]) (by decide) rfl (Nat.le_of_ble_eq_true rfl) ?_
  show Z E mX10_fromNothing 0 [(0, .ref l0)] [] s (0, 0) (zRv E mX10_fromNothing t)
  unfold fX10_fromNothing at h
  refine z_aload_n (pc := 0) 0 rfl dX10_fromNothing_0 rfl ?_
  obtain ⟨a2, q1, e3, h⟩ := iC h
  refine y_V (pc := 1) (M2 := mX10_begin) (As := []) (okX10_begin e3) mvX10_begin mlRX10_266 dX10_fromNothing_1 ⟨by decide, by decide⟩ rfl rfl rfl zrest0 a2 ?_
  refine z_aload_n (pc := 4) 0 rfl dX10_fromNothing_4 rfl ?_
  obtain ⟨a5, q4, e6, h⟩ := iC h
  refine y_V (pc := 5) (M2 := mX10_propagate) (As := []) (okX10_propagate e6) mvX10_propagate mlRX10_269 dX10_fromNothing_5 ⟨by decide, by decide⟩ rfl rfl rfl zrest0 a5 ?_
  refine z_iconst (pc := 8) (v := 0) dX10_fromNothing_8 (by decide) ?_
  refine z_istore_n (pc := 9) (ls' := [(1, .int 0), (0, .ref l0)]) dX10_fromNothing_9 rfl (by decide) (fun _ => rfl) ?_
  exact z_sub [1, 0] rfl (bX10_fromNothing_10  _ h)
